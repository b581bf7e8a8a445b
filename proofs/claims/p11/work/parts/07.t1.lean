theorem dJ6_bitCount_0f7a4_0 : decode cJ6_bitCount_0f7a4 0 = .ok (.iload_n 0, 1) := by decide +kernel
theorem dJ6_bitCount_0f7a4_1 : decode cJ6_bitCount_0f7a4 1 = .ok (.iload_n 0, 1) := by decide +kernel
theorem dJ6_bitCount_0f7a4_2 : decode cJ6_bitCount_0f7a4 2 = .ok (.iconst 1, 1) := by decide +kernel
theorem dJ6_bitCount_0f7a4_3 : decode cJ6_bitCount_0f7a4 3 = .ok (.iushr, 1) := by decide +kernel
theorem dJ6_bitCount_0f7a4_4 : decode cJ6_bitCount_0f7a4 4 = .ok (.ldc_w 265, 3) := by decide +kernel
theorem dJ6_bitCount_0f7a4_7 : decode cJ6_bitCount_0f7a4 7 = .ok (.iand, 1) := by decide +kernel
theorem dJ6_bitCount_0f7a4_8 : decode cJ6_bitCount_0f7a4 8 = .ok (.isub, 1) := by decide +kernel
theorem dJ6_bitCount_0f7a4_9 : decode cJ6_bitCount_0f7a4 9 = .ok (.istore_n 0, 1) := by decide +kernel
theorem dJ6_bitCount_0f7a4_10 : decode cJ6_bitCount_0f7a4 10 = .ok (.iload_n 0, 1) := by decide +kernel
theorem dJ6_bitCount_0f7a4_11 : decode cJ6_bitCount_0f7a4 11 = .ok (.ldc_w 266, 3) := by decide +kernel
theorem dJ6_bitCount_0f7a4_14 : decode cJ6_bitCount_0f7a4 14 = .ok (.iand, 1) := by decide +kernel
theorem dJ6_bitCount_0f7a4_15 : decode cJ6_bitCount_0f7a4 15 = .ok (.iload_n 0, 1) := by decide +kernel
theorem dJ6_bitCount_0f7a4_16 : decode cJ6_bitCount_0f7a4 16 = .ok (.iconst 2, 1) := by decide +kernel
theorem dJ6_bitCount_0f7a4_17 : decode cJ6_bitCount_0f7a4 17 = .ok (.iushr, 1) := by decide +kernel
theorem dJ6_bitCount_0f7a4_18 : decode cJ6_bitCount_0f7a4 18 = .ok (.ldc_w 266, 3) := by decide +kernel
theorem dJ6_bitCount_0f7a4_21 : decode cJ6_bitCount_0f7a4 21 = .ok (.iand, 1) := by decide +kernel
theorem dJ6_bitCount_0f7a4_22 : decode cJ6_bitCount_0f7a4 22 = .ok (.iadd, 1) := by decide +kernel
theorem dJ6_bitCount_0f7a4_23 : decode cJ6_bitCount_0f7a4 23 = .ok (.istore_n 0, 1) := by decide +kernel
theorem dJ6_bitCount_0f7a4_24 : decode cJ6_bitCount_0f7a4 24 = .ok (.iload_n 0, 1) := by decide +kernel
theorem dJ6_bitCount_0f7a4_25 : decode cJ6_bitCount_0f7a4 25 = .ok (.iload_n 0, 1) := by decide +kernel
theorem dJ6_bitCount_0f7a4_26 : decode cJ6_bitCount_0f7a4 26 = .ok (.iconst 4, 1) := by decide +kernel
theorem dJ6_bitCount_0f7a4_27 : decode cJ6_bitCount_0f7a4 27 = .ok (.iushr, 1) := by decide +kernel
theorem dJ6_bitCount_0f7a4_28 : decode cJ6_bitCount_0f7a4 28 = .ok (.iadd, 1) := by decide +kernel
theorem dJ6_bitCount_0f7a4_29 : decode cJ6_bitCount_0f7a4 29 = .ok (.ldc_w 267, 3) := by decide +kernel
theorem dJ6_bitCount_0f7a4_32 : decode cJ6_bitCount_0f7a4 32 = .ok (.iand, 1) := by decide +kernel
theorem dJ6_bitCount_0f7a4_33 : decode cJ6_bitCount_0f7a4 33 = .ok (.istore_n 0, 1) := by decide +kernel
theorem dJ6_bitCount_0f7a4_34 : decode cJ6_bitCount_0f7a4 34 = .ok (.iload_n 0, 1) := by decide +kernel
theorem dJ6_bitCount_0f7a4_35 : decode cJ6_bitCount_0f7a4 35 = .ok (.iload_n 0, 1) := by decide +kernel
theorem dJ6_bitCount_0f7a4_36 : decode cJ6_bitCount_0f7a4 36 = .ok (.bipush 8, 2) := by decide +kernel
theorem dJ6_bitCount_0f7a4_38 : decode cJ6_bitCount_0f7a4 38 = .ok (.iushr, 1) := by decide +kernel
theorem dJ6_bitCount_0f7a4_39 : decode cJ6_bitCount_0f7a4 39 = .ok (.iadd, 1) := by decide +kernel
theorem dJ6_bitCount_0f7a4_40 : decode cJ6_bitCount_0f7a4 40 = .ok (.istore_n 0, 1) := by decide +kernel
theorem dJ6_bitCount_0f7a4_41 : decode cJ6_bitCount_0f7a4 41 = .ok (.iload_n 0, 1) := by decide +kernel
theorem dJ6_bitCount_0f7a4_42 : decode cJ6_bitCount_0f7a4 42 = .ok (.iload_n 0, 1) := by decide +kernel
theorem dJ6_bitCount_0f7a4_43 : decode cJ6_bitCount_0f7a4 43 = .ok (.bipush 16, 2) := by decide +kernel
theorem dJ6_bitCount_0f7a4_45 : decode cJ6_bitCount_0f7a4 45 = .ok (.iushr, 1) := by decide +kernel
theorem dJ6_bitCount_0f7a4_46 : decode cJ6_bitCount_0f7a4 46 = .ok (.iadd, 1) := by decide +kernel
theorem dJ6_bitCount_0f7a4_47 : decode cJ6_bitCount_0f7a4 47 = .ok (.istore_n 0, 1) := by decide +kernel
theorem dJ6_bitCount_0f7a4_48 : decode cJ6_bitCount_0f7a4 48 = .ok (.iload_n 0, 1) := by decide +kernel
theorem dJ6_bitCount_0f7a4_49 : decode cJ6_bitCount_0f7a4 49 = .ok (.bipush 63, 2) := by decide +kernel
theorem dJ6_bitCount_0f7a4_51 : decode cJ6_bitCount_0f7a4 51 = .ok (.iand, 1) := by decide +kernel
theorem dJ6_bitCount_0f7a4_52 : decode cJ6_bitCount_0f7a4 52 = .ok (.ireturn, 1) := by decide +kernel
set_option maxHeartbeats 4000000 in
set_option maxRecDepth 100000 in
theorem c_J6_bitCount_0f7a4 (l : Launch) (D : va_G) (tys : List (ClassId × FieldType)) (base : Nat) (G : iv_G) (x_0 : Int32) (i_x_0 : iv_R (-2147483648) 2147483647 x_0) : Met l yJ6_bitCount_0f7a4 (Cond.code yJ6_bitCount_0f7a4 cJ6_bitCount_0f7a4 1 (some .int) :: iv_W0) ({ frames := 0, cells := 0, slots := 0, locals := 0 }) (iv_Pc iv_sh D classes tys base G [.int x_0]) (iv_Qi iv_sh D classes tys base (fun v G' => G = G' ∧ iv_R 0 63 v)) 0 0 (iv_A base) := by
  refine iv_head (by decide) (Nat.le_of_ble_eq_true rfl) ?_
  intro p e s m args below meth c ls X hr hlocks hname hB hl
  have X := X
  have hx := X.1.1
  have hb := X.1.2.1
  have hl : lv_has ls 1 [(0, .int x_0)] := hl
  refine lv_iload_n hx hb dJ6_bitCount_0f7a4_0 rfl (lv_at hl 0 rfl) ?_
  refine lv_iload_n hx hb dJ6_bitCount_0f7a4_1 rfl (lv_at hl 0 rfl) ?_
  refine lv_iconst (v := 1) hx hb dJ6_bitCount_0f7a4_2 (by decide) ?_
  refine lv_iushr hx hb dJ6_bitCount_0f7a4_3 rfl ?_
  refine lv_topi (fun x1 e_x1 => ?_)
  have i_x1 := iv_R.all x1
  refine lv_ldcw (v := 1431655765) hx hb X.1.2.2.2.1 (X.1.2.2.2.2 _ k_ct_J6_265) dJ6_bitCount_0f7a4_4 ?_
  refine iv_iand_r hx hb q_1431655765 (by decide) dJ6_bitCount_0f7a4_7 (fun x2 e_x2 i_x2 => ?_)
  refine lv_isub hx hb dJ6_bitCount_0f7a4_8 ?_
  refine lv_topi (fun x3 e_x3 => ?_)
  have i_x3 := iv_R.all x3
  refine lv_istore_n (lv' := [(0, .int x3)]) hx hb dJ6_bitCount_0f7a4_9 rfl hl (by decide) rfl (fun ls hl => ?_)
  refine lv_iload_n hx hb dJ6_bitCount_0f7a4_10 rfl (lv_at hl 0 rfl) ?_
  refine lv_ldcw (v := 858993459) hx hb X.1.2.2.2.1 (X.1.2.2.2.2 _ k_ct_J6_266) dJ6_bitCount_0f7a4_11 ?_
  refine iv_iand_r hx hb q_858993459 (by decide) dJ6_bitCount_0f7a4_14 (fun x4 e_x4 i_x4 => ?_)
  refine lv_iload_n hx hb dJ6_bitCount_0f7a4_15 rfl (lv_at hl 0 rfl) ?_
  refine lv_iconst (v := 2) hx hb dJ6_bitCount_0f7a4_16 (by decide) ?_
  refine lv_iushr hx hb dJ6_bitCount_0f7a4_17 rfl ?_
  refine lv_topi (fun x5 e_x5 => ?_)
  have i_x5 := iv_R.all x5
  refine lv_ldcw (v := 858993459) hx hb X.1.2.2.2.1 (X.1.2.2.2.2 _ k_ct_J6_266) dJ6_bitCount_0f7a4_18 ?_
  refine iv_iand_r hx hb q_858993459 (by decide) dJ6_bitCount_0f7a4_21 (fun x6 e_x6 i_x6 => ?_)
  refine iv_iadd hx hb i_x4 i_x6 (lo := 0) (hi := 1717986918) (by decide) dJ6_bitCount_0f7a4_22 (fun x7 e_x7 i_x7 => ?_)
  refine lv_istore_n (lv' := [(0, .int x7)]) hx hb dJ6_bitCount_0f7a4_23 rfl hl (by decide) rfl (fun ls hl => ?_)
  refine lv_iload_n hx hb dJ6_bitCount_0f7a4_24 rfl (lv_at hl 0 rfl) ?_
  refine lv_iload_n hx hb dJ6_bitCount_0f7a4_25 rfl (lv_at hl 0 rfl) ?_
  refine lv_iconst (v := 4) hx hb dJ6_bitCount_0f7a4_26 (by decide) ?_
  refine lv_iushr hx hb dJ6_bitCount_0f7a4_27 rfl ?_
  refine lv_topi (fun x8 e_x8 => ?_)
  have i_x8 := iv_R.all x8
  refine lv_iadd hx hb dJ6_bitCount_0f7a4_28 ?_
  refine lv_topi (fun x9 e_x9 => ?_)
  have i_x9 := iv_R.all x9
  refine lv_ldcw (v := 252645135) hx hb X.1.2.2.2.1 (X.1.2.2.2.2 _ k_ct_J6_267) dJ6_bitCount_0f7a4_29 ?_
  refine iv_iand_r hx hb q_252645135 (by decide) dJ6_bitCount_0f7a4_32 (fun x10 e_x10 i_x10 => ?_)
  refine lv_istore_n (lv' := [(0, .int x10)]) hx hb dJ6_bitCount_0f7a4_33 rfl hl (by decide) rfl (fun ls hl => ?_)
  refine lv_iload_n hx hb dJ6_bitCount_0f7a4_34 rfl (lv_at hl 0 rfl) ?_
  refine lv_iload_n hx hb dJ6_bitCount_0f7a4_35 rfl (lv_at hl 0 rfl) ?_
  refine lv_bipush (v := 8) hx hb dJ6_bitCount_0f7a4_36 (by decide) ?_
  refine lv_iushr hx hb dJ6_bitCount_0f7a4_38 rfl ?_
  refine lv_topi (fun x11 e_x11 => ?_)
  have i_x11 := iv_R.all x11
  refine lv_iadd hx hb dJ6_bitCount_0f7a4_39 ?_
  refine lv_topi (fun x12 e_x12 => ?_)
  have i_x12 := iv_R.all x12
  refine lv_istore_n (lv' := [(0, .int x12)]) hx hb dJ6_bitCount_0f7a4_40 rfl hl (by decide) rfl (fun ls hl => ?_)
  refine lv_iload_n hx hb dJ6_bitCount_0f7a4_41 rfl (lv_at hl 0 rfl) ?_
  refine lv_iload_n hx hb dJ6_bitCount_0f7a4_42 rfl (lv_at hl 0 rfl) ?_
  refine lv_bipush (v := 16) hx hb dJ6_bitCount_0f7a4_43 (by decide) ?_
  refine lv_iushr hx hb dJ6_bitCount_0f7a4_45 rfl ?_
  refine lv_topi (fun x13 e_x13 => ?_)
  have i_x13 := iv_R.all x13
  refine lv_iadd hx hb dJ6_bitCount_0f7a4_46 ?_
  refine lv_topi (fun x14 e_x14 => ?_)
  have i_x14 := iv_R.all x14
  refine lv_istore_n (lv' := [(0, .int x14)]) hx hb dJ6_bitCount_0f7a4_47 rfl hl (by decide) rfl (fun ls hl => ?_)
  refine lv_iload_n hx hb dJ6_bitCount_0f7a4_48 rfl (lv_at hl 0 rfl) ?_
  refine lv_bipush (v := 63) hx hb dJ6_bitCount_0f7a4_49 (by decide) ?_
  refine iv_iand_r hx hb q_63 (by decide) dJ6_bitCount_0f7a4_51 (fun x15 e_x15 i_x15 => ?_)
  exact iv_iret X hr hlocks hB ⟨rfl, i_x15⟩ dJ6_bitCount_0f7a4_52
theorem dX5_bellsWithLineAt_0 : decode cX5_bellsWithLineAt 0 = .ok (.iconst 0, 1) := by decide +kernel
theorem dX5_bellsWithLineAt_1 : decode cX5_bellsWithLineAt 1 = .ok (.istore_n 2, 1) := by decide +kernel
theorem dX5_bellsWithLineAt_2 : decode cX5_bellsWithLineAt 2 = .ok (.iconst 0, 1) := by decide +kernel
theorem dX5_bellsWithLineAt_3 : decode cX5_bellsWithLineAt 3 = .ok (.istore_n 3, 1) := by decide +kernel
theorem dX5_bellsWithLineAt_4 : decode cX5_bellsWithLineAt 4 = .ok (.iload_n 3, 1) := by decide +kernel
theorem dX5_bellsWithLineAt_5 : decode cX5_bellsWithLineAt 5 = .ok (.aload_n 0, 1) := by decide +kernel
theorem dX5_bellsWithLineAt_6 : decode cX5_bellsWithLineAt 6 = .ok (.getfield 61, 3) := by decide +kernel
theorem dX5_bellsWithLineAt_9 : decode cX5_bellsWithLineAt 9 = .ok (.if_icmp .ge 24, 3) := by decide +kernel
theorem dX5_bellsWithLineAt_12 : decode cX5_bellsWithLineAt 12 = .ok (.iload_n 2, 1) := by decide +kernel
theorem dX5_bellsWithLineAt_13 : decode cX5_bellsWithLineAt 13 = .ok (.aload_n 0, 1) := by decide +kernel
theorem dX5_bellsWithLineAt_14 : decode cX5_bellsWithLineAt 14 = .ok (.getfield 40, 3) := by decide +kernel
theorem dX5_bellsWithLineAt_17 : decode cX5_bellsWithLineAt 17 = .ok (.iload_n 3, 1) := by decide +kernel
theorem dX5_bellsWithLineAt_18 : decode cX5_bellsWithLineAt 18 = .ok (.iaload, 1) := by decide +kernel
theorem dX5_bellsWithLineAt_19 : decode cX5_bellsWithLineAt 19 = .ok (.iload_n 1, 1) := by decide +kernel
theorem dX5_bellsWithLineAt_20 : decode cX5_bellsWithLineAt 20 = .ok (.iushr, 1) := by decide +kernel
theorem dX5_bellsWithLineAt_21 : decode cX5_bellsWithLineAt 21 = .ok (.iconst 1, 1) := by decide +kernel
theorem dX5_bellsWithLineAt_22 : decode cX5_bellsWithLineAt 22 = .ok (.iand, 1) := by decide +kernel
theorem dX5_bellsWithLineAt_23 : decode cX5_bellsWithLineAt 23 = .ok (.iload_n 3, 1) := by decide +kernel
theorem dX5_bellsWithLineAt_24 : decode cX5_bellsWithLineAt 24 = .ok (.ishl, 1) := by decide +kernel
theorem dX5_bellsWithLineAt_25 : decode cX5_bellsWithLineAt 25 = .ok (.ior, 1) := by decide +kernel
theorem dX5_bellsWithLineAt_26 : decode cX5_bellsWithLineAt 26 = .ok (.istore_n 2, 1) := by decide +kernel
theorem dX5_bellsWithLineAt_27 : decode cX5_bellsWithLineAt 27 = .ok (.iinc 3 1, 3) := by decide +kernel
theorem dX5_bellsWithLineAt_30 : decode cX5_bellsWithLineAt 30 = .ok (.goto (-26), 3) := by decide +kernel
theorem dX5_bellsWithLineAt_33 : decode cX5_bellsWithLineAt 33 = .ok (.iload_n 2, 1) := by decide +kernel
theorem dX5_bellsWithLineAt_34 : decode cX5_bellsWithLineAt 34 = .ok (.ireturn, 1) := by decide +kernel
set_option maxHeartbeats 4000000 in
set_option maxRecDepth 100000 in
theorem c_X5_bellsWithLineAt (l : Launch) (D : va_G) (tys : List (ClassId × FieldType)) (base : Nat) (G : iv_G) (h0 : Nat) (g_h0 : Nat → Int32) (r_h0 : Nat → Nat) (a_h0 : G h0 = some (5, g_h0, r_h0)) (x_0 : Int32) (i_x_0 : iv_R 0 23 x_0) : Met l yX5_bellsWithLineAt (Cond.code yX5_bellsWithLineAt cX5_bellsWithLineAt 4 (some .int) :: iv_W0) ({ frames := 0, cells := 0, slots := 0, locals := 0 }) (iv_Pc iv_sh D classes tys base G [.ref h0, .int x_0]) (iv_Qi iv_sh D classes tys base (fun v G' => G = G' ∧ iv_R (-2147483648) 2147483647 v)) 0 0 (iv_A base) := by
  refine iv_head (by decide) (Nat.le_of_ble_eq_true rfl) ?_
  intro p e s m args below meth c ls X hr hlocks hname hB hl
  have X := X
  have hx := X.1.1
  have hb := X.1.2.1
  have hl : lv_has ls 4 [(0, .ref h0), (1, .int x_0)] := hl
  refine lv_iconst (v := 0) hx hb dX5_bellsWithLineAt_0 (by decide) ?_
  refine lv_istore_n (lv' := [(2, .int 0), (0, .ref h0), (1, .int x_0)]) hx hb dX5_bellsWithLineAt_1 rfl hl (by decide) rfl (fun ls hl => ?_)
  refine lv_iconst (v := 0) hx hb dX5_bellsWithLineAt_2 (by decide) ?_
  refine lv_istore_n (lv' := [(3, .int 0), (2, .int 0), (0, .ref h0), (1, .int x_0)]) hx hb dX5_bellsWithLineAt_3 rfl hl (by decide) rfl (fun ls hl => ?_)
  have L_4 : ∀ (n_4 : Nat) (H : Heap) (locs : List Loc) (hB : iv_B iv_sh D classes tys base G s.heap H locs) (x1 : Int32) (i_x1 : iv_R (-2147483648) 2147483647 x1) (x2 : Int32) (i_x2 : iv_R 0 10 x2) (hn : (11 - x2.toInt).toNat < n_4) (ls : Array Slot) (hl : lv_has ls 4 [(3, .int x2), (2, .int x1), (0, .ref h0), (1, .int x_0)]), W p l e ({ frames := 0, cells := 0, slots := 0, locals := 0 } : Room) s m args below meth c H locs 0 0 (MQ below (iv_Qi iv_sh D classes tys base (fun v G' => G = G' ∧ iv_R (-2147483648) 2147483647 v)) args s 0 0 (iv_A base)) (F0 m 4 ls []) := by
    intro n_4
    induction n_4 with
    | zero => intro H locs hB x1 i_x1 x2 i_x2 hn ls hl; exact absurd hn (Nat.not_lt_zero _)
    | succ n_4 ih_4 =>
      intro H locs hB x1 i_x1 x2 i_x2 hn ls hl
      refine lv_iload_n hx hb dX5_bellsWithLineAt_4 rfl (lv_at hl 0 rfl) ?_
      refine lv_aload_n hx hb dX5_bellsWithLineAt_5 rfl (lv_at hl 2 rfl) ?_
      refine iv_geti X ft_X5 hB a_h0 sh_5 1 (by decide) rfl k_fl_X5_61 dX5_bellsWithLineAt_6 (fun x3 e_x3 i_x3 => ?_)
      refine lv_icmp_ge (tgt := 33) hx hb dX5_bellsWithLineAt_9 (by decide) (fun c4 => ?_) (fun c4 => ?_)
      · skip
        refine lv_iload_n hx hb dX5_bellsWithLineAt_33 rfl (lv_at hl 1 rfl) ?_
        exact iv_iret X hr hlocks hB ⟨rfl, i_x1⟩ dX5_bellsWithLineAt_34
      · skip
        have i4_x2 : iv_R 0 9 x2 := (i_x2.cutHi (n := 9) (iv_lt_r (iv_nle c4) i_x3 (by decide)))
        have i5_x3 : iv_R 1 10 x3 := (i_x3.cutLo (n := 1) (iv_lt_l (iv_nle c4) i_x2 (by decide)))
        refine lv_iload_n hx hb dX5_bellsWithLineAt_12 rfl (lv_at hl 1 rfl) ?_
        refine lv_aload_n hx hb dX5_bellsWithLineAt_13 rfl (lv_at hl 2 rfl) ?_
        refine iv_getr X ft_X5 hB a_h0 sh_5 11 (by decide) rfl k_fl_X5_40 dX5_bellsWithLineAt_14 (fun b7 g_b7 r_b7 e_b7 a_b7 => ?_)
        refine lv_iload_n hx hb dX5_bellsWithLineAt_17 rfl (lv_at hl 0 rfl) ?_
        refine iv_ald X hB a_b7 sh_21 (iv_in i4_x2 (by decide)) dX5_bellsWithLineAt_18 (fun x8 e_x8 i_x8 => ?_)
        refine lv_iload_n hx hb dX5_bellsWithLineAt_19 rfl (lv_at hl 3 rfl) ?_
        refine lv_iushr hx hb dX5_bellsWithLineAt_20 rfl ?_
        refine lv_topi (fun x9 e_x9 => ?_)
        have i_x9 := iv_R.all x9
        refine lv_iconst (v := 1) hx hb dX5_bellsWithLineAt_21 (by decide) ?_
        refine iv_iand_r hx hb q_1 (by decide) dX5_bellsWithLineAt_22 (fun x10 e_x10 i_x10 => ?_)
        refine lv_iload_n hx hb dX5_bellsWithLineAt_23 rfl (lv_at hl 0 rfl) ?_
        refine lv_ishl hx hb dX5_bellsWithLineAt_24 ?_
        refine lv_topi (fun x11 e_x11 => ?_)
        have i_x11 := iv_R.all x11
        refine lv_ior hx hb dX5_bellsWithLineAt_25 ?_
        refine lv_topi (fun x12 e_x12 => ?_)
        have i_x12 := iv_R.all x12
        refine lv_istore_n (lv' := [(2, .int x12), (3, .int x2), (0, .ref h0), (1, .int x_0)]) hx hb dX5_bellsWithLineAt_26 rfl hl (by decide) rfl (fun ls hl => ?_)
        refine iv_iinc hx hb i4_x2 (lo := 1) (hi := 10) (by decide) dX5_bellsWithLineAt_27 hl (k := 1) rfl (by decide) (fun x13 ls e_x13 i_x13 hl => ?_)
        have hl : lv_has ls 4 [(3, .int x13), (2, .int x12), (0, .ref h0), (1, .int x_0)] := hl
        refine lv_goto (tgt := 4) hx hb dX5_bellsWithLineAt_30 (by decide) ?_
        exact ih_4 _ _ hB x12 i_x12 x13 (i_x13.wk (by decide)) (iv_mup (c := 1) i_x2 (by decide) (by decide) (by omega) hn) _ (lv_sub hl [0, 1, 2, 3] rfl)
  exact L_4 _ _ _ hB 0 (q_0.wk (by decide)) 0 (q_0.wk (by decide)) (Nat.lt_succ_self _) _ (lv_sub hl [0, 1, 2, 3] rfl)
theorem dX8_has_0 : decode cX8_has 0 = .ok (.iload_n 1, 1) := by decide +kernel
theorem dX8_has_1 : decode cX8_has 1 = .ok (.ifCond .lt 15, 3) := by decide +kernel
theorem dX8_has_4 : decode cX8_has 4 = .ok (.iload_n 1, 1) := by decide +kernel
theorem dX8_has_5 : decode cX8_has 5 = .ok (.aload_n 0, 1) := by decide +kernel
theorem dX8_has_6 : decode cX8_has 6 = .ok (.getfield 19, 3) := by decide +kernel
theorem dX8_has_9 : decode cX8_has 9 = .ok (.if_icmp .ge 7, 3) := by decide +kernel
theorem dX8_has_12 : decode cX8_has 12 = .ok (.iconst 1, 1) := by decide +kernel
theorem dX8_has_13 : decode cX8_has 13 = .ok (.goto 4, 3) := by decide +kernel
theorem dX8_has_16 : decode cX8_has 16 = .ok (.iconst 0, 1) := by decide +kernel
theorem dX8_has_17 : decode cX8_has 17 = .ok (.ireturn, 1) := by decide +kernel
set_option maxHeartbeats 4000000 in
set_option maxRecDepth 100000 in
theorem c_X8_has_8 (l : Launch) (D : va_G) (tys : List (ClassId × FieldType)) (base : Nat) (G : iv_G) (h0 : Nat) (g_h0 : Nat → Int32) (r_h0 : Nat → Nat) (a_h0 : G h0 = some (8, g_h0, r_h0)) (x_0 : Int32) (i_x_0 : iv_R (-2147483648) 2147483647 x_0) : Met l yX8_has (Cond.code yX8_has cX8_has 2 (some .boolean) :: iv_W0) ({ frames := 0, cells := 0, slots := 0, locals := 0 }) (iv_Pc iv_sh D classes tys base G [.ref h0, .int x_0]) (iv_Qi iv_sh D classes tys base (fun v G' => G = G' ∧ iv_R 0 1 v ∧ (¬ v = 0 → iv_R 0 19 x_0))) 0 0 (iv_A base) := by
  refine iv_head (by decide) (Nat.le_of_ble_eq_true rfl) ?_
  intro p e s m args below meth c ls X hr hlocks hname hB hl
  have X := X
  have hx := X.1.1
  have hb := X.1.2.1
  have hl : lv_has ls 2 [(0, .ref h0), (1, .int x_0)] := hl
  refine lv_iload_n hx hb dX8_has_0 rfl (lv_at hl 1 rfl) ?_
  refine lv_if_lt (tgt := 16) hx hb dX8_has_1 (by decide) (fun c1 => ?_) (fun c1 => ?_)
  · skip
    have i1_x_0 : iv_R (-2147483648) (-1) x_0 := (i_x_0.cutHi (n := (-1)) (iv_lt_r c1 q_0 (by decide)))
    refine lv_iconst (v := 0) hx hb dX8_has_16 (by decide) ?_
    exact iv_zret X hr hlocks hB (q_0.wk (by decide)) ⟨rfl, (q_0.wk (by decide)), fun h => absurd (iv_z q_0) h⟩ dX8_has_17
  · skip
    have i2_x_0 : iv_R 0 2147483647 x_0 := (i_x_0.cutLo (n := 0) (iv_le_l (iv_nlt c1) q_0))
    refine lv_iload_n hx hb dX8_has_4 rfl (lv_at hl 1 rfl) ?_
    refine lv_aload_n hx hb dX8_has_5 rfl (lv_at hl 0 rfl) ?_
    refine iv_geti X ft_X8 hB a_h0 sh_8 2 (by decide) rfl k_fl_X8_19 dX8_has_6 (fun x4 e_x4 i_x4 => ?_)
    refine lv_icmp_ge (tgt := 16) hx hb dX8_has_9 (by decide) (fun c5 => ?_) (fun c5 => ?_)
    · skip
      refine lv_iconst (v := 0) hx hb dX8_has_16 (by decide) ?_
      exact iv_zret X hr hlocks hB (q_0.wk (by decide)) ⟨rfl, (q_0.wk (by decide)), fun h => absurd (iv_z q_0) h⟩ dX8_has_17
    · skip
      have i5_x_0 : iv_R 0 19 x_0 := (i2_x_0.cutHi (n := 19) (iv_lt_r (iv_nle c5) i_x4 (by decide)))
      have i6_x4 : iv_R 1 20 x4 := (i_x4.cutLo (n := 1) (iv_lt_l (iv_nle c5) i2_x_0 (by decide)))
      refine lv_iconst (v := 1) hx hb dX8_has_12 (by decide) ?_
      refine lv_goto (tgt := 17) hx hb dX8_has_13 (by decide) ?_
      exact iv_zret X hr hlocks hB (q_1.wk (by decide)) ⟨rfl, (q_1.wk (by decide)), fun _ => i5_x_0⟩ dX8_has_17
set_option maxHeartbeats 4000000 in
set_option maxRecDepth 100000 in
theorem c_X8_has_14 (l : Launch) (D : va_G) (tys : List (ClassId × FieldType)) (base : Nat) (G : iv_G) (h0 : Nat) (g_h0 : Nat → Int32) (r_h0 : Nat → Nat) (a_h0 : G h0 = some (14, g_h0, r_h0)) (x_0 : Int32) (i_x_0 : iv_R 0 11 x_0) : Met l yX8_has (Cond.code yX8_has cX8_has 2 (some .boolean) :: iv_W0) ({ frames := 0, cells := 0, slots := 0, locals := 0 }) (iv_Pc iv_sh D classes tys base G [.ref h0, .int x_0]) (iv_Qi iv_sh D classes tys base (fun v G' => G = G' ∧ iv_R 0 1 v)) 0 0 (iv_A base) := by
  refine iv_head (by decide) (Nat.le_of_ble_eq_true rfl) ?_
  intro p e s m args below meth c ls X hr hlocks hname hB hl
  have X := X
  have hx := X.1.1
  have hb := X.1.2.1
  have hl : lv_has ls 2 [(0, .ref h0), (1, .int x_0)] := hl
  refine lv_iload_n hx hb dX8_has_0 rfl (lv_at hl 1 rfl) ?_
  refine lv_if_lt (tgt := 16) hx hb dX8_has_1 (by decide) (fun c1 => ?_) (fun c1 => ?_)
  · skip
    exact (i_x_0.cutHi (n := (-1)) (iv_lt_r c1 q_0 (by decide))).no (by decide)
  · skip
    refine lv_iload_n hx hb dX8_has_4 rfl (lv_at hl 1 rfl) ?_
    refine lv_aload_n hx hb dX8_has_5 rfl (lv_at hl 0 rfl) ?_
    refine iv_geti X ft_X8 hB a_h0 sh_14 2 (by decide) rfl k_fl_X8_19 dX8_has_6 (fun x2 e_x2 i_x2 => ?_)
    refine lv_icmp_ge (tgt := 16) hx hb dX8_has_9 (by decide) (fun c3 => ?_) (fun c3 => ?_)
    · skip
      have i3_x2 : iv_R 0 11 x2 := (i_x2.cutHi (n := 11) (iv_le_r c3 i_x_0))
      refine lv_iconst (v := 0) hx hb dX8_has_16 (by decide) ?_
      exact iv_zret X hr hlocks hB (q_0.wk (by decide)) ⟨rfl, (q_0.wk (by decide))⟩ dX8_has_17
    · skip
      have i4_x2 : iv_R 1 12 x2 := (i_x2.cutLo (n := 1) (iv_lt_l (iv_nle c3) i_x_0 (by decide)))
      refine lv_iconst (v := 1) hx hb dX8_has_12 (by decide) ?_
      refine lv_goto (tgt := 17) hx hb dX8_has_13 (by decide) ?_
      exact iv_zret X hr hlocks hB (q_1.wk (by decide)) ⟨rfl, (q_1.wk (by decide))⟩ dX8_has_17
theorem dX8_at_0 : decode cX8_at 0 = .ok (.aload_n 0, 1) := by decide +kernel
theorem dX8_at_1 : decode cX8_at 1 = .ok (.iload_n 1, 1) := by decide +kernel
theorem dX8_at_2 : decode cX8_at 2 = .ok (.invokevirtual 22, 3) := by decide +kernel
theorem dX8_at_5 : decode cX8_at 5 = .ok (.ifCond .eq 33, 3) := by decide +kernel
theorem dX8_at_8 : decode cX8_at 8 = .ok (.iload_n 2, 1) := by decide +kernel
theorem dX8_at_9 : decode cX8_at 9 = .ok (.iconst 0, 1) := by decide +kernel
theorem dX8_at_10 : decode cX8_at 10 = .ok (.aload_n 0, 1) := by decide +kernel
theorem dX8_at_11 : decode cX8_at 11 = .ok (.getfield 9, 3) := by decide +kernel
theorem dX8_at_14 : decode cX8_at 14 = .ok (.iconst 1, 1) := by decide +kernel
theorem dX8_at_15 : decode cX8_at 15 = .ok (.isub, 1) := by decide +kernel
theorem dX8_at_16 : decode cX8_at 16 = .ok (.invokestatic 26, 3) := by decide +kernel
theorem dX8_at_19 : decode cX8_at 19 = .ok (.ifCond .eq 19, 3) := by decide +kernel
theorem dX8_at_22 : decode cX8_at 22 = .ok (.aload_n 0, 1) := by decide +kernel
theorem dX8_at_23 : decode cX8_at 23 = .ok (.getfield 15, 3) := by decide +kernel
theorem dX8_at_26 : decode cX8_at 26 = .ok (.iload_n 1, 1) := by decide +kernel
theorem dX8_at_27 : decode cX8_at 27 = .ok (.aload_n 0, 1) := by decide +kernel
theorem dX8_at_28 : decode cX8_at 28 = .ok (.getfield 9, 3) := by decide +kernel
theorem dX8_at_31 : decode cX8_at 31 = .ok (.imul, 1) := by decide +kernel
theorem dX8_at_32 : decode cX8_at 32 = .ok (.iload_n 2, 1) := by decide +kernel
theorem dX8_at_33 : decode cX8_at 33 = .ok (.iadd, 1) := by decide +kernel
theorem dX8_at_34 : decode cX8_at 34 = .ok (.iaload, 1) := by decide +kernel
theorem dX8_at_35 : decode cX8_at 35 = .ok (.goto 4, 3) := by decide +kernel
theorem dX8_at_38 : decode cX8_at 38 = .ok (.iconst (-1), 1) := by decide +kernel
theorem dX8_at_39 : decode cX8_at 39 = .ok (.ireturn, 1) := by decide +kernel
set_option maxHeartbeats 4000000 in
set_option maxRecDepth 100000 in
theorem c_X8_at_14 (l : Launch) (D : va_G) (tys : List (ClassId × FieldType)) (base : Nat) (G : iv_G) (h0 : Nat) (g_h0 : Nat → Int32) (r_h0 : Nat → Nat) (a_h0 : G h0 = some (14, g_h0, r_h0)) (x_0 : Int32) (i_x_0 : iv_R 0 11 x_0) (x_1 : Int32) (i_x_1 : iv_R 0 2 x_1) : Met l yX8_at (Cond.code yX8_at cX8_at 3 (some .int) :: iv_W0) ({ frames := 1, cells := 0, slots := 0, locals := 22 }) (iv_Pc iv_sh D classes tys base G [.ref h0, .int x_0, .int x_1]) (iv_Qi iv_sh D classes tys base (fun v G' => G = G' ∧ iv_R (-2147483648) 2147483647 v)) 0 0 (iv_A base) := by
  refine iv_head (by decide) (Nat.le_of_ble_eq_true rfl) ?_
  intro p e s m args below meth c ls X hr hlocks hname hB hl
  have X := X
  have hx := X.1.1
  have hb := X.1.2.1
  have hl : lv_has ls 3 [(0, .ref h0), (1, .int x_0), (2, .int x_1)] := hl
  refine lv_aload_n hx hb dX8_at_0 rfl (lv_at hl 0 rfl) ?_
  refine lv_iload_n hx hb dX8_at_1 rfl (lv_at hl 1 rfl) ?_
  refine iv_cVi X k_good k_mf_X8_has k_im_X8_has k_sel_X8_has k_ml_X8_22 ft_X8 hB a_h0 sh_14 (As := [.int x_0]) (c_X8_has_14 l D tys base G h0 g_h0 r_h0 a_h0 x_0 i_x_0) ⟨rfl, rfl⟩ ⟨Nat.le_of_ble_eq_true rfl, Nat.le_of_ble_eq_true rfl⟩ ⟨Nat.le_of_ble_eq_true rfl, Nat.le_of_ble_eq_true rfl⟩ rfl rfl hl.1 (Nat.le_of_ble_eq_true rfl) dX8_at_2 (fun x1 G9 H locs hq hB => ?_)
  obtain ⟨rfl, i_x1⟩ := hq
  refine lv_if_eq (tgt := 38) hx hb dX8_at_5 (by decide) (fun c2 => ?_) (fun c2 => ?_)
  · skip
    have i2_x1 : iv_R 0 0 x1 := (i_x1.cutHi (n := 0) (iv_eq_r c2 q_0).2)
    refine lv_iconst (v := (-1)) hx hb dX8_at_38 (by decide) ?_
    exact iv_iret X hr hlocks hB ⟨rfl, (q_n1.wk (by decide))⟩ dX8_at_39
  · skip
    have i3_x1 : iv_R 1 1 x1 := iv_ne_lo c2 i_x1 q_0 (by decide)
    refine lv_iload_n hx hb dX8_at_8 rfl (lv_at hl 2 rfl) ?_
    refine lv_iconst (v := 0) hx hb dX8_at_9 (by decide) ?_
    refine lv_aload_n hx hb dX8_at_10 rfl (lv_at hl 0 rfl) ?_
    refine iv_geti X ft_X8 hB a_h0 sh_14 0 (by decide) rfl k_fl_X8_9 dX8_at_11 (fun x5 e_x5 i_x5 => ?_)
    refine lv_iconst (v := 1) hx hb dX8_at_14 (by decide) ?_
    refine iv_isub hx hb i_x5 q_1 (lo := 2) (hi := 2) (by decide) dX8_at_15 (fun x6 e_x6 i_x6 => ?_)
    refine iv_cSNi X k_good k_mf_X11_isWithin k_st_X11_isWithin (k_mn_X8_26 X.2.2) hB (As := [.int x_1, .int 0, .int x6]) (c_X11_isWithin l D tys base G x_1 (i_x_1.wk (by decide)) 0 (q_0.wk (by decide)) x6 (i_x6.wk (by decide))) ⟨rfl, rfl⟩ ⟨Nat.le_of_ble_eq_true rfl, Nat.le_of_ble_eq_true rfl⟩ ⟨Nat.le_of_ble_eq_true rfl, Nat.le_of_ble_eq_true rfl⟩ rfl rfl hl.1 (Nat.le_of_ble_eq_true rfl) dX8_at_16 (fun x7 G9 H locs hq hB => ?_)
    obtain ⟨rfl, i_x7, hp8⟩ := hq
    have k9 : ¬ x7 = 0 → iv_R 0 2 x_1 := fun h => ⟨iv_max i_x_1.1 (Int.le_trans q_0.1 (hp8.1 h).1) (by decide), iv_min i_x_1.2 (Int.le_trans (hp8.1 h).2 i_x6.2) (by decide)⟩
    refine lv_if_eq (tgt := 38) hx hb dX8_at_19 (by decide) (fun c10 => ?_) (fun c10 => ?_)
    · skip
      have i10_x7 : iv_R 0 0 x7 := (i_x7.cutHi (n := 0) (iv_eq_r c10 q_0).2)
      refine lv_iconst (v := (-1)) hx hb dX8_at_38 (by decide) ?_
      exact iv_iret X hr hlocks hB ⟨rfl, (q_n1.wk (by decide))⟩ dX8_at_39
    · skip
      have i11_x7 : iv_R 1 1 x7 := iv_ne_lo c10 i_x7 q_0 (by decide)
      refine lv_aload_n hx hb dX8_at_22 rfl (lv_at hl 0 rfl) ?_
      refine iv_getr X ft_X8 hB a_h0 sh_14 1 (by decide) rfl k_fl_X8_15 dX8_at_23 (fun b13 g_b13 r_b13 e_b13 a_b13 => ?_)
      refine lv_iload_n hx hb dX8_at_26 rfl (lv_at hl 1 rfl) ?_
      refine lv_aload_n hx hb dX8_at_27 rfl (lv_at hl 0 rfl) ?_
      refine iv_geti0 X ft_X8 hB a_h0 sh_14 0 (by decide) rfl k_fl_X8_9 dX8_at_28 e_x5 ?_
      refine iv_imul hx hb i_x_0 i_x5 (lo := 0) (hi := 33) (by decide) dX8_at_31 (fun x14 e_x14 i_x14 => ?_)
      refine lv_iload_n hx hb dX8_at_32 rfl (lv_at hl 2 rfl) ?_
      refine iv_iadd hx hb i_x14 i_x_1 (lo := 0) (hi := 35) (by decide) dX8_at_33 (fun x15 e_x15 i_x15 => ?_)
      refine iv_ald X hB a_b13 sh_24 (iv_in i_x15 (by decide)) dX8_at_34 (fun x16 e_x16 i_x16 => ?_)
      refine lv_goto (tgt := 39) hx hb dX8_at_35 (by decide) ?_
      exact iv_iret X hr hlocks hB ⟨rfl, i_x16⟩ dX8_at_39
theorem dX9_doesFit_0 : decode cX9_doesFit 0 = .ok (.iconst 0, 1) := by decide +kernel
theorem dX9_doesFit_1 : decode cX9_doesFit 1 = .ok (.istore_n 3, 1) := by decide +kernel
theorem dX9_doesFit_2 : decode cX9_doesFit 2 = .ok (.iload_n 3, 1) := by decide +kernel
theorem dX9_doesFit_3 : decode cX9_doesFit 3 = .ok (.aload_n 0, 1) := by decide +kernel
theorem dX9_doesFit_4 : decode cX9_doesFit 4 = .ok (.getfield 15, 3) := by decide +kernel
theorem dX9_doesFit_7 : decode cX9_doesFit 7 = .ok (.getfield 80, 3) := by decide +kernel
theorem dX9_doesFit_10 : decode cX9_doesFit 10 = .ok (.getfield 84, 3) := by decide +kernel
theorem dX9_doesFit_13 : decode cX9_doesFit 13 = .ok (.if_icmp .ge 94, 3) := by decide +kernel
theorem dX9_doesFit_16 : decode cX9_doesFit 16 = .ok (.aload_n 0, 1) := by decide +kernel
theorem dX9_doesFit_17 : decode cX9_doesFit 17 = .ok (.getfield 15, 3) := by decide +kernel
theorem dX9_doesFit_20 : decode cX9_doesFit 20 = .ok (.getfield 80, 3) := by decide +kernel
theorem dX9_doesFit_23 : decode cX9_doesFit 23 = .ok (.iload_n 3, 1) := by decide +kernel
theorem dX9_doesFit_24 : decode cX9_doesFit 24 = .ok (.iconst 0, 1) := by decide +kernel
theorem dX9_doesFit_25 : decode cX9_doesFit 25 = .ok (.invokevirtual 89, 3) := by decide +kernel
theorem dX9_doesFit_28 : decode cX9_doesFit 28 = .ok (.iload_n 2, 1) := by decide +kernel
theorem dX9_doesFit_29 : decode cX9_doesFit 29 = .ok (.if_icmp .ne 72, 3) := by decide +kernel
theorem dX9_doesFit_32 : decode cX9_doesFit 32 = .ok (.aload_n 0, 1) := by decide +kernel
theorem dX9_doesFit_33 : decode cX9_doesFit 33 = .ok (.getfield 15, 3) := by decide +kernel
theorem dX9_doesFit_36 : decode cX9_doesFit 36 = .ok (.getfield 93, 3) := by decide +kernel
theorem dX9_doesFit_39 : decode cX9_doesFit 39 = .ok (.iload_n 1, 1) := by decide +kernel
theorem dX9_doesFit_40 : decode cX9_doesFit 40 = .ok (.iaload, 1) := by decide +kernel
theorem dX9_doesFit_41 : decode cX9_doesFit 41 = .ok (.aload_n 0, 1) := by decide +kernel
theorem dX9_doesFit_42 : decode cX9_doesFit 42 = .ok (.getfield 15, 3) := by decide +kernel
theorem dX9_doesFit_45 : decode cX9_doesFit 45 = .ok (.getfield 80, 3) := by decide +kernel
theorem dX9_doesFit_48 : decode cX9_doesFit 48 = .ok (.iload_n 3, 1) := by decide +kernel
theorem dX9_doesFit_49 : decode cX9_doesFit 49 = .ok (.iconst 1, 1) := by decide +kernel
theorem dX9_doesFit_50 : decode cX9_doesFit 50 = .ok (.invokevirtual 89, 3) := by decide +kernel
theorem dX9_doesFit_53 : decode cX9_doesFit 53 = .ok (.iushr, 1) := by decide +kernel
theorem dX9_doesFit_54 : decode cX9_doesFit 54 = .ok (.iconst 1, 1) := by decide +kernel
theorem dX9_doesFit_55 : decode cX9_doesFit 55 = .ok (.iand, 1) := by decide +kernel
theorem dX9_doesFit_56 : decode cX9_doesFit 56 = .ok (.iconst 1, 1) := by decide +kernel
theorem dX9_doesFit_57 : decode cX9_doesFit 57 = .ok (.if_icmp .ne 7, 3) := by decide +kernel
theorem dX9_doesFit_60 : decode cX9_doesFit 60 = .ok (.iconst 1, 1) := by decide +kernel
theorem dX9_doesFit_61 : decode cX9_doesFit 61 = .ok (.goto 4, 3) := by decide +kernel
theorem dX9_doesFit_64 : decode cX9_doesFit 64 = .ok (.iconst 0, 1) := by decide +kernel
theorem dX9_doesFit_65 : decode cX9_doesFit 65 = .ok (.istore 4, 2) := by decide +kernel
theorem dX9_doesFit_67 : decode cX9_doesFit 67 = .ok (.iload 4, 2) := by decide +kernel
theorem dX9_doesFit_69 : decode cX9_doesFit 69 = .ok (.ifCond .eq 30, 3) := by decide +kernel
theorem dX9_doesFit_72 : decode cX9_doesFit 72 = .ok (.aload_n 0, 1) := by decide +kernel
theorem dX9_doesFit_73 : decode cX9_doesFit 73 = .ok (.getfield 15, 3) := by decide +kernel
theorem dX9_doesFit_76 : decode cX9_doesFit 76 = .ok (.getfield 45, 3) := by decide +kernel
theorem dX9_doesFit_79 : decode cX9_doesFit 79 = .ok (.iload_n 1, 1) := by decide +kernel
theorem dX9_doesFit_80 : decode cX9_doesFit 80 = .ok (.aaload, 1) := by decide +kernel
theorem dX9_doesFit_81 : decode cX9_doesFit 81 = .ok (.getfield 96, 3) := by decide +kernel
theorem dX9_doesFit_84 : decode cX9_doesFit 84 = .ok (.aload_n 0, 1) := by decide +kernel
theorem dX9_doesFit_85 : decode cX9_doesFit 85 = .ok (.getfield 15, 3) := by decide +kernel
theorem dX9_doesFit_88 : decode cX9_doesFit 88 = .ok (.getfield 80, 3) := by decide +kernel
theorem dX9_doesFit_91 : decode cX9_doesFit 91 = .ok (.iload_n 3, 1) := by decide +kernel
theorem dX9_doesFit_92 : decode cX9_doesFit 92 = .ok (.iconst 2, 1) := by decide +kernel
theorem dX9_doesFit_93 : decode cX9_doesFit 93 = .ok (.invokevirtual 89, 3) := by decide +kernel
theorem dX9_doesFit_96 : decode cX9_doesFit 96 = .ok (.if_icmp .eq 5, 3) := by decide +kernel
theorem dX9_doesFit_99 : decode cX9_doesFit 99 = .ok (.iconst 0, 1) := by decide +kernel
theorem dX9_doesFit_100 : decode cX9_doesFit 100 = .ok (.ireturn, 1) := by decide +kernel
theorem dX9_doesFit_101 : decode cX9_doesFit 101 = .ok (.iinc 3 1, 3) := by decide +kernel
theorem dX9_doesFit_104 : decode cX9_doesFit 104 = .ok (.goto (-102), 3) := by decide +kernel
theorem dX9_doesFit_107 : decode cX9_doesFit 107 = .ok (.iconst 1, 1) := by decide +kernel
theorem dX9_doesFit_108 : decode cX9_doesFit 108 = .ok (.ireturn, 1) := by decide +kernel
set_option maxHeartbeats 4000000 in
set_option maxRecDepth 100000 in
theorem c_X9_doesFit (l : Launch) (D : va_G) (tys : List (ClassId × FieldType)) (base : Nat) (G : iv_G) (h0 : Nat) (g_h0 : Nat → Int32) (r_h0 : Nat → Nat) (a_h0 : G h0 = some (9, g_h0, r_h0)) (x_0 : Int32) (i_x_0 : iv_R 0 9 x_0) (x_1 : Int32) (i_x_1 : iv_R 0 19 x_1) : Met l yX9_doesFit (Cond.code yX9_doesFit cX9_doesFit 5 (some .boolean) :: iv_W0) ({ frames := 2, cells := 0, slots := 0, locals := 44 }) (iv_Pc iv_sh D classes tys base G [.ref h0, .int x_0, .int x_1]) (iv_Qi iv_sh D classes tys base (fun v G' => G = G' ∧ iv_R 0 1 v)) 0 0 (iv_A base) := by
  refine iv_head (by decide) (Nat.le_of_ble_eq_true rfl) ?_
  intro p e s m args below meth c ls X hr hlocks hname hB hl
  have X := X
  have hx := X.1.1
  have hb := X.1.2.1
  have hl : lv_has ls 5 [(0, .ref h0), (1, .int x_0), (2, .int x_1)] := hl
  refine lv_iconst (v := 0) hx hb dX9_doesFit_0 (by decide) ?_
  refine lv_istore_n (lv' := [(3, .int 0), (0, .ref h0), (1, .int x_0), (2, .int x_1)]) hx hb dX9_doesFit_1 rfl hl (by decide) rfl (fun ls hl => ?_)
  have L_2 : ∀ (n_2 : Nat) (H : Heap) (locs : List Loc) (hB : iv_B iv_sh D classes tys base G s.heap H locs) (x1 : Int32) (i_x1 : iv_R 0 12 x1) (hn : (13 - x1.toInt).toNat < n_2) (ls : Array Slot) (hl : lv_has ls 5 [(3, .int x1), (0, .ref h0), (1, .int x_0), (2, .int x_1)]), W p l e ({ frames := 2, cells := 0, slots := 0, locals := 44 } : Room) s m args below meth c H locs 0 0 (MQ below (iv_Qi iv_sh D classes tys base (fun v G' => G = G' ∧ iv_R 0 1 v)) args s 0 0 (iv_A base)) (F0 m 2 ls []) := by
    intro n_2
    induction n_2 with
    | zero => intro H locs hB x1 i_x1 hn ls hl; exact absurd hn (Nat.not_lt_zero _)
    | succ n_2 ih_2 =>
      intro H locs hB x1 i_x1 hn ls hl
      refine lv_iload_n hx hb dX9_doesFit_2 rfl (lv_at hl 0 rfl) ?_
      refine lv_aload_n hx hb dX9_doesFit_3 rfl (lv_at hl 1 rfl) ?_
      refine iv_getr X ft_X9 hB a_h0 sh_9 0 (by decide) rfl k_fl_X9_15 dX9_doesFit_4 (fun b2 g_b2 r_b2 e_b2 a_b2 => ?_)
      refine iv_getr X ft_X5 hB a_b2 sh_5 10 (by decide) rfl k_fl_X9_80 dX9_doesFit_7 (fun b3 g_b3 r_b3 e_b3 a_b3 => ?_)
      refine iv_geti X ft_X8 hB a_b3 sh_14 2 (by decide) rfl k_fl_X9_84 dX9_doesFit_10 (fun x4 e_x4 i_x4 => ?_)
      refine lv_icmp_ge (tgt := 107) hx hb dX9_doesFit_13 (by decide) (fun c5 => ?_) (fun c5 => ?_)
      · skip
        refine lv_iconst (v := 1) hx hb dX9_doesFit_107 (by decide) ?_
        exact iv_zret X hr hlocks hB (q_1.wk (by decide)) ⟨rfl, (q_1.wk (by decide))⟩ dX9_doesFit_108
      · skip
        have i5_x1 : iv_R 0 11 x1 := (i_x1.cutHi (n := 11) (iv_lt_r (iv_nle c5) i_x4 (by decide)))
        have i6_x4 : iv_R 1 12 x4 := (i_x4.cutLo (n := 1) (iv_lt_l (iv_nle c5) i_x1 (by decide)))
        refine lv_aload_n hx hb dX9_doesFit_16 rfl (lv_at hl 1 rfl) ?_
        refine iv_getr0 X ft_X9 hB a_h0 sh_9 0 (by decide) rfl k_fl_X9_15 dX9_doesFit_17 e_b2 ?_
        refine iv_getr0 X ft_X5 hB a_b2 sh_5 10 (by decide) rfl k_fl_X9_80 dX9_doesFit_20 e_b3 ?_
        refine lv_iload_n hx hb dX9_doesFit_23 rfl (lv_at hl 0 rfl) ?_
        refine lv_iconst (v := 0) hx hb dX9_doesFit_24 (by decide) ?_
        refine iv_cVi X k_good k_mf_X8_at k_im_X8_at k_sel_X8_at k_ml_X9_89 ft_X8 hB a_b3 sh_14 (As := [.int x1, .int 0]) (c_X8_at_14 l D tys base G b3 g_b3 r_b3 a_b3 x1 i5_x1 0 (q_0.wk (by decide))) ⟨rfl, rfl⟩ ⟨Nat.le_of_ble_eq_true rfl, Nat.le_of_ble_eq_true rfl⟩ ⟨Nat.le_of_ble_eq_true rfl, Nat.le_of_ble_eq_true rfl⟩ rfl rfl hl.1 (Nat.le_of_ble_eq_true rfl) dX9_doesFit_25 (fun x8 G9 H locs hq hB => ?_)
        obtain ⟨rfl, i_x8⟩ := hq
        refine lv_iload_n hx hb dX9_doesFit_28 rfl (lv_at hl 3 rfl) ?_
        refine lv_icmp_ne (tgt := 101) hx hb dX9_doesFit_29 (by decide) (fun c9 => ?_) (fun c9 => ?_)
        · skip
          refine iv_iinc hx hb i5_x1 (lo := 1) (hi := 12) (by decide) dX9_doesFit_101 hl (k := 0) rfl (by decide) (fun x10 ls e_x10 i_x10 hl => ?_)
          have hl : lv_has ls 5 [(3, .int x10), (0, .ref h0), (1, .int x_0), (2, .int x_1)] := hl
          refine lv_goto (tgt := 2) hx hb dX9_doesFit_104 (by decide) ?_
          exact ih_2 _ _ hB x10 (i_x10.wk (by decide)) (iv_mup (c := 1) i_x1 (by decide) (by decide) (by omega) hn) _ (lv_sub hl [0, 1, 2, 3] rfl)
        · skip
          have i10_x8 : iv_R 0 19 x8 := ((i_x8.cutLo (n := 0) (iv_eq_r c9 i_x_1).1).cutHi (n := 19) (iv_eq_r c9 i_x_1).2)
          refine lv_aload_n hx hb dX9_doesFit_32 rfl (lv_at hl 1 rfl) ?_
          refine iv_getr0 X ft_X9 hB a_h0 sh_9 0 (by decide) rfl k_fl_X9_15 dX9_doesFit_33 e_b2 ?_
          refine iv_getr X ft_X5 hB a_b2 sh_5 11 (by decide) rfl k_fl_X9_93 dX9_doesFit_36 (fun b12 g_b12 r_b12 e_b12 a_b12 => ?_)
          refine lv_iload_n hx hb dX9_doesFit_39 rfl (lv_at hl 2 rfl) ?_
          refine iv_ald X hB a_b12 sh_21 (iv_in i_x_0 (by decide)) dX9_doesFit_40 (fun x13 e_x13 i_x13 => ?_)
          refine lv_aload_n hx hb dX9_doesFit_41 rfl (lv_at hl 1 rfl) ?_
          refine iv_getr0 X ft_X9 hB a_h0 sh_9 0 (by decide) rfl k_fl_X9_15 dX9_doesFit_42 e_b2 ?_
          refine iv_getr0 X ft_X5 hB a_b2 sh_5 10 (by decide) rfl k_fl_X9_80 dX9_doesFit_45 e_b3 ?_
          refine lv_iload_n hx hb dX9_doesFit_48 rfl (lv_at hl 0 rfl) ?_
          refine lv_iconst (v := 1) hx hb dX9_doesFit_49 (by decide) ?_
          refine iv_cVi X k_good k_mf_X8_at k_im_X8_at k_sel_X8_at k_ml_X9_89 ft_X8 hB a_b3 sh_14 (As := [.int x1, .int 1]) (c_X8_at_14 l D tys base G b3 g_b3 r_b3 a_b3 x1 i5_x1 1 (q_1.wk (by decide))) ⟨rfl, rfl⟩ ⟨Nat.le_of_ble_eq_true rfl, Nat.le_of_ble_eq_true rfl⟩ ⟨Nat.le_of_ble_eq_true rfl, Nat.le_of_ble_eq_true rfl⟩ rfl rfl hl.1 (Nat.le_of_ble_eq_true rfl) dX9_doesFit_50 (fun x14 G9 H locs hq hB => ?_)
          obtain ⟨rfl, i_x14⟩ := hq
          refine lv_iushr hx hb dX9_doesFit_53 rfl ?_
          refine lv_topi (fun x15 e_x15 => ?_)
          have i_x15 := iv_R.all x15
          refine lv_iconst (v := 1) hx hb dX9_doesFit_54 (by decide) ?_
          refine iv_iand_r hx hb q_1 (by decide) dX9_doesFit_55 (fun x16 e_x16 i_x16 => ?_)
          refine lv_iconst (v := 1) hx hb dX9_doesFit_56 (by decide) ?_
          refine lv_icmp_ne (tgt := 64) hx hb dX9_doesFit_57 (by decide) (fun c17 => ?_) (fun c17 => ?_)
          · skip
            have i17_x16 : iv_R 0 0 x16 := iv_ne_hi c17 i_x16 q_1 (by decide)
            refine lv_iconst (v := 0) hx hb dX9_doesFit_64 (by decide) ?_
            refine lv_istore (lv' := [(4, .int 0), (3, .int x1), (0, .ref h0), (1, .int x_0), (2, .int x_1)]) hx hb dX9_doesFit_65 hl (by decide) rfl (fun ls hl => ?_)
            refine lv_iload hx hb dX9_doesFit_67 (lv_at hl 0 rfl) ?_
            refine lv_if_eq (tgt := 99) hx hb dX9_doesFit_69 (by decide) (fun c19 => ?_) (fun c19 => ?_)
            · skip
              refine lv_iconst (v := 0) hx hb dX9_doesFit_99 (by decide) ?_
              exact iv_zret X hr hlocks hB (q_0.wk (by decide)) ⟨rfl, (q_0.wk (by decide))⟩ dX9_doesFit_100
            · skip
              exact absurd rfl c19
          · skip
            have i19_x16 : iv_R 1 1 x16 := (i_x16.cutLo (n := 1) (iv_eq_r c17 q_1).1)
            refine lv_iconst (v := 1) hx hb dX9_doesFit_60 (by decide) ?_
            refine lv_goto (tgt := 65) hx hb dX9_doesFit_61 (by decide) ?_
            refine lv_istore (lv' := [(4, .int 1), (3, .int x1), (0, .ref h0), (1, .int x_0), (2, .int x_1)]) hx hb dX9_doesFit_65 hl (by decide) rfl (fun ls hl => ?_)
            refine lv_iload hx hb dX9_doesFit_67 (lv_at hl 0 rfl) ?_
            refine lv_if_eq (tgt := 99) hx hb dX9_doesFit_69 (by decide) (fun c21 => ?_) (fun c21 => ?_)
            · skip
              exact (q_1.cutHi (n := 0) (iv_eq_r c21 q_0).2).no (by decide)
            · skip
              refine lv_aload_n hx hb dX9_doesFit_72 rfl (lv_at hl 2 rfl) ?_
              refine iv_getr0 X ft_X9 hB a_h0 sh_9 0 (by decide) rfl k_fl_X9_15 dX9_doesFit_73 e_b2 ?_
              refine iv_getr X ft_X5 hB a_b2 sh_5 0 (by decide) rfl k_fl_X9_45 dX9_doesFit_76 (fun b22 g_b22 r_b22 e_b22 a_b22 => ?_)
              refine lv_iload_n hx hb dX9_doesFit_79 rfl (lv_at hl 3 rfl) ?_
              refine iv_aald X hB a_b22 sh_40 (iv_in i_x_0 (by decide)) dX9_doesFit_80 (fun b23 g_b23 r_b23 e_b23 a_b23 => ?_)
              refine iv_geti X ft_X1 hB a_b23 sh_1 0 (by decide) rfl k_fl_X9_96 dX9_doesFit_81 (fun x24 e_x24 i_x24 => ?_)
              refine lv_aload_n hx hb dX9_doesFit_84 rfl (lv_at hl 2 rfl) ?_
              refine iv_getr0 X ft_X9 hB a_h0 sh_9 0 (by decide) rfl k_fl_X9_15 dX9_doesFit_85 e_b2 ?_
              refine iv_getr0 X ft_X5 hB a_b2 sh_5 10 (by decide) rfl k_fl_X9_80 dX9_doesFit_88 e_b3 ?_
              refine lv_iload_n hx hb dX9_doesFit_91 rfl (lv_at hl 1 rfl) ?_
              refine lv_iconst (v := 2) hx hb dX9_doesFit_92 (by decide) ?_
              refine iv_cVi X k_good k_mf_X8_at k_im_X8_at k_sel_X8_at k_ml_X9_89 ft_X8 hB a_b3 sh_14 (As := [.int x1, .int 2]) (c_X8_at_14 l D tys base G b3 g_b3 r_b3 a_b3 x1 i5_x1 2 (q_2.wk (by decide))) ⟨rfl, rfl⟩ ⟨Nat.le_of_ble_eq_true rfl, Nat.le_of_ble_eq_true rfl⟩ ⟨Nat.le_of_ble_eq_true rfl, Nat.le_of_ble_eq_true rfl⟩ rfl rfl hl.1 (Nat.le_of_ble_eq_true rfl) dX9_doesFit_93 (fun x25 G9 H locs hq hB => ?_)
              obtain ⟨rfl, i_x25⟩ := hq
              refine lv_icmp_eq (tgt := 101) hx hb dX9_doesFit_96 (by decide) (fun c26 => ?_) (fun c26 => ?_)
              · skip
                refine iv_iinc hx hb i5_x1 (lo := 1) (hi := 12) (by decide) dX9_doesFit_101 hl (k := 1) rfl (by decide) (fun x27 ls e_x27 i_x27 hl => ?_)
                have hl : lv_has ls 5 [(3, .int x27), (4, .int 1), (0, .ref h0), (1, .int x_0), (2, .int x_1)] := hl
                refine lv_goto (tgt := 2) hx hb dX9_doesFit_104 (by decide) ?_
                exact ih_2 _ _ hB x27 (i_x27.wk (by decide)) (iv_mup (c := 1) i_x1 (by decide) (by decide) (by omega) hn) _ (lv_sub hl [0, 2, 3, 4] rfl)
              · skip
                refine lv_iconst (v := 0) hx hb dX9_doesFit_99 (by decide) ?_
                exact iv_zret X hr hlocks hB (q_0.wk (by decide)) ⟨rfl, (q_0.wk (by decide))⟩ dX9_doesFit_100
  exact L_2 _ _ _ hB 0 (q_0.wk (by decide)) (Nat.lt_succ_self _) _ (lv_sub hl [0, 1, 2, 3] rfl)
theorem dX9_fitting_0 : decode cX9_fitting 0 = .ok (.iconst 0, 1) := by decide +kernel
theorem dX9_fitting_1 : decode cX9_fitting 1 = .ok (.istore_n 2, 1) := by decide +kernel
theorem dX9_fitting_2 : decode cX9_fitting 2 = .ok (.iconst 0, 1) := by decide +kernel
theorem dX9_fitting_3 : decode cX9_fitting 3 = .ok (.istore_n 3, 1) := by decide +kernel
theorem dX9_fitting_4 : decode cX9_fitting 4 = .ok (.iload_n 3, 1) := by decide +kernel
theorem dX9_fitting_5 : decode cX9_fitting 5 = .ok (.aload_n 0, 1) := by decide +kernel
theorem dX9_fitting_6 : decode cX9_fitting 6 = .ok (.getfield 15, 3) := by decide +kernel
theorem dX9_fitting_9 : decode cX9_fitting 9 = .ok (.getfield 19, 3) := by decide +kernel
theorem dX9_fitting_12 : decode cX9_fitting 12 = .ok (.if_icmp .ge 40, 3) := by decide +kernel
theorem dX9_fitting_15 : decode cX9_fitting 15 = .ok (.aload_n 0, 1) := by decide +kernel
theorem dX9_fitting_16 : decode cX9_fitting 16 = .ok (.getfield 15, 3) := by decide +kernel
theorem dX9_fitting_19 : decode cX9_fitting 19 = .ok (.getfield 45, 3) := by decide +kernel
theorem dX9_fitting_22 : decode cX9_fitting 22 = .ok (.iload_n 3, 1) := by decide +kernel
theorem dX9_fitting_23 : decode cX9_fitting 23 = .ok (.aaload, 1) := by decide +kernel
theorem dX9_fitting_24 : decode cX9_fitting 24 = .ok (.getfield 49, 3) := by decide +kernel
theorem dX9_fitting_27 : decode cX9_fitting 27 = .ok (.iconst 2, 1) := by decide +kernel
theorem dX9_fitting_28 : decode cX9_fitting 28 = .ok (.if_icmp .eq 18, 3) := by decide +kernel
theorem dX9_fitting_31 : decode cX9_fitting 31 = .ok (.aload_n 0, 1) := by decide +kernel
theorem dX9_fitting_32 : decode cX9_fitting 32 = .ok (.iload_n 3, 1) := by decide +kernel
theorem dX9_fitting_33 : decode cX9_fitting 33 = .ok (.iload_n 1, 1) := by decide +kernel
theorem dX9_fitting_34 : decode cX9_fitting 34 = .ok (.invokevirtual 77, 3) := by decide +kernel
theorem dX9_fitting_37 : decode cX9_fitting 37 = .ok (.ifCond .eq 9, 3) := by decide +kernel
theorem dX9_fitting_40 : decode cX9_fitting 40 = .ok (.iload_n 2, 1) := by decide +kernel
theorem dX9_fitting_41 : decode cX9_fitting 41 = .ok (.iconst 1, 1) := by decide +kernel
theorem dX9_fitting_42 : decode cX9_fitting 42 = .ok (.iload_n 3, 1) := by decide +kernel
theorem dX9_fitting_43 : decode cX9_fitting 43 = .ok (.ishl, 1) := by decide +kernel
theorem dX9_fitting_44 : decode cX9_fitting 44 = .ok (.ior, 1) := by decide +kernel
theorem dX9_fitting_45 : decode cX9_fitting 45 = .ok (.istore_n 2, 1) := by decide +kernel
theorem dX9_fitting_46 : decode cX9_fitting 46 = .ok (.iinc 3 1, 3) := by decide +kernel
theorem dX9_fitting_49 : decode cX9_fitting 49 = .ok (.goto (-45), 3) := by decide +kernel
theorem dX9_fitting_52 : decode cX9_fitting 52 = .ok (.iload_n 2, 1) := by decide +kernel
theorem dX9_fitting_53 : decode cX9_fitting 53 = .ok (.ireturn, 1) := by decide +kernel
set_option maxHeartbeats 4000000 in
set_option maxRecDepth 100000 in
theorem c_X9_fitting (l : Launch) (D : va_G) (tys : List (ClassId × FieldType)) (base : Nat) (G : iv_G) (h0 : Nat) (g_h0 : Nat → Int32) (r_h0 : Nat → Nat) (a_h0 : G h0 = some (9, g_h0, r_h0)) (x_0 : Int32) (i_x_0 : iv_R 0 19 x_0) : Met l yX9_fitting (Cond.code yX9_fitting cX9_fitting 4 (some .int) :: iv_W0) ({ frames := 3, cells := 0, slots := 0, locals := 68 }) (iv_Pc iv_sh D classes tys base G [.ref h0, .int x_0]) (iv_Qi iv_sh D classes tys base (fun v G' => G = G' ∧ iv_R (-2147483648) 2147483647 v)) 0 0 (iv_A base) := by
  refine iv_head (by decide) (Nat.le_of_ble_eq_true rfl) ?_
  intro p e s m args below meth c ls X hr hlocks hname hB hl
  have X := X
  have hx := X.1.1
  have hb := X.1.2.1
  have hl : lv_has ls 4 [(0, .ref h0), (1, .int x_0)] := hl
  refine lv_iconst (v := 0) hx hb dX9_fitting_0 (by decide) ?_
  refine lv_istore_n (lv' := [(2, .int 0), (0, .ref h0), (1, .int x_0)]) hx hb dX9_fitting_1 rfl hl (by decide) rfl (fun ls hl => ?_)
  refine lv_iconst (v := 0) hx hb dX9_fitting_2 (by decide) ?_
  refine lv_istore_n (lv' := [(3, .int 0), (2, .int 0), (0, .ref h0), (1, .int x_0)]) hx hb dX9_fitting_3 rfl hl (by decide) rfl (fun ls hl => ?_)
  have L_4 : ∀ (n_4 : Nat) (H : Heap) (locs : List Loc) (hB : iv_B iv_sh D classes tys base G s.heap H locs) (x1 : Int32) (i_x1 : iv_R (-2147483648) 2147483647 x1) (x2 : Int32) (i_x2 : iv_R 0 10 x2) (hn : (11 - x2.toInt).toNat < n_4) (ls : Array Slot) (hl : lv_has ls 4 [(3, .int x2), (2, .int x1), (0, .ref h0), (1, .int x_0)]), W p l e ({ frames := 3, cells := 0, slots := 0, locals := 68 } : Room) s m args below meth c H locs 0 0 (MQ below (iv_Qi iv_sh D classes tys base (fun v G' => G = G' ∧ iv_R (-2147483648) 2147483647 v)) args s 0 0 (iv_A base)) (F0 m 4 ls []) := by
    intro n_4
    induction n_4 with
    | zero => intro H locs hB x1 i_x1 x2 i_x2 hn ls hl; exact absurd hn (Nat.not_lt_zero _)
    | succ n_4 ih_4 =>
      intro H locs hB x1 i_x1 x2 i_x2 hn ls hl
      refine lv_iload_n hx hb dX9_fitting_4 rfl (lv_at hl 0 rfl) ?_
      refine lv_aload_n hx hb dX9_fitting_5 rfl (lv_at hl 2 rfl) ?_
      refine iv_getr X ft_X9 hB a_h0 sh_9 0 (by decide) rfl k_fl_X9_15 dX9_fitting_6 (fun b3 g_b3 r_b3 e_b3 a_b3 => ?_)
      refine iv_geti X ft_X5 hB a_b3 sh_5 1 (by decide) rfl k_fl_X9_19 dX9_fitting_9 (fun x4 e_x4 i_x4 => ?_)
      refine lv_icmp_ge (tgt := 52) hx hb dX9_fitting_12 (by decide) (fun c5 => ?_) (fun c5 => ?_)
      · skip
        refine lv_iload_n hx hb dX9_fitting_52 rfl (lv_at hl 1 rfl) ?_
        exact iv_iret X hr hlocks hB ⟨rfl, i_x1⟩ dX9_fitting_53
      · skip
        have i5_x2 : iv_R 0 9 x2 := (i_x2.cutHi (n := 9) (iv_lt_r (iv_nle c5) i_x4 (by decide)))
        have i6_x4 : iv_R 1 10 x4 := (i_x4.cutLo (n := 1) (iv_lt_l (iv_nle c5) i_x2 (by decide)))
        refine lv_aload_n hx hb dX9_fitting_15 rfl (lv_at hl 2 rfl) ?_
        refine iv_getr0 X ft_X9 hB a_h0 sh_9 0 (by decide) rfl k_fl_X9_15 dX9_fitting_16 e_b3 ?_
        refine iv_getr X ft_X5 hB a_b3 sh_5 0 (by decide) rfl k_fl_X9_45 dX9_fitting_19 (fun b8 g_b8 r_b8 e_b8 a_b8 => ?_)
        refine lv_iload_n hx hb dX9_fitting_22 rfl (lv_at hl 0 rfl) ?_
        refine iv_aald X hB a_b8 sh_40 (iv_in i5_x2 (by decide)) dX9_fitting_23 (fun b9 g_b9 r_b9 e_b9 a_b9 => ?_)
        refine iv_geti X ft_X1 hB a_b9 sh_1 6 (by decide) rfl k_fl_X9_49 dX9_fitting_24 (fun x10 e_x10 i_x10 => ?_)
        refine lv_iconst (v := 2) hx hb dX9_fitting_27 (by decide) ?_
        refine lv_icmp_eq (tgt := 46) hx hb dX9_fitting_28 (by decide) (fun c11 => ?_) (fun c11 => ?_)
        · skip
          have i11_x10 : iv_R 2 2 x10 := ((i_x10.cutLo (n := 2) (iv_eq_r c11 q_2).1).cutHi (n := 2) (iv_eq_r c11 q_2).2)
          refine iv_iinc hx hb i5_x2 (lo := 1) (hi := 10) (by decide) dX9_fitting_46 hl (k := 0) rfl (by decide) (fun x13 ls e_x13 i_x13 hl => ?_)
          have hl : lv_has ls 4 [(3, .int x13), (2, .int x1), (0, .ref h0), (1, .int x_0)] := hl
          refine lv_goto (tgt := 4) hx hb dX9_fitting_49 (by decide) ?_
          exact ih_4 _ _ hB x1 i_x1 x13 (i_x13.wk (by decide)) (iv_mup (c := 1) i_x2 (by decide) (by decide) (by omega) hn) _ (lv_sub hl [0, 1, 2, 3] rfl)
        · skip
          refine lv_aload_n hx hb dX9_fitting_31 rfl (lv_at hl 2 rfl) ?_
          refine lv_iload_n hx hb dX9_fitting_32 rfl (lv_at hl 0 rfl) ?_
          refine lv_iload_n hx hb dX9_fitting_33 rfl (lv_at hl 3 rfl) ?_
          refine iv_cVi X k_good k_mf_X9_doesFit k_im_X9_doesFit k_sel_X9_doesFit k_ml_X9_77 ft_X9 hB a_h0 sh_9 (As := [.int x2, .int x_0]) (c_X9_doesFit l D tys base G h0 g_h0 r_h0 a_h0 x2 i5_x2 x_0 i_x_0) ⟨rfl, rfl⟩ ⟨Nat.le_of_ble_eq_true rfl, Nat.le_of_ble_eq_true rfl⟩ ⟨Nat.le_of_ble_eq_true rfl, Nat.le_of_ble_eq_true rfl⟩ rfl rfl hl.1 (Nat.le_of_ble_eq_true rfl) dX9_fitting_34 (fun x14 G9 H locs hq hB => ?_)
          obtain ⟨rfl, i_x14⟩ := hq
          refine lv_if_eq (tgt := 46) hx hb dX9_fitting_37 (by decide) (fun c15 => ?_) (fun c15 => ?_)
          · skip
            have i15_x14 : iv_R 0 0 x14 := (i_x14.cutHi (n := 0) (iv_eq_r c15 q_0).2)
            refine iv_iinc hx hb i5_x2 (lo := 1) (hi := 10) (by decide) dX9_fitting_46 hl (k := 0) rfl (by decide) (fun x17 ls e_x17 i_x17 hl => ?_)
            have hl : lv_has ls 4 [(3, .int x17), (2, .int x1), (0, .ref h0), (1, .int x_0)] := hl
            refine lv_goto (tgt := 4) hx hb dX9_fitting_49 (by decide) ?_
            exact ih_4 _ _ hB x1 i_x1 x17 (i_x17.wk (by decide)) (iv_mup (c := 1) i_x2 (by decide) (by decide) (by omega) hn) _ (lv_sub hl [0, 1, 2, 3] rfl)
          · skip
            have i17_x14 : iv_R 1 1 x14 := iv_ne_lo c15 i_x14 q_0 (by decide)
            refine lv_iload_n hx hb dX9_fitting_40 rfl (lv_at hl 1 rfl) ?_
            refine lv_iconst (v := 1) hx hb dX9_fitting_41 (by decide) ?_
            refine lv_iload_n hx hb dX9_fitting_42 rfl (lv_at hl 0 rfl) ?_
            refine lv_ishl hx hb dX9_fitting_43 ?_
            refine lv_topi (fun x19 e_x19 => ?_)
            have i_x19 := iv_R.all x19
            refine lv_ior hx hb dX9_fitting_44 ?_
            refine lv_topi (fun x20 e_x20 => ?_)
            have i_x20 := iv_R.all x20
            refine lv_istore_n (lv' := [(2, .int x20), (3, .int x2), (0, .ref h0), (1, .int x_0)]) hx hb dX9_fitting_45 rfl hl (by decide) rfl (fun ls hl => ?_)
            refine iv_iinc hx hb i5_x2 (lo := 1) (hi := 10) (by decide) dX9_fitting_46 hl (k := 1) rfl (by decide) (fun x21 ls e_x21 i_x21 hl => ?_)
            have hl : lv_has ls 4 [(3, .int x21), (2, .int x20), (0, .ref h0), (1, .int x_0)] := hl
            refine lv_goto (tgt := 4) hx hb dX9_fitting_49 (by decide) ?_
            exact ih_4 _ _ hB x20 i_x20 x21 (i_x21.wk (by decide)) (iv_mup (c := 1) i_x2 (by decide) (by decide) (by omega) hn) _ (lv_sub hl [0, 1, 2, 3] rfl)
  exact L_4 _ _ _ hB 0 (q_0.wk (by decide)) 0 (q_0.wk (by decide)) (Nat.lt_succ_self _) _ (lv_sub hl [0, 1, 2, 3] rfl)
theorem dX11_ask_0 : decode cX11_ask 0 = .ok (.aload_n 0, 1) := by decide +kernel
theorem dX11_ask_1 : decode cX11_ask 1 = .ok (.getfield 12, 3) := by decide +kernel
theorem dX11_ask_4 : decode cX11_ask 4 = .ok (.getfield 152, 3) := by decide +kernel
theorem dX11_ask_7 : decode cX11_ask 7 = .ok (.iload_n 1, 1) := by decide +kernel
theorem dX11_ask_8 : decode cX11_ask 8 = .ok (.invokevirtual 155, 3) := by decide +kernel
theorem dX11_ask_11 : decode cX11_ask 11 = .ok (.ifCond .ne 5, 3) := by decide +kernel
theorem dX11_ask_14 : decode cX11_ask 14 = .ok (.iconst (-1), 1) := by decide +kernel
theorem dX11_ask_15 : decode cX11_ask 15 = .ok (.ireturn, 1) := by decide +kernel
theorem dX11_ask_16 : decode cX11_ask 16 = .ok (.aload_n 0, 1) := by decide +kernel
theorem dX11_ask_17 : decode cX11_ask 17 = .ok (.getfield 58, 3) := by decide +kernel
theorem dX11_ask_20 : decode cX11_ask 20 = .ok (.iload_n 1, 1) := by decide +kernel
theorem dX11_ask_21 : decode cX11_ask 21 = .ok (.invokevirtual 356, 3) := by decide +kernel
theorem dX11_ask_24 : decode cX11_ask 24 = .ok (.istore_n 2, 1) := by decide +kernel
theorem dX11_ask_25 : decode cX11_ask 25 = .ok (.iload_n 2, 1) := by decide +kernel
theorem dX11_ask_26 : decode cX11_ask 26 = .ok (.invokestatic 288, 3) := by decide +kernel
theorem dX11_ask_29 : decode cX11_ask 29 = .ok (.iconst 2, 1) := by decide +kernel
theorem dX11_ask_30 : decode cX11_ask 30 = .ok (.if_icmp .ge 5, 3) := by decide +kernel
theorem dX11_ask_33 : decode cX11_ask 33 = .ok (.iconst (-1), 1) := by decide +kernel
theorem dX11_ask_34 : decode cX11_ask 34 = .ok (.ireturn, 1) := by decide +kernel
theorem dX11_ask_35 : decode cX11_ask 35 = .ok (.iconst (-1), 1) := by decide +kernel
theorem dX11_ask_36 : decode cX11_ask 36 = .ok (.istore_n 3, 1) := by decide +kernel
theorem dX11_ask_37 : decode cX11_ask 37 = .ok (.bipush 11, 2) := by decide +kernel
theorem dX11_ask_39 : decode cX11_ask 39 = .ok (.istore 4, 2) := by decide +kernel
theorem dX11_ask_41 : decode cX11_ask 41 = .ok (.iconst 0, 1) := by decide +kernel
theorem dX11_ask_42 : decode cX11_ask 42 = .ok (.istore 5, 2) := by decide +kernel
theorem dX11_ask_44 : decode cX11_ask 44 = .ok (.iload 5, 2) := by decide +kernel
theorem dX11_ask_46 : decode cX11_ask 46 = .ok (.bipush 24, 2) := by decide +kernel
theorem dX11_ask_48 : decode cX11_ask 48 = .ok (.if_icmp .ge 53, 3) := by decide +kernel
theorem dX11_ask_51 : decode cX11_ask 51 = .ok (.iload_n 2, 1) := by decide +kernel
theorem dX11_ask_52 : decode cX11_ask 52 = .ok (.aload_n 0, 1) := by decide +kernel
theorem dX11_ask_53 : decode cX11_ask 53 = .ok (.getfield 12, 3) := by decide +kernel
theorem dX11_ask_56 : decode cX11_ask 56 = .ok (.iload 5, 2) := by decide +kernel
theorem dX11_ask_58 : decode cX11_ask 58 = .ok (.invokevirtual 359, 3) := by decide +kernel
theorem dX11_ask_61 : decode cX11_ask 61 = .ok (.iand, 1) := by decide +kernel
theorem dX11_ask_62 : decode cX11_ask 62 = .ok (.invokestatic 288, 3) := by decide +kernel
theorem dX11_ask_65 : decode cX11_ask 65 = .ok (.istore 6, 2) := by decide +kernel
theorem dX11_ask_67 : decode cX11_ask 67 = .ok (.iload 6, 2) := by decide +kernel
theorem dX11_ask_69 : decode cX11_ask 69 = .ok (.iload_n 2, 1) := by decide +kernel
theorem dX11_ask_70 : decode cX11_ask 70 = .ok (.invokestatic 288, 3) := by decide +kernel
theorem dX11_ask_73 : decode cX11_ask 73 = .ok (.iload 6, 2) := by decide +kernel
theorem dX11_ask_75 : decode cX11_ask 75 = .ok (.isub, 1) := by decide +kernel
theorem dX11_ask_76 : decode cX11_ask 76 = .ok (.invokestatic 300, 3) := by decide +kernel
theorem dX11_ask_79 : decode cX11_ask 79 = .ok (.istore 7, 2) := by decide +kernel
theorem dX11_ask_81 : decode cX11_ask 81 = .ok (.iload 7, 2) := by decide +kernel
theorem dX11_ask_83 : decode cX11_ask 83 = .ok (.iload 4, 2) := by decide +kernel
theorem dX11_ask_85 : decode cX11_ask 85 = .ok (.if_icmp .ge 10, 3) := by decide +kernel
theorem dX11_ask_88 : decode cX11_ask 88 = .ok (.iload 7, 2) := by decide +kernel
theorem dX11_ask_90 : decode cX11_ask 90 = .ok (.istore 4, 2) := by decide +kernel
theorem dX11_ask_92 : decode cX11_ask 92 = .ok (.iload 5, 2) := by decide +kernel
theorem dX11_ask_94 : decode cX11_ask 94 = .ok (.istore_n 3, 1) := by decide +kernel
theorem dX11_ask_95 : decode cX11_ask 95 = .ok (.iinc 5 1, 3) := by decide +kernel
theorem dX11_ask_98 : decode cX11_ask 98 = .ok (.goto (-54), 3) := by decide +kernel
theorem dX11_ask_101 : decode cX11_ask 101 = .ok (.iload_n 3, 1) := by decide +kernel
theorem dX11_ask_102 : decode cX11_ask 102 = .ok (.ireturn, 1) := by decide +kernel
set_option maxHeartbeats 4000000 in
set_option maxRecDepth 100000 in
theorem c_X11_ask (l : Launch) (D : va_G) (tys : List (ClassId × FieldType)) (base : Nat) (G : iv_G) (h0 : Nat) (g_h0 : Nat → Int32) (r_h0 : Nat → Nat) (a_h0 : G h0 = some (11, g_h0, r_h0)) (x_0 : Int32) (i_x_0 : iv_R (-2147483648) 2147483647 x_0) : Met l yX11_ask (Cond.code yX11_ask cX11_ask 8 (some .int) :: iv_W0) ({ frames := 4, cells := 0, slots := 0, locals := 91 }) (iv_Pc iv_sh D classes tys base G [.ref h0, .int x_0]) (iv_Qi iv_sh D classes tys base (fun v G' => G = G' ∧ iv_R (-1) 23 v)) 0 0 (iv_A base) := by
  refine iv_head (by decide) (Nat.le_of_ble_eq_true rfl) ?_
  intro p e s m args below meth c ls X hr hlocks hname hB hl
  have X := X
  have hx := X.1.1
  have hb := X.1.2.1
  have hl : lv_has ls 8 [(0, .ref h0), (1, .int x_0)] := hl
  refine lv_aload_n hx hb dX11_ask_0 rfl (lv_at hl 0 rfl) ?_
  refine iv_getr X ft_X11 hB a_h0 sh_11 0 (by decide) rfl k_fl_X11_12 dX11_ask_1 (fun b1 g_b1 r_b1 e_b1 a_b1 => ?_)
  refine iv_getr X ft_X5 hB a_b1 sh_5 8 (by decide) rfl k_fl_X11_152 dX11_ask_4 (fun b2 g_b2 r_b2 e_b2 a_b2 => ?_)
  refine lv_iload_n hx hb dX11_ask_7 rfl (lv_at hl 1 rfl) ?_
  refine iv_cVi X k_good k_mf_X8_has k_im_X8_has k_sel_X8_has k_ml_X11_155 ft_X8 hB a_b2 sh_8 (As := [.int x_0]) (c_X8_has_8 l D tys base G b2 g_b2 r_b2 a_b2 x_0 i_x_0) ⟨rfl, rfl⟩ ⟨Nat.le_of_ble_eq_true rfl, Nat.le_of_ble_eq_true rfl⟩ ⟨Nat.le_of_ble_eq_true rfl, Nat.le_of_ble_eq_true rfl⟩ rfl rfl hl.1 (Nat.le_of_ble_eq_true rfl) dX11_ask_8 (fun x3 G9 H locs hq hB => ?_)
  obtain ⟨rfl, i_x3, hp4⟩ := hq
  refine lv_if_ne (tgt := 16) hx hb dX11_ask_11 (by decide) (fun c5 => ?_) (fun c5 => ?_)
  · skip
    have i5_x3 : iv_R 1 1 x3 := iv_ne_lo c5 i_x3 q_0 (by decide)
    have i6_x_0 : iv_R 0 19 x_0 := ((i_x_0.cutLo (n := 0) (hp4 c5).1).cutHi (n := 19) (hp4 c5).2)
    refine lv_aload_n hx hb dX11_ask_16 rfl (lv_at hl 0 rfl) ?_
    refine iv_getr X ft_X11 hB a_h0 sh_11 9 (by decide) rfl k_fl_X11_58 dX11_ask_17 (fun b8 g_b8 r_b8 e_b8 a_b8 => ?_)
    refine lv_iload_n hx hb dX11_ask_20 rfl (lv_at hl 1 rfl) ?_
    refine iv_cVi X k_good k_mf_X9_fitting k_im_X9_fitting k_sel_X9_fitting k_ml_X11_356 ft_X9 hB a_b8 sh_9 (As := [.int x_0]) (c_X9_fitting l D tys base G b8 g_b8 r_b8 a_b8 x_0 i6_x_0) ⟨rfl, rfl⟩ ⟨Nat.le_of_ble_eq_true rfl, Nat.le_of_ble_eq_true rfl⟩ ⟨Nat.le_of_ble_eq_true rfl, Nat.le_of_ble_eq_true rfl⟩ rfl rfl hl.1 (Nat.le_of_ble_eq_true rfl) dX11_ask_21 (fun x9 G9 H locs hq hB => ?_)
    obtain ⟨rfl, i_x9⟩ := hq
    refine lv_istore_n (lv' := [(2, .int x9), (0, .ref h0), (1, .int x_0)]) hx hb dX11_ask_24 rfl hl (by decide) rfl (fun ls hl => ?_)
    refine lv_iload_n hx hb dX11_ask_25 rfl (lv_at hl 0 rfl) ?_
    refine iv_cSi X k_good k_mf_J6_bitCount_0f7a4 k_st_J6_bitCount_0f7a4 k_ml_X11_288 hB (As := [.int x9]) (c_J6_bitCount_0f7a4 l D tys base G x9 i_x9) ⟨rfl, rfl⟩ ⟨Nat.le_of_ble_eq_true rfl, Nat.le_of_ble_eq_true rfl⟩ ⟨Nat.le_of_ble_eq_true rfl, Nat.le_of_ble_eq_true rfl⟩ rfl rfl hl.1 (Nat.le_of_ble_eq_true rfl) dX11_ask_26 (fun x10 G9 H locs hq hB => ?_)
    obtain ⟨rfl, i_x10⟩ := hq
    refine lv_iconst (v := 2) hx hb dX11_ask_29 (by decide) ?_
    refine lv_icmp_ge (tgt := 35) hx hb dX11_ask_30 (by decide) (fun c11 => ?_) (fun c11 => ?_)
    · skip
      have i11_x10 : iv_R 2 63 x10 := (i_x10.cutLo (n := 2) (iv_le_l c11 q_2))
      refine lv_iconst (v := (-1)) hx hb dX11_ask_35 (by decide) ?_
      refine lv_istore_n (lv' := [(3, .int (-1)), (2, .int x9), (0, .ref h0), (1, .int x_0)]) hx hb dX11_ask_36 rfl hl (by decide) rfl (fun ls hl => ?_)
      refine lv_bipush (v := 11) hx hb dX11_ask_37 (by decide) ?_
      refine lv_istore (lv' := [(4, .int 11), (3, .int (-1)), (2, .int x9), (0, .ref h0), (1, .int x_0)]) hx hb dX11_ask_39 hl (by decide) rfl (fun ls hl => ?_)
      refine lv_iconst (v := 0) hx hb dX11_ask_41 (by decide) ?_
      refine lv_istore (lv' := [(5, .int 0), (4, .int 11), (3, .int (-1)), (2, .int x9), (0, .ref h0), (1, .int x_0)]) hx hb dX11_ask_42 hl (by decide) rfl (fun ls hl => ?_)
      have L_44 : ∀ (n_44 : Nat) (H : Heap) (locs : List Loc) (hB : iv_B iv_sh D classes tys base G s.heap H locs) (x13 : Int32) (i_x13 : iv_R (-1) 23 x13) (x14 : Int32) (i_x14 : iv_R 0 11 x14) (x15 : Int32) (i_x15 : iv_R 0 24 x15) (hn : (25 - x15.toInt).toNat < n_44) (ls : Array Slot) (hl : lv_has ls 8 [(5, .int x15), (4, .int x14), (3, .int x13), (2, .int x9), (0, .ref h0)]), W p l e ({ frames := 4, cells := 0, slots := 0, locals := 91 } : Room) s m args below meth c H locs 0 0 (MQ below (iv_Qi iv_sh D classes tys base (fun v G' => G = G' ∧ iv_R (-1) 23 v)) args s 0 0 (iv_A base)) (F0 m 44 ls []) := by
        intro n_44
        induction n_44 with
        | zero => intro H locs hB x13 i_x13 x14 i_x14 x15 i_x15 hn ls hl; exact absurd hn (Nat.not_lt_zero _)
        | succ n_44 ih_44 =>
          intro H locs hB x13 i_x13 x14 i_x14 x15 i_x15 hn ls hl
          refine lv_iload hx hb dX11_ask_44 (lv_at hl 0 rfl) ?_
          refine lv_bipush (v := 24) hx hb dX11_ask_46 (by decide) ?_
          refine lv_icmp_ge (tgt := 101) hx hb dX11_ask_48 (by decide) (fun c16 => ?_) (fun c16 => ?_)
          · skip
            have i16_x15 : iv_R 24 24 x15 := (i_x15.cutLo (n := 24) (iv_le_l c16 q_24))
            refine lv_iload_n hx hb dX11_ask_101 rfl (lv_at hl 2 rfl) ?_
            exact iv_iret X hr hlocks hB ⟨rfl, i_x13⟩ dX11_ask_102
          · skip
            have i17_x15 : iv_R 0 23 x15 := (i_x15.cutHi (n := 23) (iv_lt_r (iv_nle c16) q_24 (by decide)))
            refine lv_iload_n hx hb dX11_ask_51 rfl (lv_at hl 3 rfl) ?_
            refine lv_aload_n hx hb dX11_ask_52 rfl (lv_at hl 4 rfl) ?_
            refine iv_getr0 X ft_X11 hB a_h0 sh_11 0 (by decide) rfl k_fl_X11_12 dX11_ask_53 e_b1 ?_
            refine lv_iload hx hb dX11_ask_56 (lv_at hl 0 rfl) ?_
            refine iv_cVi X k_good k_mf_X5_bellsWithLineAt k_im_X5_bellsWithLineAt k_sel_X5_bellsWithLineAt k_ml_X11_359 ft_X5 hB a_b1 sh_5 (As := [.int x15]) (c_X5_bellsWithLineAt l D tys base G b1 g_b1 r_b1 a_b1 x15 i17_x15) ⟨rfl, rfl⟩ ⟨Nat.le_of_ble_eq_true rfl, Nat.le_of_ble_eq_true rfl⟩ ⟨Nat.le_of_ble_eq_true rfl, Nat.le_of_ble_eq_true rfl⟩ rfl rfl hl.1 (Nat.le_of_ble_eq_true rfl) dX11_ask_58 (fun x19 G9 H locs hq hB => ?_)
            obtain ⟨rfl, i_x19⟩ := hq
            refine lv_iand hx hb dX11_ask_61 ?_
            refine lv_topi (fun x20 e_x20 => ?_)
            have i_x20 := iv_R.all x20
            refine iv_cSi X k_good k_mf_J6_bitCount_0f7a4 k_st_J6_bitCount_0f7a4 k_ml_X11_288 hB (As := [.int x20]) (c_J6_bitCount_0f7a4 l D tys base G x20 i_x20) ⟨rfl, rfl⟩ ⟨Nat.le_of_ble_eq_true rfl, Nat.le_of_ble_eq_true rfl⟩ ⟨Nat.le_of_ble_eq_true rfl, Nat.le_of_ble_eq_true rfl⟩ rfl rfl hl.1 (Nat.le_of_ble_eq_true rfl) dX11_ask_62 (fun x21 G9 H locs hq hB => ?_)
            obtain ⟨rfl, i_x21⟩ := hq
            refine lv_istore (lv' := [(6, .int x21), (5, .int x15), (4, .int x14), (3, .int x13), (2, .int x9), (0, .ref h0)]) hx hb dX11_ask_65 hl (by decide) rfl (fun ls hl => ?_)
            refine lv_iload hx hb dX11_ask_67 (lv_at hl 0 rfl) ?_
            refine lv_iload_n hx hb dX11_ask_69 rfl (lv_at hl 4 rfl) ?_
            refine iv_cSi X k_good k_mf_J6_bitCount_0f7a4 k_st_J6_bitCount_0f7a4 k_ml_X11_288 hB (As := [.int x9]) (c_J6_bitCount_0f7a4 l D tys base G x9 i_x9) ⟨rfl, rfl⟩ ⟨Nat.le_of_ble_eq_true rfl, Nat.le_of_ble_eq_true rfl⟩ ⟨Nat.le_of_ble_eq_true rfl, Nat.le_of_ble_eq_true rfl⟩ rfl rfl hl.1 (Nat.le_of_ble_eq_true rfl) dX11_ask_70 (fun x22 G9 H locs hq hB => ?_)
            obtain ⟨rfl, i_x22⟩ := hq
            refine lv_iload hx hb dX11_ask_73 (lv_at hl 0 rfl) ?_
            refine iv_isub hx hb i_x22 i_x21 (lo := (-63)) (hi := 63) (by decide) dX11_ask_75 (fun x23 e_x23 i_x23 => ?_)
            refine iv_mmax X hl.1 k_mm_X11_300 ⟨Nat.le_of_ble_eq_true rfl, Nat.le_of_ble_eq_true rfl⟩ ⟨Nat.le_of_ble_eq_true rfl, Nat.le_of_ble_eq_true rfl⟩ i_x21 i_x23 (lo := 0) (hi := 63) (by decide) dX11_ask_76 (fun x24 e_x24 i_x24 => ?_)
            refine lv_istore (lv' := [(7, .int x24), (6, .int x21), (5, .int x15), (4, .int x14), (3, .int x13), (2, .int x9), (0, .ref h0)]) hx hb dX11_ask_79 hl (by decide) rfl (fun ls hl => ?_)
            refine lv_iload hx hb dX11_ask_81 (lv_at hl 0 rfl) ?_
            refine lv_iload hx hb dX11_ask_83 (lv_at hl 3 rfl) ?_
            refine lv_icmp_ge (tgt := 95) hx hb dX11_ask_85 (by decide) (fun c25 => ?_) (fun c25 => ?_)
            · skip
              refine iv_iinc hx hb i17_x15 (lo := 1) (hi := 24) (by decide) dX11_ask_95 hl (k := 2) rfl (by decide) (fun x26 ls e_x26 i_x26 hl => ?_)
              have hl : lv_has ls 8 [(5, .int x26), (7, .int x24), (6, .int x21), (4, .int x14), (3, .int x13), (2, .int x9), (0, .ref h0)] := hl
              refine lv_goto (tgt := 44) hx hb dX11_ask_98 (by decide) ?_
              exact ih_44 _ _ hB x13 i_x13 x14 i_x14 x26 (i_x26.wk (by decide)) (iv_mup (c := 1) i_x15 (by decide) (by decide) (by omega) hn) _ (lv_sub hl [0, 3, 4, 5, 6] rfl)
            · skip
              have i26_x24 : iv_R 0 10 x24 := (i_x24.cutHi (n := 10) (iv_lt_r (iv_nle c25) i_x14 (by decide)))
              have i27_x14 : iv_R 1 11 x14 := (i_x14.cutLo (n := 1) (iv_lt_l (iv_nle c25) i_x24 (by decide)))
              refine lv_iload hx hb dX11_ask_88 (lv_at hl 0 rfl) ?_
              refine lv_istore (lv' := [(4, .int x24), (7, .int x24), (6, .int x21), (5, .int x15), (3, .int x13), (2, .int x9), (0, .ref h0)]) hx hb dX11_ask_90 hl (by decide) rfl (fun ls hl => ?_)
              refine lv_iload hx hb dX11_ask_92 (lv_at hl 3 rfl) ?_
              refine lv_istore_n (lv' := [(3, .int x15), (4, .int x24), (7, .int x24), (6, .int x21), (5, .int x15), (2, .int x9), (0, .ref h0)]) hx hb dX11_ask_94 rfl hl (by decide) rfl (fun ls hl => ?_)
              refine iv_iinc hx hb i17_x15 (lo := 1) (hi := 24) (by decide) dX11_ask_95 hl (k := 4) rfl (by decide) (fun x29 ls e_x29 i_x29 hl => ?_)
              have hl : lv_has ls 8 [(5, .int x29), (3, .int x15), (4, .int x24), (7, .int x24), (6, .int x21), (2, .int x9), (0, .ref h0)] := hl
              refine lv_goto (tgt := 44) hx hb dX11_ask_98 (by decide) ?_
              exact ih_44 _ _ hB x15 (i17_x15.wk (by decide)) x24 (i26_x24.wk (by decide)) x29 (i_x29.wk (by decide)) (iv_mup (c := 1) i_x15 (by decide) (by decide) (by omega) hn) _ (lv_sub hl [0, 2, 1, 5, 6] rfl)
      exact L_44 _ _ _ hB (-1) (q_n1.wk (by decide)) 11 (q_11.wk (by decide)) 0 (q_0.wk (by decide)) (Nat.lt_succ_self _) _ (lv_sub hl [0, 1, 2, 3, 4] rfl)
    · skip
      have i29_x10 : iv_R 0 1 x10 := (i_x10.cutHi (n := 1) (iv_lt_r (iv_nle c11) q_2 (by decide)))
      refine lv_iconst (v := (-1)) hx hb dX11_ask_33 (by decide) ?_
      exact iv_iret X hr hlocks hB ⟨rfl, (q_n1.wk (by decide))⟩ dX11_ask_34
  · skip
    have i30_x3 : iv_R 0 0 x3 := (i_x3.cutHi (n := 0) (iv_eq_r c5 q_0).2)
    refine lv_iconst (v := (-1)) hx hb dX11_ask_14 (by decide) ?_
    exact iv_iret X hr hlocks hB ⟨rfl, (q_n1.wk (by decide))⟩ dX11_ask_15
set_option maxHeartbeats 4000000 in
set_option maxRecDepth 100000 in
theorem c_X8_has_13 (l : Launch) (D : va_G) (tys : List (ClassId × FieldType)) (base : Nat) (G : iv_G) (h0 : Nat) (g_h0 : Nat → Int32) (r_h0 : Nat → Nat) (a_h0 : G h0 = some (13, g_h0, r_h0)) (x_0 : Int32) (i_x_0 : iv_R (-2147483648) 2147483647 x_0) : Met l yX8_has (Cond.code yX8_has cX8_has 2 (some .boolean) :: iv_W0) ({ frames := 0, cells := 0, slots := 0, locals := 0 }) (iv_Pc iv_sh D classes tys base G [.ref h0, .int x_0]) (iv_Qi iv_sh D classes tys base (fun v G' => G = G' ∧ iv_R 0 1 v ∧ (¬ v = 0 → iv_R 0 119 x_0))) 0 0 (iv_A base) := by
  refine iv_head (by decide) (Nat.le_of_ble_eq_true rfl) ?_
  intro p e s m args below meth c ls X hr hlocks hname hB hl
  have X := X
  have hx := X.1.1
  have hb := X.1.2.1
  have hl : lv_has ls 2 [(0, .ref h0), (1, .int x_0)] := hl
  refine lv_iload_n hx hb dX8_has_0 rfl (lv_at hl 1 rfl) ?_
  refine lv_if_lt (tgt := 16) hx hb dX8_has_1 (by decide) (fun c1 => ?_) (fun c1 => ?_)
  · skip
    have i1_x_0 : iv_R (-2147483648) (-1) x_0 := (i_x_0.cutHi (n := (-1)) (iv_lt_r c1 q_0 (by decide)))
    refine lv_iconst (v := 0) hx hb dX8_has_16 (by decide) ?_
    exact iv_zret X hr hlocks hB (q_0.wk (by decide)) ⟨rfl, (q_0.wk (by decide)), fun h => absurd (iv_z q_0) h⟩ dX8_has_17
  · skip
    have i2_x_0 : iv_R 0 2147483647 x_0 := (i_x_0.cutLo (n := 0) (iv_le_l (iv_nlt c1) q_0))
    refine lv_iload_n hx hb dX8_has_4 rfl (lv_at hl 1 rfl) ?_
    refine lv_aload_n hx hb dX8_has_5 rfl (lv_at hl 0 rfl) ?_
    refine iv_geti X ft_X8 hB a_h0 sh_13 2 (by decide) rfl k_fl_X8_19 dX8_has_6 (fun x4 e_x4 i_x4 => ?_)
    refine lv_icmp_ge (tgt := 16) hx hb dX8_has_9 (by decide) (fun c5 => ?_) (fun c5 => ?_)
    · skip
      refine lv_iconst (v := 0) hx hb dX8_has_16 (by decide) ?_
      exact iv_zret X hr hlocks hB (q_0.wk (by decide)) ⟨rfl, (q_0.wk (by decide)), fun h => absurd (iv_z q_0) h⟩ dX8_has_17
    · skip
      have i5_x_0 : iv_R 0 119 x_0 := (i2_x_0.cutHi (n := 119) (iv_lt_r (iv_nle c5) i_x4 (by decide)))
      have i6_x4 : iv_R 1 120 x4 := (i_x4.cutLo (n := 1) (iv_lt_l (iv_nle c5) i2_x_0 (by decide)))
      refine lv_iconst (v := 1) hx hb dX8_has_12 (by decide) ?_
      refine lv_goto (tgt := 17) hx hb dX8_has_13 (by decide) ?_
      exact iv_zret X hr hlocks hB (q_1.wk (by decide)) ⟨rfl, (q_1.wk (by decide)), fun _ => i5_x_0⟩ dX8_has_17
set_option maxHeartbeats 4000000 in
set_option maxRecDepth 100000 in
theorem c_X8_at_13 (l : Launch) (D : va_G) (tys : List (ClassId × FieldType)) (base : Nat) (G : iv_G) (h0 : Nat) (g_h0 : Nat → Int32) (r_h0 : Nat → Nat) (a_h0 : G h0 = some (13, g_h0, r_h0)) (x_0 : Int32) (i_x_0 : iv_R 0 119 x_0) (x_1 : Int32) (i_x_1 : iv_R 0 3 x_1) : Met l yX8_at (Cond.code yX8_at cX8_at 3 (some .int) :: iv_W0) ({ frames := 1, cells := 0, slots := 0, locals := 22 }) (iv_Pc iv_sh D classes tys base G [.ref h0, .int x_0, .int x_1]) (iv_Qi iv_sh D classes tys base (fun v G' => G = G' ∧ iv_R (-2147483648) 2147483647 v)) 0 0 (iv_A base) := by
  refine iv_head (by decide) (Nat.le_of_ble_eq_true rfl) ?_
  intro p e s m args below meth c ls X hr hlocks hname hB hl
  have X := X
  have hx := X.1.1
  have hb := X.1.2.1
  have hl : lv_has ls 3 [(0, .ref h0), (1, .int x_0), (2, .int x_1)] := hl
  refine lv_aload_n hx hb dX8_at_0 rfl (lv_at hl 0 rfl) ?_
  refine lv_iload_n hx hb dX8_at_1 rfl (lv_at hl 1 rfl) ?_
  refine iv_cVi X k_good k_mf_X8_has k_im_X8_has k_sel_X8_has k_ml_X8_22 ft_X8 hB a_h0 sh_13 (As := [.int x_0]) (c_X8_has_13 l D tys base G h0 g_h0 r_h0 a_h0 x_0 (i_x_0.wk (by decide))) ⟨rfl, rfl⟩ ⟨Nat.le_of_ble_eq_true rfl, Nat.le_of_ble_eq_true rfl⟩ ⟨Nat.le_of_ble_eq_true rfl, Nat.le_of_ble_eq_true rfl⟩ rfl rfl hl.1 (Nat.le_of_ble_eq_true rfl) dX8_at_2 (fun x1 G9 H locs hq hB => ?_)
  obtain ⟨rfl, i_x1, hp2⟩ := hq
  refine lv_if_eq (tgt := 38) hx hb dX8_at_5 (by decide) (fun c3 => ?_) (fun c3 => ?_)
  · skip
    have i3_x1 : iv_R 0 0 x1 := (i_x1.cutHi (n := 0) (iv_eq_r c3 q_0).2)
    refine lv_iconst (v := (-1)) hx hb dX8_at_38 (by decide) ?_
    exact iv_iret X hr hlocks hB ⟨rfl, (q_n1.wk (by decide))⟩ dX8_at_39
  · skip
    have i4_x1 : iv_R 1 1 x1 := iv_ne_lo c3 i_x1 q_0 (by decide)
    refine lv_iload_n hx hb dX8_at_8 rfl (lv_at hl 2 rfl) ?_
    refine lv_iconst (v := 0) hx hb dX8_at_9 (by decide) ?_
    refine lv_aload_n hx hb dX8_at_10 rfl (lv_at hl 0 rfl) ?_
    refine iv_geti X ft_X8 hB a_h0 sh_13 0 (by decide) rfl k_fl_X8_9 dX8_at_11 (fun x6 e_x6 i_x6 => ?_)
    refine lv_iconst (v := 1) hx hb dX8_at_14 (by decide) ?_
    refine iv_isub hx hb i_x6 q_1 (lo := 3) (hi := 3) (by decide) dX8_at_15 (fun x7 e_x7 i_x7 => ?_)
    refine iv_cSNi X k_good k_mf_X11_isWithin k_st_X11_isWithin (k_mn_X8_26 X.2.2) hB (As := [.int x_1, .int 0, .int x7]) (c_X11_isWithin l D tys base G x_1 (i_x_1.wk (by decide)) 0 (q_0.wk (by decide)) x7 (i_x7.wk (by decide))) ⟨rfl, rfl⟩ ⟨Nat.le_of_ble_eq_true rfl, Nat.le_of_ble_eq_true rfl⟩ ⟨Nat.le_of_ble_eq_true rfl, Nat.le_of_ble_eq_true rfl⟩ rfl rfl hl.1 (Nat.le_of_ble_eq_true rfl) dX8_at_16 (fun x8 G9 H locs hq hB => ?_)
    obtain ⟨rfl, i_x8, hp9⟩ := hq
    have k10 : ¬ x8 = 0 → iv_R 0 3 x_1 := fun h => ⟨iv_max i_x_1.1 (Int.le_trans q_0.1 (hp9.1 h).1) (by decide), iv_min i_x_1.2 (Int.le_trans (hp9.1 h).2 i_x7.2) (by decide)⟩
    refine lv_if_eq (tgt := 38) hx hb dX8_at_19 (by decide) (fun c11 => ?_) (fun c11 => ?_)
    · skip
      have i11_x8 : iv_R 0 0 x8 := (i_x8.cutHi (n := 0) (iv_eq_r c11 q_0).2)
      refine lv_iconst (v := (-1)) hx hb dX8_at_38 (by decide) ?_
      exact iv_iret X hr hlocks hB ⟨rfl, (q_n1.wk (by decide))⟩ dX8_at_39
    · skip
      have i12_x8 : iv_R 1 1 x8 := iv_ne_lo c11 i_x8 q_0 (by decide)
      refine lv_aload_n hx hb dX8_at_22 rfl (lv_at hl 0 rfl) ?_
      refine iv_getr X ft_X8 hB a_h0 sh_13 1 (by decide) rfl k_fl_X8_15 dX8_at_23 (fun b14 g_b14 r_b14 e_b14 a_b14 => ?_)
      refine lv_iload_n hx hb dX8_at_26 rfl (lv_at hl 1 rfl) ?_
      refine lv_aload_n hx hb dX8_at_27 rfl (lv_at hl 0 rfl) ?_
      refine iv_geti0 X ft_X8 hB a_h0 sh_13 0 (by decide) rfl k_fl_X8_9 dX8_at_28 e_x6 ?_
      refine iv_imul hx hb i_x_0 i_x6 (lo := 0) (hi := 476) (by decide) dX8_at_31 (fun x15 e_x15 i_x15 => ?_)
      refine lv_iload_n hx hb dX8_at_32 rfl (lv_at hl 2 rfl) ?_
      refine iv_iadd hx hb i_x15 i_x_1 (lo := 0) (hi := 479) (by decide) dX8_at_33 (fun x16 e_x16 i_x16 => ?_)
      refine iv_ald X hB a_b14 sh_23 (iv_in i_x16 (by decide)) dX8_at_34 (fun x17 e_x17 i_x17 => ?_)
      refine lv_goto (tgt := 39) hx hb dX8_at_35 (by decide) ?_
      exact iv_iret X hr hlocks hB ⟨rfl, i_x17⟩ dX8_at_39
theorem dX11_book_0 : decode cX11_book 0 = .ok (.aload_n 0, 1) := by decide +kernel
theorem dX11_book_1 : decode cX11_book 1 = .ok (.getfield 12, 3) := by decide +kernel
theorem dX11_book_4 : decode cX11_book 4 = .ok (.getfield 137, 3) := by decide +kernel
theorem dX11_book_7 : decode cX11_book 7 = .ok (.iload_n 1, 1) := by decide +kernel
theorem dX11_book_8 : decode cX11_book 8 = .ok (.invokevirtual 155, 3) := by decide +kernel
theorem dX11_book_11 : decode cX11_book 11 = .ok (.ifCond .eq 27, 3) := by decide +kernel
theorem dX11_book_14 : decode cX11_book 14 = .ok (.iload_n 2, 1) := by decide +kernel
theorem dX11_book_15 : decode cX11_book 15 = .ok (.iconst 0, 1) := by decide +kernel
theorem dX11_book_16 : decode cX11_book 16 = .ok (.iconst 3, 1) := by decide +kernel
theorem dX11_book_17 : decode cX11_book 17 = .ok (.invokestatic 83, 3) := by decide +kernel
theorem dX11_book_20 : decode cX11_book 20 = .ok (.ifCond .eq 18, 3) := by decide +kernel
theorem dX11_book_23 : decode cX11_book 23 = .ok (.aload_n 0, 1) := by decide +kernel
theorem dX11_book_24 : decode cX11_book 24 = .ok (.getfield 12, 3) := by decide +kernel
theorem dX11_book_27 : decode cX11_book 27 = .ok (.getfield 137, 3) := by decide +kernel
theorem dX11_book_30 : decode cX11_book 30 = .ok (.iload_n 1, 1) := by decide +kernel
theorem dX11_book_31 : decode cX11_book 31 = .ok (.iload_n 2, 1) := by decide +kernel
theorem dX11_book_32 : decode cX11_book 32 = .ok (.invokevirtual 158, 3) := by decide +kernel
theorem dX11_book_35 : decode cX11_book 35 = .ok (.goto 5, 3) := by decide +kernel
theorem dX11_book_38 : decode cX11_book 38 = .ok (.bipush (-2), 2) := by decide +kernel
theorem dX11_book_40 : decode cX11_book 40 = .ok (.ireturn, 1) := by decide +kernel
set_option maxHeartbeats 4000000 in
set_option maxRecDepth 100000 in
theorem c_X11_book (l : Launch) (D : va_G) (tys : List (ClassId × FieldType)) (base : Nat) (G : iv_G) (h0 : Nat) (g_h0 : Nat → Int32) (r_h0 : Nat → Nat) (a_h0 : G h0 = some (11, g_h0, r_h0)) (x_0 : Int32) (i_x_0 : iv_R (-2147483648) 2147483647 x_0) (x_1 : Int32) (i_x_1 : iv_R (-2147483648) 2147483647 x_1) : Met l yX11_book (Cond.code yX11_book cX11_book 3 (some .int) :: iv_W0) ({ frames := 2, cells := 0, slots := 0, locals := 44 }) (iv_Pc iv_sh D classes tys base G [.ref h0, .int x_0, .int x_1]) (iv_Qi iv_sh D classes tys base (fun v G' => G = G' ∧ iv_R (-2147483648) 2147483647 v)) 0 0 (iv_A base) := by
  refine iv_head (by decide) (Nat.le_of_ble_eq_true rfl) ?_
  intro p e s m args below meth c ls X hr hlocks hname hB hl
  have X := X
  have hx := X.1.1
  have hb := X.1.2.1
  have hl : lv_has ls 3 [(0, .ref h0), (1, .int x_0), (2, .int x_1)] := hl
  refine lv_aload_n hx hb dX11_book_0 rfl (lv_at hl 0 rfl) ?_
  refine iv_getr X ft_X11 hB a_h0 sh_11 0 (by decide) rfl k_fl_X11_12 dX11_book_1 (fun b1 g_b1 r_b1 e_b1 a_b1 => ?_)
  refine iv_getr X ft_X5 hB a_b1 sh_5 9 (by decide) rfl k_fl_X11_137 dX11_book_4 (fun b2 g_b2 r_b2 e_b2 a_b2 => ?_)
  refine lv_iload_n hx hb dX11_book_7 rfl (lv_at hl 1 rfl) ?_
  refine iv_cVi X k_good k_mf_X8_has k_im_X8_has k_sel_X8_has k_ml_X11_155 ft_X8 hB a_b2 sh_13 (As := [.int x_0]) (c_X8_has_13 l D tys base G b2 g_b2 r_b2 a_b2 x_0 i_x_0) ⟨rfl, rfl⟩ ⟨Nat.le_of_ble_eq_true rfl, Nat.le_of_ble_eq_true rfl⟩ ⟨Nat.le_of_ble_eq_true rfl, Nat.le_of_ble_eq_true rfl⟩ rfl rfl hl.1 (Nat.le_of_ble_eq_true rfl) dX11_book_8 (fun x3 G9 H locs hq hB => ?_)
  obtain ⟨rfl, i_x3, hp4⟩ := hq
  refine lv_if_eq (tgt := 38) hx hb dX11_book_11 (by decide) (fun c5 => ?_) (fun c5 => ?_)
  · skip
    have i5_x3 : iv_R 0 0 x3 := (i_x3.cutHi (n := 0) (iv_eq_r c5 q_0).2)
    refine lv_bipush (v := (-2)) hx hb dX11_book_38 (by decide) ?_
    exact iv_iret X hr hlocks hB ⟨rfl, (q_n2.wk (by decide))⟩ dX11_book_40
  · skip
    have i6_x3 : iv_R 1 1 x3 := iv_ne_lo c5 i_x3 q_0 (by decide)
    have i7_x_0 : iv_R 0 119 x_0 := ((i_x_0.cutLo (n := 0) (hp4 c5).1).cutHi (n := 119) (hp4 c5).2)
    refine lv_iload_n hx hb dX11_book_14 rfl (lv_at hl 2 rfl) ?_
    refine lv_iconst (v := 0) hx hb dX11_book_15 (by decide) ?_
    refine lv_iconst (v := 3) hx hb dX11_book_16 (by decide) ?_
    refine iv_cSi X k_good k_mf_X11_isWithin k_st_X11_isWithin k_ml_X11_83 hB (As := [.int x_1, .int 0, .int 3]) (c_X11_isWithin l D tys base G x_1 i_x_1 0 (q_0.wk (by decide)) 3 (q_3.wk (by decide))) ⟨rfl, rfl⟩ ⟨Nat.le_of_ble_eq_true rfl, Nat.le_of_ble_eq_true rfl⟩ ⟨Nat.le_of_ble_eq_true rfl, Nat.le_of_ble_eq_true rfl⟩ rfl rfl hl.1 (Nat.le_of_ble_eq_true rfl) dX11_book_17 (fun x9 G9 H locs hq hB => ?_)
    obtain ⟨rfl, i_x9, hp10⟩ := hq
    have k11 : ¬ x9 = 0 → iv_R 0 3 x_1 := fun h => ⟨iv_max i_x_1.1 (Int.le_trans q_0.1 (hp10.1 h).1) (by decide), iv_min i_x_1.2 (Int.le_trans (hp10.1 h).2 q_3.2) (by decide)⟩
    refine lv_if_eq (tgt := 38) hx hb dX11_book_20 (by decide) (fun c12 => ?_) (fun c12 => ?_)
    · skip
      have i12_x9 : iv_R 0 0 x9 := (i_x9.cutHi (n := 0) (iv_eq_r c12 q_0).2)
      refine lv_bipush (v := (-2)) hx hb dX11_book_38 (by decide) ?_
      exact iv_iret X hr hlocks hB ⟨rfl, (q_n2.wk (by decide))⟩ dX11_book_40
    · skip
      have i13_x9 : iv_R 1 1 x9 := iv_ne_lo c12 i_x9 q_0 (by decide)
      have i14_x_1 : iv_R 0 3 x_1 := ((i_x_1.cutLo (n := 0) (k11 c12).1).cutHi (n := 3) (k11 c12).2)
      refine lv_aload_n hx hb dX11_book_23 rfl (lv_at hl 0 rfl) ?_
      refine iv_getr0 X ft_X11 hB a_h0 sh_11 0 (by decide) rfl k_fl_X11_12 dX11_book_24 e_b1 ?_
      refine iv_getr0 X ft_X5 hB a_b1 sh_5 9 (by decide) rfl k_fl_X11_137 dX11_book_27 e_b2 ?_
      refine lv_iload_n hx hb dX11_book_30 rfl (lv_at hl 1 rfl) ?_
      refine lv_iload_n hx hb dX11_book_31 rfl (lv_at hl 2 rfl) ?_
      refine iv_cVi X k_good k_mf_X8_at k_im_X8_at k_sel_X8_at k_ml_X11_158 ft_X8 hB a_b2 sh_13 (As := [.int x_0, .int x_1]) (c_X8_at_13 l D tys base G b2 g_b2 r_b2 a_b2 x_0 i7_x_0 x_1 i14_x_1) ⟨rfl, rfl⟩ ⟨Nat.le_of_ble_eq_true rfl, Nat.le_of_ble_eq_true rfl⟩ ⟨Nat.le_of_ble_eq_true rfl, Nat.le_of_ble_eq_true rfl⟩ rfl rfl hl.1 (Nat.le_of_ble_eq_true rfl) dX11_book_32 (fun x16 G9 H locs hq hB => ?_)
      obtain ⟨rfl, i_x16⟩ := hq
      refine lv_goto (tgt := 40) hx hb dX11_book_35 (by decide) ?_
      exact iv_iret X hr hlocks hB ⟨rfl, i_x16⟩ dX11_book_40
set_option maxHeartbeats 4000000 in
set_option maxRecDepth 100000 in
theorem c_X8_at_8 (l : Launch) (D : va_G) (tys : List (ClassId × FieldType)) (base : Nat) (G : iv_G) (h0 : Nat) (g_h0 : Nat → Int32) (r_h0 : Nat → Nat) (a_h0 : G h0 = some (8, g_h0, r_h0)) (x_0 : Int32) (i_x_0 : iv_R 0 19 x_0) (x_1 : Int32) (i_x_1 : iv_R 0 2 x_1) : Met l yX8_at (Cond.code yX8_at cX8_at 3 (some .int) :: iv_W0) ({ frames := 1, cells := 0, slots := 0, locals := 22 }) (iv_Pc iv_sh D classes tys base G [.ref h0, .int x_0, .int x_1]) (iv_Qi iv_sh D classes tys base (fun v G' => G = G' ∧ iv_R (-2147483648) 2147483647 v)) 0 0 (iv_A base) := by
  refine iv_head (by decide) (Nat.le_of_ble_eq_true rfl) ?_
  intro p e s m args below meth c ls X hr hlocks hname hB hl
  have X := X
  have hx := X.1.1
  have hb := X.1.2.1
  have hl : lv_has ls 3 [(0, .ref h0), (1, .int x_0), (2, .int x_1)] := hl
  refine lv_aload_n hx hb dX8_at_0 rfl (lv_at hl 0 rfl) ?_
  refine lv_iload_n hx hb dX8_at_1 rfl (lv_at hl 1 rfl) ?_
  refine iv_cVi X k_good k_mf_X8_has k_im_X8_has k_sel_X8_has k_ml_X8_22 ft_X8 hB a_h0 sh_8 (As := [.int x_0]) (c_X8_has_8 l D tys base G h0 g_h0 r_h0 a_h0 x_0 (i_x_0.wk (by decide))) ⟨rfl, rfl⟩ ⟨Nat.le_of_ble_eq_true rfl, Nat.le_of_ble_eq_true rfl⟩ ⟨Nat.le_of_ble_eq_true rfl, Nat.le_of_ble_eq_true rfl⟩ rfl rfl hl.1 (Nat.le_of_ble_eq_true rfl) dX8_at_2 (fun x1 G9 H locs hq hB => ?_)
  obtain ⟨rfl, i_x1, hp2⟩ := hq
  refine lv_if_eq (tgt := 38) hx hb dX8_at_5 (by decide) (fun c3 => ?_) (fun c3 => ?_)
  · skip
    have i3_x1 : iv_R 0 0 x1 := (i_x1.cutHi (n := 0) (iv_eq_r c3 q_0).2)
    refine lv_iconst (v := (-1)) hx hb dX8_at_38 (by decide) ?_
    exact iv_iret X hr hlocks hB ⟨rfl, (q_n1.wk (by decide))⟩ dX8_at_39
  · skip
    have i4_x1 : iv_R 1 1 x1 := iv_ne_lo c3 i_x1 q_0 (by decide)
    refine lv_iload_n hx hb dX8_at_8 rfl (lv_at hl 2 rfl) ?_
    refine lv_iconst (v := 0) hx hb dX8_at_9 (by decide) ?_
    refine lv_aload_n hx hb dX8_at_10 rfl (lv_at hl 0 rfl) ?_
    refine iv_geti X ft_X8 hB a_h0 sh_8 0 (by decide) rfl k_fl_X8_9 dX8_at_11 (fun x6 e_x6 i_x6 => ?_)
    refine lv_iconst (v := 1) hx hb dX8_at_14 (by decide) ?_
    refine iv_isub hx hb i_x6 q_1 (lo := 2) (hi := 2) (by decide) dX8_at_15 (fun x7 e_x7 i_x7 => ?_)
    refine iv_cSNi X k_good k_mf_X11_isWithin k_st_X11_isWithin (k_mn_X8_26 X.2.2) hB (As := [.int x_1, .int 0, .int x7]) (c_X11_isWithin l D tys base G x_1 (i_x_1.wk (by decide)) 0 (q_0.wk (by decide)) x7 (i_x7.wk (by decide))) ⟨rfl, rfl⟩ ⟨Nat.le_of_ble_eq_true rfl, Nat.le_of_ble_eq_true rfl⟩ ⟨Nat.le_of_ble_eq_true rfl, Nat.le_of_ble_eq_true rfl⟩ rfl rfl hl.1 (Nat.le_of_ble_eq_true rfl) dX8_at_16 (fun x8 G9 H locs hq hB => ?_)
    obtain ⟨rfl, i_x8, hp9⟩ := hq
    have k10 : ¬ x8 = 0 → iv_R 0 2 x_1 := fun h => ⟨iv_max i_x_1.1 (Int.le_trans q_0.1 (hp9.1 h).1) (by decide), iv_min i_x_1.2 (Int.le_trans (hp9.1 h).2 i_x7.2) (by decide)⟩
    refine lv_if_eq (tgt := 38) hx hb dX8_at_19 (by decide) (fun c11 => ?_) (fun c11 => ?_)
    · skip
      have i11_x8 : iv_R 0 0 x8 := (i_x8.cutHi (n := 0) (iv_eq_r c11 q_0).2)
      refine lv_iconst (v := (-1)) hx hb dX8_at_38 (by decide) ?_
      exact iv_iret X hr hlocks hB ⟨rfl, (q_n1.wk (by decide))⟩ dX8_at_39
    · skip
      have i12_x8 : iv_R 1 1 x8 := iv_ne_lo c11 i_x8 q_0 (by decide)
      refine lv_aload_n hx hb dX8_at_22 rfl (lv_at hl 0 rfl) ?_
      refine iv_getr X ft_X8 hB a_h0 sh_8 1 (by decide) rfl k_fl_X8_15 dX8_at_23 (fun b14 g_b14 r_b14 e_b14 a_b14 => ?_)
      refine lv_iload_n hx hb dX8_at_26 rfl (lv_at hl 1 rfl) ?_
      refine lv_aload_n hx hb dX8_at_27 rfl (lv_at hl 0 rfl) ?_
      refine iv_geti0 X ft_X8 hB a_h0 sh_8 0 (by decide) rfl k_fl_X8_9 dX8_at_28 e_x6 ?_
      refine iv_imul hx hb i_x_0 i_x6 (lo := 0) (hi := 57) (by decide) dX8_at_31 (fun x15 e_x15 i_x15 => ?_)
      refine lv_iload_n hx hb dX8_at_32 rfl (lv_at hl 2 rfl) ?_
      refine iv_iadd hx hb i_x15 i_x_1 (lo := 0) (hi := 59) (by decide) dX8_at_33 (fun x16 e_x16 i_x16 => ?_)
      refine iv_ald X hB a_b14 sh_22 (iv_in i_x16 (by decide)) dX8_at_34 (fun x17 e_x17 i_x17 => ?_)
      refine lv_goto (tgt := 39) hx hb dX8_at_35 (by decide) ?_
      exact iv_iret X hr hlocks hB ⟨rfl, i_x17⟩ dX8_at_39
theorem dX11_child_0 : decode cX11_child 0 = .ok (.aload_n 0, 1) := by decide +kernel
theorem dX11_child_1 : decode cX11_child 1 = .ok (.getfield 12, 3) := by decide +kernel
theorem dX11_child_4 : decode cX11_child 4 = .ok (.getfield 152, 3) := by decide +kernel
theorem dX11_child_7 : decode cX11_child 7 = .ok (.iload_n 1, 1) := by decide +kernel
theorem dX11_child_8 : decode cX11_child 8 = .ok (.invokevirtual 155, 3) := by decide +kernel
theorem dX11_child_11 : decode cX11_child 11 = .ok (.ifCond .eq 27, 3) := by decide +kernel
theorem dX11_child_14 : decode cX11_child 14 = .ok (.iload_n 2, 1) := by decide +kernel
theorem dX11_child_15 : decode cX11_child 15 = .ok (.iconst 0, 1) := by decide +kernel
theorem dX11_child_16 : decode cX11_child 16 = .ok (.iconst 2, 1) := by decide +kernel
theorem dX11_child_17 : decode cX11_child 17 = .ok (.invokestatic 83, 3) := by decide +kernel
theorem dX11_child_20 : decode cX11_child 20 = .ok (.ifCond .eq 18, 3) := by decide +kernel
theorem dX11_child_23 : decode cX11_child 23 = .ok (.aload_n 0, 1) := by decide +kernel
theorem dX11_child_24 : decode cX11_child 24 = .ok (.getfield 12, 3) := by decide +kernel
theorem dX11_child_27 : decode cX11_child 27 = .ok (.getfield 152, 3) := by decide +kernel
theorem dX11_child_30 : decode cX11_child 30 = .ok (.iload_n 1, 1) := by decide +kernel
theorem dX11_child_31 : decode cX11_child 31 = .ok (.iload_n 2, 1) := by decide +kernel
theorem dX11_child_32 : decode cX11_child 32 = .ok (.invokevirtual 158, 3) := by decide +kernel
theorem dX11_child_35 : decode cX11_child 35 = .ok (.goto 4, 3) := by decide +kernel
theorem dX11_child_38 : decode cX11_child 38 = .ok (.iconst (-1), 1) := by decide +kernel
theorem dX11_child_39 : decode cX11_child 39 = .ok (.ireturn, 1) := by decide +kernel
set_option maxHeartbeats 4000000 in
set_option maxRecDepth 100000 in
theorem c_X11_child (l : Launch) (D : va_G) (tys : List (ClassId × FieldType)) (base : Nat) (G : iv_G) (h0 : Nat) (g_h0 : Nat → Int32) (r_h0 : Nat → Nat) (a_h0 : G h0 = some (11, g_h0, r_h0)) (x_0 : Int32) (i_x_0 : iv_R (-2147483648) 2147483647 x_0) (x_1 : Int32) (i_x_1 : iv_R (-2147483648) 2147483647 x_1) : Met l yX11_child (Cond.code yX11_child cX11_child 3 (some .int) :: iv_W0) ({ frames := 2, cells := 0, slots := 0, locals := 44 }) (iv_Pc iv_sh D classes tys base G [.ref h0, .int x_0, .int x_1]) (iv_Qi iv_sh D classes tys base (fun v G' => G = G' ∧ iv_R (-2147483648) 2147483647 v)) 0 0 (iv_A base) := by
  refine iv_head (by decide) (Nat.le_of_ble_eq_true rfl) ?_
  intro p e s m args below meth c ls X hr hlocks hname hB hl
  have X := X
  have hx := X.1.1
  have hb := X.1.2.1
  have hl : lv_has ls 3 [(0, .ref h0), (1, .int x_0), (2, .int x_1)] := hl
  refine lv_aload_n hx hb dX11_child_0 rfl (lv_at hl 0 rfl) ?_
  refine iv_getr X ft_X11 hB a_h0 sh_11 0 (by decide) rfl k_fl_X11_12 dX11_child_1 (fun b1 g_b1 r_b1 e_b1 a_b1 => ?_)
  refine iv_getr X ft_X5 hB a_b1 sh_5 8 (by decide) rfl k_fl_X11_152 dX11_child_4 (fun b2 g_b2 r_b2 e_b2 a_b2 => ?_)
  refine lv_iload_n hx hb dX11_child_7 rfl (lv_at hl 1 rfl) ?_
  refine iv_cVi X k_good k_mf_X8_has k_im_X8_has k_sel_X8_has k_ml_X11_155 ft_X8 hB a_b2 sh_8 (As := [.int x_0]) (c_X8_has_8 l D tys base G b2 g_b2 r_b2 a_b2 x_0 i_x_0) ⟨rfl, rfl⟩ ⟨Nat.le_of_ble_eq_true rfl, Nat.le_of_ble_eq_true rfl⟩ ⟨Nat.le_of_ble_eq_true rfl, Nat.le_of_ble_eq_true rfl⟩ rfl rfl hl.1 (Nat.le_of_ble_eq_true rfl) dX11_child_8 (fun x3 G9 H locs hq hB => ?_)
  obtain ⟨rfl, i_x3, hp4⟩ := hq
  refine lv_if_eq (tgt := 38) hx hb dX11_child_11 (by decide) (fun c5 => ?_) (fun c5 => ?_)
  · skip
    have i5_x3 : iv_R 0 0 x3 := (i_x3.cutHi (n := 0) (iv_eq_r c5 q_0).2)
    refine lv_iconst (v := (-1)) hx hb dX11_child_38 (by decide) ?_
    exact iv_iret X hr hlocks hB ⟨rfl, (q_n1.wk (by decide))⟩ dX11_child_39
  · skip
    have i6_x3 : iv_R 1 1 x3 := iv_ne_lo c5 i_x3 q_0 (by decide)
    have i7_x_0 : iv_R 0 19 x_0 := ((i_x_0.cutLo (n := 0) (hp4 c5).1).cutHi (n := 19) (hp4 c5).2)
    refine lv_iload_n hx hb dX11_child_14 rfl (lv_at hl 2 rfl) ?_
    refine lv_iconst (v := 0) hx hb dX11_child_15 (by decide) ?_
    refine lv_iconst (v := 2) hx hb dX11_child_16 (by decide) ?_
    refine iv_cSi X k_good k_mf_X11_isWithin k_st_X11_isWithin k_ml_X11_83 hB (As := [.int x_1, .int 0, .int 2]) (c_X11_isWithin l D tys base G x_1 i_x_1 0 (q_0.wk (by decide)) 2 (q_2.wk (by decide))) ⟨rfl, rfl⟩ ⟨Nat.le_of_ble_eq_true rfl, Nat.le_of_ble_eq_true rfl⟩ ⟨Nat.le_of_ble_eq_true rfl, Nat.le_of_ble_eq_true rfl⟩ rfl rfl hl.1 (Nat.le_of_ble_eq_true rfl) dX11_child_17 (fun x9 G9 H locs hq hB => ?_)
    obtain ⟨rfl, i_x9, hp10⟩ := hq
    have k11 : ¬ x9 = 0 → iv_R 0 2 x_1 := fun h => ⟨iv_max i_x_1.1 (Int.le_trans q_0.1 (hp10.1 h).1) (by decide), iv_min i_x_1.2 (Int.le_trans (hp10.1 h).2 q_2.2) (by decide)⟩
    refine lv_if_eq (tgt := 38) hx hb dX11_child_20 (by decide) (fun c12 => ?_) (fun c12 => ?_)
    · skip
      have i12_x9 : iv_R 0 0 x9 := (i_x9.cutHi (n := 0) (iv_eq_r c12 q_0).2)
      refine lv_iconst (v := (-1)) hx hb dX11_child_38 (by decide) ?_
      exact iv_iret X hr hlocks hB ⟨rfl, (q_n1.wk (by decide))⟩ dX11_child_39
    · skip
      have i13_x9 : iv_R 1 1 x9 := iv_ne_lo c12 i_x9 q_0 (by decide)
      have i14_x_1 : iv_R 0 2 x_1 := ((i_x_1.cutLo (n := 0) (k11 c12).1).cutHi (n := 2) (k11 c12).2)
      refine lv_aload_n hx hb dX11_child_23 rfl (lv_at hl 0 rfl) ?_
      refine iv_getr0 X ft_X11 hB a_h0 sh_11 0 (by decide) rfl k_fl_X11_12 dX11_child_24 e_b1 ?_
      refine iv_getr0 X ft_X5 hB a_b1 sh_5 8 (by decide) rfl k_fl_X11_152 dX11_child_27 e_b2 ?_
      refine lv_iload_n hx hb dX11_child_30 rfl (lv_at hl 1 rfl) ?_
      refine lv_iload_n hx hb dX11_child_31 rfl (lv_at hl 2 rfl) ?_
      refine iv_cVi X k_good k_mf_X8_at k_im_X8_at k_sel_X8_at k_ml_X11_158 ft_X8 hB a_b2 sh_8 (As := [.int x_0, .int x_1]) (c_X8_at_8 l D tys base G b2 g_b2 r_b2 a_b2 x_0 i7_x_0 x_1 i14_x_1) ⟨rfl, rfl⟩ ⟨Nat.le_of_ble_eq_true rfl, Nat.le_of_ble_eq_true rfl⟩ ⟨Nat.le_of_ble_eq_true rfl, Nat.le_of_ble_eq_true rfl⟩ rfl rfl hl.1 (Nat.le_of_ble_eq_true rfl) dX11_child_32 (fun x16 G9 H locs hq hB => ?_)
      obtain ⟨rfl, i_x16⟩ := hq
      refine lv_goto (tgt := 39) hx hb dX11_child_35 (by decide) ?_
      exact iv_iret X hr hlocks hB ⟨rfl, i_x16⟩ dX11_child_39
theorem dX11_chosen_0 : decode cX11_chosen 0 = .ok (.iload_n 0, 1) := by decide +kernel
theorem dX11_chosen_1 : decode cX11_chosen 1 = .ok (.lookupswitch 31 #[(0, 27), (1, 29)], 27) := by decide +kernel
theorem dX11_chosen_28 : decode cX11_chosen 28 = .ok (.iload_n 1, 1) := by decide +kernel
theorem dX11_chosen_29 : decode cX11_chosen 29 = .ok (.ireturn, 1) := by decide +kernel
theorem dX11_chosen_30 : decode cX11_chosen 30 = .ok (.iload_n 2, 1) := by decide +kernel
theorem dX11_chosen_31 : decode cX11_chosen 31 = .ok (.ireturn, 1) := by decide +kernel
theorem dX11_chosen_32 : decode cX11_chosen 32 = .ok (.iconst (-1), 1) := by decide +kernel
theorem dX11_chosen_33 : decode cX11_chosen 33 = .ok (.ireturn, 1) := by decide +kernel
set_option maxHeartbeats 4000000 in
set_option maxRecDepth 100000 in
theorem c_X11_chosen (l : Launch) (D : va_G) (tys : List (ClassId × FieldType)) (base : Nat) (G : iv_G) (x_0 : Int32) (i_x_0 : iv_R (-2147483648) 2147483647 x_0) (x_1 : Int32) (i_x_1 : iv_R (-2147483648) 2147483647 x_1) (x_2 : Int32) (i_x_2 : iv_R (-1) 2147483647 x_2) : Met l yX11_chosen (Cond.code yX11_chosen cX11_chosen 3 (some .int) :: iv_W0) ({ frames := 0, cells := 0, slots := 0, locals := 0 }) (iv_Pc iv_sh D classes tys base G [.int x_0, .int x_1, .int x_2]) (iv_Qi iv_sh D classes tys base (fun v G' => G = G' ∧ iv_R (-2147483648) 2147483647 v)) 0 0 (iv_A base) := by
  refine iv_head (by decide) (Nat.le_of_ble_eq_true rfl) ?_
  intro p e s m args below meth c ls X hr hlocks hname hB hl
  have X := X
  have hx := X.1.1
  have hb := X.1.2.1
  have hl : lv_has ls 3 [(0, .int x_0), (1, .int x_1), (2, .int x_2)] := hl
  refine lv_iload_n hx hb dX11_chosen_0 rfl (lv_at hl 0 rfl) ?_
  by_cases w1 : x_0.toInt = 0
  · skip
    refine lv_lookup (off := 27) (tgt := 28) hx hb dX11_chosen_1 (by decide) (by rw [w1]; (try rfl)) (by decide) ?_
    have w1i : iv_R 0 0 x_0 := iv_lit w1
    refine lv_iload_n hx hb dX11_chosen_28 rfl (lv_at hl 1 rfl) ?_
    exact iv_iret X hr hlocks hB ⟨rfl, i_x_1⟩ dX11_chosen_29
  skip
  by_cases w2 : x_0.toInt = 1
  · skip
    refine lv_lookup (off := 29) (tgt := 30) hx hb dX11_chosen_1 (by decide) (by rw [w2]; (try rfl)) (by decide) ?_
    have w2i : iv_R 1 1 x_0 := iv_lit w2
    refine lv_iload_n hx hb dX11_chosen_30 rfl (lv_at hl 2 rfl) ?_
    exact iv_iret X hr hlocks hB ⟨rfl, (i_x_2.wk (by decide))⟩ dX11_chosen_31
  skip
  refine lv_lookup (off := 31) (tgt := 32) hx hb dX11_chosen_1 (by decide) (by simp [Op.lookupswitch.offset, List.find?, w1, Ne.symm w1, w2, Ne.symm w2]) (by decide) ?_
  refine lv_iconst (v := (-1)) hx hb dX11_chosen_32 (by decide) ?_
  exact iv_iret X hr hlocks hB ⟨rfl, (q_n1.wk (by decide))⟩ dX11_chosen_33
theorem dX5_hasBell_0 : decode cX5_hasBell 0 = .ok (.iload_n 1, 1) := by decide +kernel
theorem dX5_hasBell_1 : decode cX5_hasBell 1 = .ok (.ifCond .lt 15, 3) := by decide +kernel
theorem dX5_hasBell_4 : decode cX5_hasBell 4 = .ok (.iload_n 1, 1) := by decide +kernel
theorem dX5_hasBell_5 : decode cX5_hasBell 5 = .ok (.aload_n 0, 1) := by decide +kernel
theorem dX5_hasBell_6 : decode cX5_hasBell 6 = .ok (.getfield 61, 3) := by decide +kernel
theorem dX5_hasBell_9 : decode cX5_hasBell 9 = .ok (.if_icmp .ge 7, 3) := by decide +kernel
theorem dX5_hasBell_12 : decode cX5_hasBell 12 = .ok (.iconst 1, 1) := by decide +kernel
theorem dX5_hasBell_13 : decode cX5_hasBell 13 = .ok (.goto 4, 3) := by decide +kernel
theorem dX5_hasBell_16 : decode cX5_hasBell 16 = .ok (.iconst 0, 1) := by decide +kernel
theorem dX5_hasBell_17 : decode cX5_hasBell 17 = .ok (.ireturn, 1) := by decide +kernel
set_option maxHeartbeats 4000000 in
set_option maxRecDepth 100000 in
theorem c_X5_hasBell (l : Launch) (D : va_G) (tys : List (ClassId × FieldType)) (base : Nat) (G : iv_G) (h0 : Nat) (g_h0 : Nat → Int32) (r_h0 : Nat → Nat) (a_h0 : G h0 = some (5, g_h0, r_h0)) (x_0 : Int32) (i_x_0 : iv_R (-2147483648) 2147483647 x_0) : Met l yX5_hasBell (Cond.code yX5_hasBell cX5_hasBell 2 (some .boolean) :: iv_W0) ({ frames := 0, cells := 0, slots := 0, locals := 0 }) (iv_Pc iv_sh D classes tys base G [.ref h0, .int x_0]) (iv_Qi iv_sh D classes tys base (fun v G' => G = G' ∧ iv_R 0 1 v ∧ (¬ v = 0 → iv_R 0 9 x_0))) 0 0 (iv_A base) := by
  refine iv_head (by decide) (Nat.le_of_ble_eq_true rfl) ?_
  intro p e s m args below meth c ls X hr hlocks hname hB hl
  have X := X
  have hx := X.1.1
  have hb := X.1.2.1
  have hl : lv_has ls 2 [(0, .ref h0), (1, .int x_0)] := hl
  refine lv_iload_n hx hb dX5_hasBell_0 rfl (lv_at hl 1 rfl) ?_
  refine lv_if_lt (tgt := 16) hx hb dX5_hasBell_1 (by decide) (fun c1 => ?_) (fun c1 => ?_)
  · skip
    have i1_x_0 : iv_R (-2147483648) (-1) x_0 := (i_x_0.cutHi (n := (-1)) (iv_lt_r c1 q_0 (by decide)))
    refine lv_iconst (v := 0) hx hb dX5_hasBell_16 (by decide) ?_
    exact iv_zret X hr hlocks hB (q_0.wk (by decide)) ⟨rfl, (q_0.wk (by decide)), fun h => absurd (iv_z q_0) h⟩ dX5_hasBell_17
  · skip
    have i2_x_0 : iv_R 0 2147483647 x_0 := (i_x_0.cutLo (n := 0) (iv_le_l (iv_nlt c1) q_0))
    refine lv_iload_n hx hb dX5_hasBell_4 rfl (lv_at hl 1 rfl) ?_
    refine lv_aload_n hx hb dX5_hasBell_5 rfl (lv_at hl 0 rfl) ?_
    refine iv_geti X ft_X5 hB a_h0 sh_5 1 (by decide) rfl k_fl_X5_61 dX5_hasBell_6 (fun x4 e_x4 i_x4 => ?_)
    refine lv_icmp_ge (tgt := 16) hx hb dX5_hasBell_9 (by decide) (fun c5 => ?_) (fun c5 => ?_)
    · skip
      refine lv_iconst (v := 0) hx hb dX5_hasBell_16 (by decide) ?_
      exact iv_zret X hr hlocks hB (q_0.wk (by decide)) ⟨rfl, (q_0.wk (by decide)), fun h => absurd (iv_z q_0) h⟩ dX5_hasBell_17
    · skip
      have i5_x_0 : iv_R 0 9 x_0 := (i2_x_0.cutHi (n := 9) (iv_lt_r (iv_nle c5) i_x4 (by decide)))
      have i6_x4 : iv_R 1 10 x4 := (i_x4.cutLo (n := 1) (iv_lt_l (iv_nle c5) i2_x_0 (by decide)))
      refine lv_iconst (v := 1) hx hb dX5_hasBell_12 (by decide) ?_
      refine lv_goto (tgt := 17) hx hb dX5_hasBell_13 (by decide) ?_
      exact iv_zret X hr hlocks hB (q_1.wk (by decide)) ⟨rfl, (q_1.wk (by decide)), fun _ => i5_x_0⟩ dX5_hasBell_17
theorem dX11_eldest_0 : decode cX11_eldest 0 = .ok (.aload_n 0, 1) := by decide +kernel
theorem dX11_eldest_1 : decode cX11_eldest 1 = .ok (.getfield 12, 3) := by decide +kernel
theorem dX11_eldest_4 : decode cX11_eldest 4 = .ok (.iload_n 1, 1) := by decide +kernel
theorem dX11_eldest_5 : decode cX11_eldest 5 = .ok (.invokevirtual 119, 3) := by decide +kernel
theorem dX11_eldest_8 : decode cX11_eldest 8 = .ok (.ifCond .eq 12, 3) := by decide +kernel
theorem dX11_eldest_11 : decode cX11_eldest 11 = .ok (.iload_n 2, 1) := by decide +kernel
theorem dX11_eldest_12 : decode cX11_eldest 12 = .ok (.ifCond .eq 10, 3) := by decide +kernel
theorem dX11_eldest_15 : decode cX11_eldest 15 = .ok (.iload_n 2, 1) := by decide +kernel
theorem dX11_eldest_16 : decode cX11_eldest 16 = .ok (.iconst 1, 1) := by decide +kernel
theorem dX11_eldest_17 : decode cX11_eldest 17 = .ok (.if_icmp .eq 5, 3) := by decide +kernel
theorem dX11_eldest_20 : decode cX11_eldest 20 = .ok (.iconst (-1), 1) := by decide +kernel
theorem dX11_eldest_21 : decode cX11_eldest 21 = .ok (.ireturn, 1) := by decide +kernel
theorem dX11_eldest_22 : decode cX11_eldest 22 = .ok (.iconst 0, 1) := by decide +kernel
theorem dX11_eldest_23 : decode cX11_eldest 23 = .ok (.istore_n 3, 1) := by decide +kernel
theorem dX11_eldest_24 : decode cX11_eldest 24 = .ok (.iload_n 3, 1) := by decide +kernel
theorem dX11_eldest_25 : decode cX11_eldest 25 = .ok (.aload_n 0, 1) := by decide +kernel
theorem dX11_eldest_26 : decode cX11_eldest 26 = .ok (.getfield 12, 3) := by decide +kernel
theorem dX11_eldest_29 : decode cX11_eldest 29 = .ok (.getfield 152, 3) := by decide +kernel
theorem dX11_eldest_32 : decode cX11_eldest 32 = .ok (.getfield 166, 3) := by decide +kernel
theorem dX11_eldest_35 : decode cX11_eldest 35 = .ok (.if_icmp .ge 27, 3) := by decide +kernel
theorem dX11_eldest_38 : decode cX11_eldest 38 = .ok (.aload_n 0, 1) := by decide +kernel
theorem dX11_eldest_39 : decode cX11_eldest 39 = .ok (.getfield 12, 3) := by decide +kernel
theorem dX11_eldest_42 : decode cX11_eldest 42 = .ok (.getfield 152, 3) := by decide +kernel
theorem dX11_eldest_45 : decode cX11_eldest 45 = .ok (.iload_n 3, 1) := by decide +kernel
theorem dX11_eldest_46 : decode cX11_eldest 46 = .ok (.iload_n 2, 1) := by decide +kernel
theorem dX11_eldest_47 : decode cX11_eldest 47 = .ok (.invokevirtual 158, 3) := by decide +kernel
theorem dX11_eldest_50 : decode cX11_eldest 50 = .ok (.iload_n 1, 1) := by decide +kernel
theorem dX11_eldest_51 : decode cX11_eldest 51 = .ok (.if_icmp .ne 5, 3) := by decide +kernel
theorem dX11_eldest_54 : decode cX11_eldest 54 = .ok (.iload_n 3, 1) := by decide +kernel
theorem dX11_eldest_55 : decode cX11_eldest 55 = .ok (.ireturn, 1) := by decide +kernel
theorem dX11_eldest_56 : decode cX11_eldest 56 = .ok (.iinc 3 1, 3) := by decide +kernel
theorem dX11_eldest_59 : decode cX11_eldest 59 = .ok (.goto (-35), 3) := by decide +kernel
theorem dX11_eldest_62 : decode cX11_eldest 62 = .ok (.iconst (-1), 1) := by decide +kernel
theorem dX11_eldest_63 : decode cX11_eldest 63 = .ok (.ireturn, 1) := by decide +kernel
set_option maxHeartbeats 4000000 in
set_option maxRecDepth 100000 in
theorem c_X11_eldest (l : Launch) (D : va_G) (tys : List (ClassId × FieldType)) (base : Nat) (G : iv_G) (h0 : Nat) (g_h0 : Nat → Int32) (r_h0 : Nat → Nat) (a_h0 : G h0 = some (11, g_h0, r_h0)) (x_0 : Int32) (i_x_0 : iv_R (-2147483648) 2147483647 x_0) (x_1 : Int32) (i_x_1 : iv_R (-2147483648) 2147483647 x_1) : Met l yX11_eldest (Cond.code yX11_eldest cX11_eldest 4 (some .int) :: iv_W0) ({ frames := 2, cells := 0, slots := 0, locals := 44 }) (iv_Pc iv_sh D classes tys base G [.ref h0, .int x_0, .int x_1]) (iv_Qi iv_sh D classes tys base (fun v G' => G = G' ∧ iv_R (-1) 19 v)) 0 0 (iv_A base) := by
  refine iv_head (by decide) (Nat.le_of_ble_eq_true rfl) ?_
  intro p e s m args below meth c ls X hr hlocks hname hB hl
  have X := X
  have hx := X.1.1
  have hb := X.1.2.1
  have hl : lv_has ls 4 [(0, .ref h0), (1, .int x_0), (2, .int x_1)] := hl
  refine lv_aload_n hx hb dX11_eldest_0 rfl (lv_at hl 0 rfl) ?_
  refine iv_getr X ft_X11 hB a_h0 sh_11 0 (by decide) rfl k_fl_X11_12 dX11_eldest_1 (fun b1 g_b1 r_b1 e_b1 a_b1 => ?_)
  refine lv_iload_n hx hb dX11_eldest_4 rfl (lv_at hl 1 rfl) ?_
  refine iv_cVi X k_good k_mf_X5_hasBell k_im_X5_hasBell k_sel_X5_hasBell k_ml_X11_119 ft_X5 hB a_b1 sh_5 (As := [.int x_0]) (c_X5_hasBell l D tys base G b1 g_b1 r_b1 a_b1 x_0 i_x_0) ⟨rfl, rfl⟩ ⟨Nat.le_of_ble_eq_true rfl, Nat.le_of_ble_eq_true rfl⟩ ⟨Nat.le_of_ble_eq_true rfl, Nat.le_of_ble_eq_true rfl⟩ rfl rfl hl.1 (Nat.le_of_ble_eq_true rfl) dX11_eldest_5 (fun x2 G9 H locs hq hB => ?_)
  obtain ⟨rfl, i_x2, hp3⟩ := hq
  refine lv_if_eq (tgt := 20) hx hb dX11_eldest_8 (by decide) (fun c4 => ?_) (fun c4 => ?_)
  · skip
    have i4_x2 : iv_R 0 0 x2 := (i_x2.cutHi (n := 0) (iv_eq_r c4 q_0).2)
    refine lv_iconst (v := (-1)) hx hb dX11_eldest_20 (by decide) ?_
    exact iv_iret X hr hlocks hB ⟨rfl, (q_n1.wk (by decide))⟩ dX11_eldest_21
  · skip
    have i5_x2 : iv_R 1 1 x2 := iv_ne_lo c4 i_x2 q_0 (by decide)
    have i6_x_0 : iv_R 0 9 x_0 := ((i_x_0.cutLo (n := 0) (hp3 c4).1).cutHi (n := 9) (hp3 c4).2)
    refine lv_iload_n hx hb dX11_eldest_11 rfl (lv_at hl 2 rfl) ?_
    refine lv_if_eq (tgt := 22) hx hb dX11_eldest_12 (by decide) (fun c8 => ?_) (fun c8 => ?_)
    · skip
      have i8_x_1 : iv_R 0 0 x_1 := ((i_x_1.cutLo (n := 0) (iv_eq_r c8 q_0).1).cutHi (n := 0) (iv_eq_r c8 q_0).2)
      refine lv_iconst (v := 0) hx hb dX11_eldest_22 (by decide) ?_
      refine lv_istore_n (lv' := [(3, .int 0), (0, .ref h0), (1, .int x_0), (2, .int x_1)]) hx hb dX11_eldest_23 rfl hl (by decide) rfl (fun ls hl => ?_)
      have L_24 : ∀ (n_24 : Nat) (H : Heap) (locs : List Loc) (hB : iv_B iv_sh D classes tys base G s.heap H locs) (x10 : Int32) (i_x10 : iv_R 0 20 x10) (hn : (21 - x10.toInt).toNat < n_24) (ls : Array Slot) (hl : lv_has ls 4 [(3, .int x10), (0, .ref h0), (1, .int x_0), (2, .int x_1)]), W p l e ({ frames := 2, cells := 0, slots := 0, locals := 44 } : Room) s m args below meth c H locs 0 0 (MQ below (iv_Qi iv_sh D classes tys base (fun v G' => G = G' ∧ iv_R (-1) 19 v)) args s 0 0 (iv_A base)) (F0 m 24 ls []) := by
        intro n_24
        induction n_24 with
        | zero => intro H locs hB x10 i_x10 hn ls hl; exact absurd hn (Nat.not_lt_zero _)
        | succ n_24 ih_24 =>
          intro H locs hB x10 i_x10 hn ls hl
          refine lv_iload_n hx hb dX11_eldest_24 rfl (lv_at hl 0 rfl) ?_
          refine lv_aload_n hx hb dX11_eldest_25 rfl (lv_at hl 1 rfl) ?_
          refine iv_getr0 X ft_X11 hB a_h0 sh_11 0 (by decide) rfl k_fl_X11_12 dX11_eldest_26 e_b1 ?_
          refine iv_getr X ft_X5 hB a_b1 sh_5 8 (by decide) rfl k_fl_X11_152 dX11_eldest_29 (fun b11 g_b11 r_b11 e_b11 a_b11 => ?_)
          refine iv_geti X ft_X8 hB a_b11 sh_8 2 (by decide) rfl k_fl_X11_166 dX11_eldest_32 (fun x12 e_x12 i_x12 => ?_)
          refine lv_icmp_ge (tgt := 62) hx hb dX11_eldest_35 (by decide) (fun c13 => ?_) (fun c13 => ?_)
          · skip
            refine lv_iconst (v := (-1)) hx hb dX11_eldest_62 (by decide) ?_
            exact iv_iret X hr hlocks hB ⟨rfl, (q_n1.wk (by decide))⟩ dX11_eldest_63
          · skip
            have i13_x10 : iv_R 0 19 x10 := (i_x10.cutHi (n := 19) (iv_lt_r (iv_nle c13) i_x12 (by decide)))
            have i14_x12 : iv_R 1 20 x12 := (i_x12.cutLo (n := 1) (iv_lt_l (iv_nle c13) i_x10 (by decide)))
            refine lv_aload_n hx hb dX11_eldest_38 rfl (lv_at hl 1 rfl) ?_
            refine iv_getr0 X ft_X11 hB a_h0 sh_11 0 (by decide) rfl k_fl_X11_12 dX11_eldest_39 e_b1 ?_
            refine iv_getr0 X ft_X5 hB a_b1 sh_5 8 (by decide) rfl k_fl_X11_152 dX11_eldest_42 e_b11 ?_
            refine lv_iload_n hx hb dX11_eldest_45 rfl (lv_at hl 0 rfl) ?_
            refine lv_iload_n hx hb dX11_eldest_46 rfl (lv_at hl 3 rfl) ?_
            refine iv_cVi X k_good k_mf_X8_at k_im_X8_at k_sel_X8_at k_ml_X11_158 ft_X8 hB a_b11 sh_8 (As := [.int x10, .int x_1]) (c_X8_at_8 l D tys base G b11 g_b11 r_b11 a_b11 x10 i13_x10 x_1 (i8_x_1.wk (by decide))) ⟨rfl, rfl⟩ ⟨Nat.le_of_ble_eq_true rfl, Nat.le_of_ble_eq_true rfl⟩ ⟨Nat.le_of_ble_eq_true rfl, Nat.le_of_ble_eq_true rfl⟩ rfl rfl hl.1 (Nat.le_of_ble_eq_true rfl) dX11_eldest_47 (fun x16 G9 H locs hq hB => ?_)
            obtain ⟨rfl, i_x16⟩ := hq
            refine lv_iload_n hx hb dX11_eldest_50 rfl (lv_at hl 2 rfl) ?_
            refine lv_icmp_ne (tgt := 56) hx hb dX11_eldest_51 (by decide) (fun c17 => ?_) (fun c17 => ?_)
            · skip
              refine iv_iinc hx hb i13_x10 (lo := 1) (hi := 20) (by decide) dX11_eldest_56 hl (k := 0) rfl (by decide) (fun x18 ls e_x18 i_x18 hl => ?_)
              have hl : lv_has ls 4 [(3, .int x18), (0, .ref h0), (1, .int x_0), (2, .int x_1)] := hl
              refine lv_goto (tgt := 24) hx hb dX11_eldest_59 (by decide) ?_
              exact ih_24 _ _ hB x18 (i_x18.wk (by decide)) (iv_mup (c := 1) i_x10 (by decide) (by decide) (by omega) hn) _ (lv_sub hl [0, 1, 2, 3] rfl)
            · skip
              have i18_x16 : iv_R 0 9 x16 := ((i_x16.cutLo (n := 0) (iv_eq_r c17 i6_x_0).1).cutHi (n := 9) (iv_eq_r c17 i6_x_0).2)
              refine lv_iload_n hx hb dX11_eldest_54 rfl (lv_at hl 0 rfl) ?_
              exact iv_iret X hr hlocks hB ⟨rfl, (i13_x10.wk (by decide))⟩ dX11_eldest_55
      exact L_24 _ _ _ hB 0 (q_0.wk (by decide)) (Nat.lt_succ_self _) _ (lv_sub hl [0, 1, 2, 3] rfl)
    · skip
      refine lv_iload_n hx hb dX11_eldest_15 rfl (lv_at hl 2 rfl) ?_
      refine lv_iconst (v := 1) hx hb dX11_eldest_16 (by decide) ?_
      refine lv_icmp_eq (tgt := 22) hx hb dX11_eldest_17 (by decide) (fun c20 => ?_) (fun c20 => ?_)
      · skip
        have i20_x_1 : iv_R 1 1 x_1 := ((i_x_1.cutLo (n := 1) (iv_eq_r c20 q_1).1).cutHi (n := 1) (iv_eq_r c20 q_1).2)
        refine lv_iconst (v := 0) hx hb dX11_eldest_22 (by decide) ?_
        refine lv_istore_n (lv' := [(3, .int 0), (0, .ref h0), (1, .int x_0), (2, .int x_1)]) hx hb dX11_eldest_23 rfl hl (by decide) rfl (fun ls hl => ?_)
        have L_24 : ∀ (n_24 : Nat) (H : Heap) (locs : List Loc) (hB : iv_B iv_sh D classes tys base G s.heap H locs) (x22 : Int32) (i_x22 : iv_R 0 20 x22) (hn : (21 - x22.toInt).toNat < n_24) (ls : Array Slot) (hl : lv_has ls 4 [(3, .int x22), (0, .ref h0), (1, .int x_0), (2, .int x_1)]), W p l e ({ frames := 2, cells := 0, slots := 0, locals := 44 } : Room) s m args below meth c H locs 0 0 (MQ below (iv_Qi iv_sh D classes tys base (fun v G' => G = G' ∧ iv_R (-1) 19 v)) args s 0 0 (iv_A base)) (F0 m 24 ls []) := by
          intro n_24
          induction n_24 with
          | zero => intro H locs hB x22 i_x22 hn ls hl; exact absurd hn (Nat.not_lt_zero _)
          | succ n_24 ih_24 =>
            intro H locs hB x22 i_x22 hn ls hl
            refine lv_iload_n hx hb dX11_eldest_24 rfl (lv_at hl 0 rfl) ?_
            refine lv_aload_n hx hb dX11_eldest_25 rfl (lv_at hl 1 rfl) ?_
            refine iv_getr0 X ft_X11 hB a_h0 sh_11 0 (by decide) rfl k_fl_X11_12 dX11_eldest_26 e_b1 ?_
            refine iv_getr X ft_X5 hB a_b1 sh_5 8 (by decide) rfl k_fl_X11_152 dX11_eldest_29 (fun b23 g_b23 r_b23 e_b23 a_b23 => ?_)
            refine iv_geti X ft_X8 hB a_b23 sh_8 2 (by decide) rfl k_fl_X11_166 dX11_eldest_32 (fun x24 e_x24 i_x24 => ?_)
            refine lv_icmp_ge (tgt := 62) hx hb dX11_eldest_35 (by decide) (fun c25 => ?_) (fun c25 => ?_)
            · skip
              refine lv_iconst (v := (-1)) hx hb dX11_eldest_62 (by decide) ?_
              exact iv_iret X hr hlocks hB ⟨rfl, (q_n1.wk (by decide))⟩ dX11_eldest_63
            · skip
              have i25_x22 : iv_R 0 19 x22 := (i_x22.cutHi (n := 19) (iv_lt_r (iv_nle c25) i_x24 (by decide)))
              have i26_x24 : iv_R 1 20 x24 := (i_x24.cutLo (n := 1) (iv_lt_l (iv_nle c25) i_x22 (by decide)))
              refine lv_aload_n hx hb dX11_eldest_38 rfl (lv_at hl 1 rfl) ?_
              refine iv_getr0 X ft_X11 hB a_h0 sh_11 0 (by decide) rfl k_fl_X11_12 dX11_eldest_39 e_b1 ?_
              refine iv_getr0 X ft_X5 hB a_b1 sh_5 8 (by decide) rfl k_fl_X11_152 dX11_eldest_42 e_b23 ?_
              refine lv_iload_n hx hb dX11_eldest_45 rfl (lv_at hl 0 rfl) ?_
              refine lv_iload_n hx hb dX11_eldest_46 rfl (lv_at hl 3 rfl) ?_
              refine iv_cVi X k_good k_mf_X8_at k_im_X8_at k_sel_X8_at k_ml_X11_158 ft_X8 hB a_b23 sh_8 (As := [.int x22, .int x_1]) (c_X8_at_8 l D tys base G b23 g_b23 r_b23 a_b23 x22 i25_x22 x_1 (i20_x_1.wk (by decide))) ⟨rfl, rfl⟩ ⟨Nat.le_of_ble_eq_true rfl, Nat.le_of_ble_eq_true rfl⟩ ⟨Nat.le_of_ble_eq_true rfl, Nat.le_of_ble_eq_true rfl⟩ rfl rfl hl.1 (Nat.le_of_ble_eq_true rfl) dX11_eldest_47 (fun x28 G9 H locs hq hB => ?_)
              obtain ⟨rfl, i_x28⟩ := hq
              refine lv_iload_n hx hb dX11_eldest_50 rfl (lv_at hl 2 rfl) ?_
              refine lv_icmp_ne (tgt := 56) hx hb dX11_eldest_51 (by decide) (fun c29 => ?_) (fun c29 => ?_)
              · skip
                refine iv_iinc hx hb i25_x22 (lo := 1) (hi := 20) (by decide) dX11_eldest_56 hl (k := 0) rfl (by decide) (fun x30 ls e_x30 i_x30 hl => ?_)
                have hl : lv_has ls 4 [(3, .int x30), (0, .ref h0), (1, .int x_0), (2, .int x_1)] := hl
                refine lv_goto (tgt := 24) hx hb dX11_eldest_59 (by decide) ?_
                exact ih_24 _ _ hB x30 (i_x30.wk (by decide)) (iv_mup (c := 1) i_x22 (by decide) (by decide) (by omega) hn) _ (lv_sub hl [0, 1, 2, 3] rfl)
              · skip
                have i30_x28 : iv_R 0 9 x28 := ((i_x28.cutLo (n := 0) (iv_eq_r c29 i6_x_0).1).cutHi (n := 9) (iv_eq_r c29 i6_x_0).2)
                refine lv_iload_n hx hb dX11_eldest_54 rfl (lv_at hl 0 rfl) ?_
                exact iv_iret X hr hlocks hB ⟨rfl, (i25_x22.wk (by decide))⟩ dX11_eldest_55
        exact L_24 _ _ _ hB 0 (q_0.wk (by decide)) (Nat.lt_succ_self _) _ (lv_sub hl [0, 1, 2, 3] rfl)
      · skip
        refine lv_iconst (v := (-1)) hx hb dX11_eldest_20 (by decide) ?_
        exact iv_iret X hr hlocks hB ⟨rfl, (q_n1.wk (by decide))⟩ dX11_eldest_21
theorem dX11_isTower_0 : decode cX11_isTower 0 = .ok (.iload_n 0, 1) := by decide +kernel
theorem dX11_isTower_1 : decode cX11_isTower 1 = .ok (.iconst 0, 1) := by decide +kernel
theorem dX11_isTower_2 : decode cX11_isTower 2 = .ok (.iconst 3, 1) := by decide +kernel
theorem dX11_isTower_3 : decode cX11_isTower 3 = .ok (.invokestatic 83, 3) := by decide +kernel
theorem dX11_isTower_6 : decode cX11_isTower 6 = .ok (.ireturn, 1) := by decide +kernel
set_option maxHeartbeats 4000000 in
set_option maxRecDepth 100000 in
theorem c_X11_isTower (l : Launch) (D : va_G) (tys : List (ClassId × FieldType)) (base : Nat) (G : iv_G) (x_0 : Int32) (i_x_0 : iv_R (-2147483648) 2147483647 x_0) : Met l yX11_isTower (Cond.code yX11_isTower cX11_isTower 1 (some .boolean) :: iv_W0) ({ frames := 1, cells := 0, slots := 0, locals := 22 }) (iv_Pc iv_sh D classes tys base G [.int x_0]) (iv_Qi iv_sh D classes tys base (fun v G' => G = G' ∧ iv_R 0 1 v ∧ (¬ v = 0 → iv_R 0 3 x_0))) 0 0 (iv_A base) := by
  refine iv_head (by decide) (Nat.le_of_ble_eq_true rfl) ?_
  intro p e s m args below meth c ls X hr hlocks hname hB hl
  have X := X
  have hx := X.1.1
  have hb := X.1.2.1
  have hl : lv_has ls 1 [(0, .int x_0)] := hl
  refine lv_iload_n hx hb dX11_isTower_0 rfl (lv_at hl 0 rfl) ?_
  refine lv_iconst (v := 0) hx hb dX11_isTower_1 (by decide) ?_
  refine lv_iconst (v := 3) hx hb dX11_isTower_2 (by decide) ?_
  refine iv_cSi X k_good k_mf_X11_isWithin k_st_X11_isWithin k_ml_X11_83 hB (As := [.int x_0, .int 0, .int 3]) (c_X11_isWithin l D tys base G x_0 i_x_0 0 (q_0.wk (by decide)) 3 (q_3.wk (by decide))) ⟨rfl, rfl⟩ ⟨Nat.le_of_ble_eq_true rfl, Nat.le_of_ble_eq_true rfl⟩ ⟨Nat.le_of_ble_eq_true rfl, Nat.le_of_ble_eq_true rfl⟩ rfl rfl hl.1 (Nat.le_of_ble_eq_true rfl) dX11_isTower_3 (fun x1 G9 H locs hq hB => ?_)
  obtain ⟨rfl, i_x1, hp2⟩ := hq
  have k3 : ¬ x1 = 0 → iv_R 0 3 x_0 := fun h => ⟨iv_max i_x_0.1 (Int.le_trans q_0.1 (hp2.1 h).1) (by decide), iv_min i_x_0.2 (Int.le_trans (hp2.1 h).2 q_3.2) (by decide)⟩
  exact iv_zret X hr hlocks hB i_x1 ⟨rfl, i_x1, fun h => (k3 h).wk (by decide)⟩ dX11_isTower_6
theorem dX6_forget_0 : decode cX6_forget 0 = .ok (.aload_n 0, 1) := by decide +kernel
theorem dX6_forget_1 : decode cX6_forget 1 = .ok (.iconst 0, 1) := by decide +kernel
theorem dX6_forget_2 : decode cX6_forget 2 = .ok (.putfield 16, 3) := by decide +kernel
theorem dX6_forget_5 : decode cX6_forget 5 = .ok (.return_, 1) := by decide +kernel
set_option maxHeartbeats 4000000 in
set_option maxRecDepth 100000 in
theorem c_X6_forget (l : Launch) (D : va_G) (tys : List (ClassId × FieldType)) (base : Nat) (G : iv_G) (h0 : Nat) (g_h0 : Nat → Int32) (r_h0 : Nat → Nat) (a_h0 : G h0 = some (6, g_h0, r_h0)) : Met l yX6_forget (Cond.code yX6_forget cX6_forget 1 none :: iv_W0) ({ frames := 0, cells := 0, slots := 0, locals := 0 }) (iv_Pc iv_sh D classes tys base G [.ref h0]) (iv_Qv iv_sh D classes tys base (fun G' => iv_Md [6] G G')) 0 0 (iv_A base) := by
  refine iv_head (by decide) (Nat.le_of_ble_eq_true rfl) ?_
  intro p e s m args below meth c ls X hr hlocks hname hB hl
  have X := X
  have hx := X.1.1
  have hb := X.1.2.1
  have hM : iv_Md [6] G G := iv_Md.rf
  have hl : lv_has ls 1 [(0, .ref h0)] := hl
  refine lv_aload_n hx hb dX6_forget_0 rfl (lv_at hl 0 rfl) ?_
  refine lv_iconst (v := 0) hx hb dX6_forget_1 (by decide) ?_
  refine iv_puti X ft_X6 hB a_h0 sh_6 2 (by decide) rfl rfl k_fl_X6_16 rfl (q_0.wk (by decide)) rfl rfl dX6_forget_2 (fun H locs hB => ?_)
  have hm := iv_Md.put (x := 0) a_h0 (j := 2) (by decide) (by decide)
  have h9 := iv_up_eq (G := G) (a := h0) (k := (6, upd g_h0 2 0, r_h0))
  generalize iv_up G h0 _ = G1 at hB hm h9
  have hM := hM.stp hm (by decide)
  generalize hgn_g2 : upd g_h0 _ _ = g2 at h9
  have a_h0 := h9
  have e9_g2 : 0 = g2 2 := by rw [← hgn_g2]; simp [upd]
  exact iv_vret X hr hlocks hB hM dX6_forget_5
theorem dX11_far_0 : decode cX11_far 0 = .ok (.iload_n 1, 1) := by decide +kernel
theorem dX11_far_1 : decode cX11_far 1 = .ok (.invokestatic 79, 3) := by decide +kernel
theorem dX11_far_4 : decode cX11_far 4 = .ok (.ifCond .eq 25, 3) := by decide +kernel
theorem dX11_far_7 : decode cX11_far 7 = .ok (.iload_n 2, 1) := by decide +kernel
theorem dX11_far_8 : decode cX11_far 8 = .ok (.invokestatic 79, 3) := by decide +kernel
theorem dX11_far_11 : decode cX11_far 11 = .ok (.ifCond .eq 18, 3) := by decide +kernel
theorem dX11_far_14 : decode cX11_far 14 = .ok (.iload_n 1, 1) := by decide +kernel
theorem dX11_far_15 : decode cX11_far 15 = .ok (.iload_n 2, 1) := by decide +kernel
theorem dX11_far_16 : decode cX11_far 16 = .ok (.if_icmp .eq 13, 3) := by decide +kernel
theorem dX11_far_19 : decode cX11_far 19 = .ok (.iload_n 3, 1) := by decide +kernel
theorem dX11_far_20 : decode cX11_far 20 = .ok (.iconst 0, 1) := by decide +kernel
theorem dX11_far_21 : decode cX11_far 21 = .ok (.bipush 99, 2) := by decide +kernel
theorem dX11_far_23 : decode cX11_far 23 = .ok (.invokestatic 83, 3) := by decide +kernel
theorem dX11_far_26 : decode cX11_far 26 = .ok (.ifCond .ne 5, 3) := by decide +kernel
theorem dX11_far_29 : decode cX11_far 29 = .ok (.iconst 0, 1) := by decide +kernel
theorem dX11_far_30 : decode cX11_far 30 = .ok (.ireturn, 1) := by decide +kernel
theorem dX11_far_31 : decode cX11_far 31 = .ok (.aload_n 0, 1) := by decide +kernel
theorem dX11_far_32 : decode cX11_far 32 = .ok (.getfield 12, 3) := by decide +kernel
theorem dX11_far_35 : decode cX11_far 35 = .ok (.getfield 87, 3) := by decide +kernel
theorem dX11_far_38 : decode cX11_far 38 = .ok (.iload_n 1, 1) := by decide +kernel
theorem dX11_far_39 : decode cX11_far 39 = .ok (.iconst 4, 1) := by decide +kernel
theorem dX11_far_40 : decode cX11_far 40 = .ok (.imul, 1) := by decide +kernel
theorem dX11_far_41 : decode cX11_far 41 = .ok (.iload_n 2, 1) := by decide +kernel
theorem dX11_far_42 : decode cX11_far 42 = .ok (.iadd, 1) := by decide +kernel
theorem dX11_far_43 : decode cX11_far 43 = .ok (.iload_n 3, 1) := by decide +kernel
theorem dX11_far_44 : decode cX11_far 44 = .ok (.iastore, 1) := by decide +kernel
theorem dX11_far_45 : decode cX11_far 45 = .ok (.aload_n 0, 1) := by decide +kernel
theorem dX11_far_46 : decode cX11_far 46 = .ok (.getfield 12, 3) := by decide +kernel
theorem dX11_far_49 : decode cX11_far 49 = .ok (.getfield 87, 3) := by decide +kernel
theorem dX11_far_52 : decode cX11_far 52 = .ok (.iload_n 2, 1) := by decide +kernel
theorem dX11_far_53 : decode cX11_far 53 = .ok (.iconst 4, 1) := by decide +kernel
theorem dX11_far_54 : decode cX11_far 54 = .ok (.imul, 1) := by decide +kernel
theorem dX11_far_55 : decode cX11_far 55 = .ok (.iload_n 1, 1) := by decide +kernel
theorem dX11_far_56 : decode cX11_far 56 = .ok (.iadd, 1) := by decide +kernel
theorem dX11_far_57 : decode cX11_far 57 = .ok (.iload_n 3, 1) := by decide +kernel
theorem dX11_far_58 : decode cX11_far 58 = .ok (.iastore, 1) := by decide +kernel
theorem dX11_far_59 : decode cX11_far 59 = .ok (.aload_n 0, 1) := by decide +kernel
theorem dX11_far_60 : decode cX11_far 60 = .ok (.getfield 22, 3) := by decide +kernel
theorem dX11_far_63 : decode cX11_far 63 = .ok (.invokevirtual 76, 3) := by decide +kernel
theorem dX11_far_66 : decode cX11_far 66 = .ok (.iconst 1, 1) := by decide +kernel
theorem dX11_far_67 : decode cX11_far 67 = .ok (.ireturn, 1) := by decide +kernel
set_option maxHeartbeats 4000000 in
set_option maxRecDepth 100000 in
theorem c_X11_far (l : Launch) (D : va_G) (tys : List (ClassId × FieldType)) (base : Nat) (G : iv_G) (h0 : Nat) (g_h0 : Nat → Int32) (r_h0 : Nat → Nat) (a_h0 : G h0 = some (11, g_h0, r_h0)) (x_0 : Int32) (i_x_0 : iv_R (-2147483648) 2147483647 x_0) (x_1 : Int32) (i_x_1 : iv_R (-2147483648) 2147483647 x_1) (x_2 : Int32) (i_x_2 : iv_R (-2147483648) 2147483647 x_2) : Met l yX11_far (Cond.code yX11_far cX11_far 4 (some .boolean) :: iv_W0) ({ frames := 2, cells := 0, slots := 0, locals := 42 }) (iv_Pc iv_sh D classes tys base G [.ref h0, .int x_0, .int x_1, .int x_2]) (iv_Qi iv_sh D classes tys base (fun v G' => iv_Md [6, 20] G G' ∧ iv_R 0 1 v ∧ (¬ v = 0 → iv_R 0 3 x_0) ∧ (¬ v = 0 → iv_R 0 3 x_1) ∧ (¬ v = 0 → iv_R 0 99 x_2))) 0 0 (iv_A base) := by
  refine iv_head (by decide) (Nat.le_of_ble_eq_true rfl) ?_
  intro p e s m args below meth c ls X hr hlocks hname hB hl
  have X := X
  have hx := X.1.1
  have hb := X.1.2.1
  have hM : iv_Md [6, 20] G G := iv_Md.rf
  have hl : lv_has ls 4 [(0, .ref h0), (1, .int x_0), (2, .int x_1), (3, .int x_2)] := hl
  refine lv_iload_n hx hb dX11_far_0 rfl (lv_at hl 1 rfl) ?_
  refine iv_cSi X k_good k_mf_X11_isTower k_st_X11_isTower k_ml_X11_79 hB (As := [.int x_0]) (c_X11_isTower l D tys base G x_0 i_x_0) ⟨rfl, rfl⟩ ⟨Nat.le_of_ble_eq_true rfl, Nat.le_of_ble_eq_true rfl⟩ ⟨Nat.le_of_ble_eq_true rfl, Nat.le_of_ble_eq_true rfl⟩ rfl rfl hl.1 (Nat.le_of_ble_eq_true rfl) dX11_far_1 (fun x1 G9 H locs hq hB => ?_)
  obtain ⟨rfl, i_x1, hp2⟩ := hq
  refine lv_if_eq (tgt := 29) hx hb dX11_far_4 (by decide) (fun c3 => ?_) (fun c3 => ?_)
  · skip
    have i3_x1 : iv_R 0 0 x1 := (i_x1.cutHi (n := 0) (iv_eq_r c3 q_0).2)
    refine lv_iconst (v := 0) hx hb dX11_far_29 (by decide) ?_
    exact iv_zret X hr hlocks hB (q_0.wk (by decide)) ⟨hM, (q_0.wk (by decide)), fun h => absurd (iv_z q_0) h, fun h => absurd (iv_z q_0) h, fun h => absurd (iv_z q_0) h⟩ dX11_far_30
  · skip
    have i4_x1 : iv_R 1 1 x1 := iv_ne_lo c3 i_x1 q_0 (by decide)
    have i5_x_0 : iv_R 0 3 x_0 := ((i_x_0.cutLo (n := 0) (hp2 c3).1).cutHi (n := 3) (hp2 c3).2)
    refine lv_iload_n hx hb dX11_far_7 rfl (lv_at hl 2 rfl) ?_
    refine iv_cSi X k_good k_mf_X11_isTower k_st_X11_isTower k_ml_X11_79 hB (As := [.int x_1]) (c_X11_isTower l D tys base G x_1 i_x_1) ⟨rfl, rfl⟩ ⟨Nat.le_of_ble_eq_true rfl, Nat.le_of_ble_eq_true rfl⟩ ⟨Nat.le_of_ble_eq_true rfl, Nat.le_of_ble_eq_true rfl⟩ rfl rfl hl.1 (Nat.le_of_ble_eq_true rfl) dX11_far_8 (fun x7 G9 H locs hq hB => ?_)
    obtain ⟨rfl, i_x7, hp8⟩ := hq
    refine lv_if_eq (tgt := 29) hx hb dX11_far_11 (by decide) (fun c9 => ?_) (fun c9 => ?_)
    · skip
      have i9_x7 : iv_R 0 0 x7 := (i_x7.cutHi (n := 0) (iv_eq_r c9 q_0).2)
      refine lv_iconst (v := 0) hx hb dX11_far_29 (by decide) ?_
      exact iv_zret X hr hlocks hB (q_0.wk (by decide)) ⟨hM, (q_0.wk (by decide)), fun _ => i5_x_0, fun h => absurd (iv_z q_0) h, fun h => absurd (iv_z q_0) h⟩ dX11_far_30
    · skip
      have i10_x7 : iv_R 1 1 x7 := iv_ne_lo c9 i_x7 q_0 (by decide)
      have i11_x_1 : iv_R 0 3 x_1 := ((i_x_1.cutLo (n := 0) (hp8 c9).1).cutHi (n := 3) (hp8 c9).2)
      refine lv_iload_n hx hb dX11_far_14 rfl (lv_at hl 1 rfl) ?_
      refine lv_iload_n hx hb dX11_far_15 rfl (lv_at hl 2 rfl) ?_
      refine lv_icmp_eq (tgt := 29) hx hb dX11_far_16 (by decide) (fun c13 => ?_) (fun c13 => ?_)
      · skip
        refine lv_iconst (v := 0) hx hb dX11_far_29 (by decide) ?_
        exact iv_zret X hr hlocks hB (q_0.wk (by decide)) ⟨hM, (q_0.wk (by decide)), fun _ => i5_x_0, fun _ => i11_x_1, fun h => absurd (iv_z q_0) h⟩ dX11_far_30
      · skip
        refine lv_iload_n hx hb dX11_far_19 rfl (lv_at hl 3 rfl) ?_
        refine lv_iconst (v := 0) hx hb dX11_far_20 (by decide) ?_
        refine lv_bipush (v := 99) hx hb dX11_far_21 (by decide) ?_
        refine iv_cSi X k_good k_mf_X11_isWithin k_st_X11_isWithin k_ml_X11_83 hB (As := [.int x_2, .int 0, .int 99]) (c_X11_isWithin l D tys base G x_2 i_x_2 0 (q_0.wk (by decide)) 99 (q_99.wk (by decide))) ⟨rfl, rfl⟩ ⟨Nat.le_of_ble_eq_true rfl, Nat.le_of_ble_eq_true rfl⟩ ⟨Nat.le_of_ble_eq_true rfl, Nat.le_of_ble_eq_true rfl⟩ rfl rfl hl.1 (Nat.le_of_ble_eq_true rfl) dX11_far_23 (fun x14 G9 H locs hq hB => ?_)
        obtain ⟨rfl, i_x14, hp15⟩ := hq
        have k16 : ¬ x14 = 0 → iv_R 0 99 x_2 := fun h => ⟨iv_max i_x_2.1 (Int.le_trans q_0.1 (hp15.1 h).1) (by decide), iv_min i_x_2.2 (Int.le_trans (hp15.1 h).2 q_99.2) (by decide)⟩
        refine lv_if_ne (tgt := 31) hx hb dX11_far_26 (by decide) (fun c17 => ?_) (fun c17 => ?_)
        · skip
          have i17_x14 : iv_R 1 1 x14 := iv_ne_lo c17 i_x14 q_0 (by decide)
          have i18_x_2 : iv_R 0 99 x_2 := ((i_x_2.cutLo (n := 0) (k16 c17).1).cutHi (n := 99) (k16 c17).2)
          refine lv_aload_n hx hb dX11_far_31 rfl (lv_at hl 0 rfl) ?_
          refine iv_getr X ft_X11 hB a_h0 sh_11 0 (by decide) rfl k_fl_X11_12 dX11_far_32 (fun b20 g_b20 r_b20 e_b20 a_b20 => ?_)
          refine iv_getr X ft_X5 hB a_b20 sh_5 2 (by decide) rfl k_fl_X11_87 dX11_far_35 (fun b21 g_b21 r_b21 e_b21 a_b21 => ?_)
          refine lv_iload_n hx hb dX11_far_38 rfl (lv_at hl 1 rfl) ?_
          refine lv_iconst (v := 4) hx hb dX11_far_39 (by decide) ?_
          refine iv_imul hx hb i5_x_0 q_4 (lo := 0) (hi := 12) (by decide) dX11_far_40 (fun x22 e_x22 i_x22 => ?_)
          refine lv_iload_n hx hb dX11_far_41 rfl (lv_at hl 2 rfl) ?_
          refine iv_iadd hx hb i_x22 i11_x_1 (lo := 0) (hi := 15) (by decide) dX11_far_42 (fun x23 e_x23 i_x23 => ?_)
          refine lv_iload_n hx hb dX11_far_43 rfl (lv_at hl 3 rfl) ?_
          refine iv_ast X hB a_b21 sh_20 (iv_in i_x23 (by decide)) (i18_x_2.wk (by decide)) dX11_far_44 (fun H locs hB => ?_)
          have hm := iv_Md.ast (j := x23.toNatClampNeg) (x := x_2) a_b21 rfl (by decide)
          have h9 := iv_up_eq (G := G) (a := b21) (k := (20, upd g_b21 x23.toNatClampNeg x_2, r_b21))
          generalize iv_up G b21 _ = G24 at hB hm h9
          have hM := hM.stp hm (by decide)
          have a_h0 := hm.at a_h0 (by decide)
          refine lv_aload_n hx hb dX11_far_45 rfl (lv_at hl 0 rfl) ?_
          refine iv_getr X ft_X11 hB a_h0 sh_11 0 (by decide) rfl k_fl_X11_12 dX11_far_46 (fun b26 g_b26 r_b26 e_b26 a_b26 => ?_)
          refine iv_getr X ft_X5 hB a_b26 sh_5 2 (by decide) rfl k_fl_X11_87 dX11_far_49 (fun b27 g_b27 r_b27 e_b27 a_b27 => ?_)
          refine lv_iload_n hx hb dX11_far_52 rfl (lv_at hl 2 rfl) ?_
          refine lv_iconst (v := 4) hx hb dX11_far_53 (by decide) ?_
          refine iv_imul hx hb i11_x_1 q_4 (lo := 0) (hi := 12) (by decide) dX11_far_54 (fun x28 e_x28 i_x28 => ?_)
          refine lv_iload_n hx hb dX11_far_55 rfl (lv_at hl 1 rfl) ?_
          refine iv_iadd hx hb i_x28 i5_x_0 (lo := 0) (hi := 15) (by decide) dX11_far_56 (fun x29 e_x29 i_x29 => ?_)
          refine lv_iload_n hx hb dX11_far_57 rfl (lv_at hl 3 rfl) ?_
          refine iv_ast X hB a_b27 sh_20 (iv_in i_x29 (by decide)) (i18_x_2.wk (by decide)) dX11_far_58 (fun H locs hB => ?_)
          have hm := iv_Md.ast (j := x29.toNatClampNeg) (x := x_2) a_b27 rfl (by decide)
          have h9 := iv_up_eq (G := G24) (a := b27) (k := (20, upd g_b27 x29.toNatClampNeg x_2, r_b27))
          generalize iv_up G24 b27 _ = G30 at hB hm h9
          have hM := hM.stp hm (by decide)
          have a_h0 := hm.at a_h0 (by decide)
          refine lv_aload_n hx hb dX11_far_59 rfl (lv_at hl 0 rfl) ?_
          refine iv_getr X ft_X11 hB a_h0 sh_11 3 (by decide) rfl k_fl_X11_22 dX11_far_60 (fun b32 g_b32 r_b32 e_b32 a_b32 => ?_)
          refine iv_cVv X k_good k_mf_X6_forget k_im_X6_forget k_sel_X6_forget k_ml_X11_76 ft_X6 hB a_b32 sh_6 (As := []) (c_X6_forget l D tys base G30 b32 g_b32 r_b32 a_b32) ⟨rfl, rfl⟩ ⟨Nat.le_of_ble_eq_true rfl, Nat.le_of_ble_eq_true rfl⟩ ⟨Nat.le_of_ble_eq_true rfl, Nat.le_of_ble_eq_true rfl⟩ rfl rfl hl.1 (Nat.le_of_ble_eq_true rfl) dX11_far_63 (fun G9 H locs hq hB => ?_)
          have hm := hq
          obtain ⟨G33, hG9⟩ : ∃ g, g = G9 := ⟨_, rfl⟩
          rw [← hG9] at hm hB
          have hM := hM.stp hm (by decide)
          have a_h0 := hm.at a_h0 (by decide)
          refine lv_iconst (v := 1) hx hb dX11_far_66 (by decide) ?_
          exact iv_zret X hr hlocks hB (q_1.wk (by decide)) ⟨hM, (q_1.wk (by decide)), fun _ => i5_x_0, fun _ => i11_x_1, fun _ => i18_x_2⟩ dX11_far_67
        · skip
          have i33_x14 : iv_R 0 0 x14 := (i_x14.cutHi (n := 0) (iv_eq_r c17 q_0).2)
          refine lv_iconst (v := 0) hx hb dX11_far_29 (by decide) ?_
          exact iv_zret X hr hlocks hB (q_0.wk (by decide)) ⟨hM, (q_0.wk (by decide)), fun _ => i5_x_0, fun _ => i11_x_1, fun h => absurd (iv_z q_0) h⟩ dX11_far_30
theorem dX11_fault_0 : decode cX11_fault 0 = .ok (.iload_n 1, 1) := by decide +kernel
theorem dX11_fault_1 : decode cX11_fault 1 = .ok (.lookupswitch 43 #[(0, 27), (1, 35)], 27) := by decide +kernel
theorem dX11_fault_28 : decode cX11_fault 28 = .ok (.aload_n 0, 1) := by decide +kernel
theorem dX11_fault_29 : decode cX11_fault 29 = .ok (.getfield 33, 3) := by decide +kernel
theorem dX11_fault_32 : decode cX11_fault 32 = .ok (.getfield 238, 3) := by decide +kernel
theorem dX11_fault_35 : decode cX11_fault 35 = .ok (.ireturn, 1) := by decide +kernel
theorem dX11_fault_36 : decode cX11_fault 36 = .ok (.aload_n 0, 1) := by decide +kernel
theorem dX11_fault_37 : decode cX11_fault 37 = .ok (.getfield 33, 3) := by decide +kernel
theorem dX11_fault_40 : decode cX11_fault 40 = .ok (.getfield 241, 3) := by decide +kernel
theorem dX11_fault_43 : decode cX11_fault 43 = .ok (.ireturn, 1) := by decide +kernel
theorem dX11_fault_44 : decode cX11_fault 44 = .ok (.iconst (-1), 1) := by decide +kernel
theorem dX11_fault_45 : decode cX11_fault 45 = .ok (.ireturn, 1) := by decide +kernel
set_option maxHeartbeats 4000000 in
set_option maxRecDepth 100000 in
theorem c_X11_fault (l : Launch) (D : va_G) (tys : List (ClassId × FieldType)) (base : Nat) (G : iv_G) (h0 : Nat) (g_h0 : Nat → Int32) (r_h0 : Nat → Nat) (a_h0 : G h0 = some (11, g_h0, r_h0)) (x_0 : Int32) (i_x_0 : iv_R (-2147483648) 2147483647 x_0) : Met l yX11_fault (Cond.code yX11_fault cX11_fault 2 (some .int) :: iv_W0) ({ frames := 0, cells := 0, slots := 0, locals := 0 }) (iv_Pc iv_sh D classes tys base G [.ref h0, .int x_0]) (iv_Qi iv_sh D classes tys base (fun v G' => G = G' ∧ iv_R (-2147483648) 2147483647 v)) 0 0 (iv_A base) := by
  refine iv_head (by decide) (Nat.le_of_ble_eq_true rfl) ?_
  intro p e s m args below meth c ls X hr hlocks hname hB hl
  have X := X
  have hx := X.1.1
  have hb := X.1.2.1
  have hl : lv_has ls 2 [(0, .ref h0), (1, .int x_0)] := hl
  refine lv_iload_n hx hb dX11_fault_0 rfl (lv_at hl 1 rfl) ?_
  by_cases w1 : x_0.toInt = 0
  · skip
    refine lv_lookup (off := 27) (tgt := 28) hx hb dX11_fault_1 (by decide) (by rw [w1]; (try rfl)) (by decide) ?_
    have w1i : iv_R 0 0 x_0 := iv_lit w1
    refine lv_aload_n hx hb dX11_fault_28 rfl (lv_at hl 0 rfl) ?_
    refine iv_getr X ft_X11 hB a_h0 sh_11 6 (by decide) rfl k_fl_X11_33 dX11_fault_29 (fun b2 g_b2 r_b2 e_b2 a_b2 => ?_)
    refine iv_geti X ft_X7 hB a_b2 sh_7 6 (by decide) rfl k_fl_X11_238 dX11_fault_32 (fun x3 e_x3 i_x3 => ?_)
    exact iv_iret X hr hlocks hB ⟨rfl, i_x3⟩ dX11_fault_35
  skip
  by_cases w4 : x_0.toInt = 1
  · skip
    refine lv_lookup (off := 35) (tgt := 36) hx hb dX11_fault_1 (by decide) (by rw [w4]; (try rfl)) (by decide) ?_
    have w4i : iv_R 1 1 x_0 := iv_lit w4
    refine lv_aload_n hx hb dX11_fault_36 rfl (lv_at hl 0 rfl) ?_
    refine iv_getr X ft_X11 hB a_h0 sh_11 6 (by decide) rfl k_fl_X11_33 dX11_fault_37 (fun b5 g_b5 r_b5 e_b5 a_b5 => ?_)
    refine iv_geti X ft_X7 hB a_b5 sh_7 7 (by decide) rfl k_fl_X11_241 dX11_fault_40 (fun x6 e_x6 i_x6 => ?_)
    exact iv_iret X hr hlocks hB ⟨rfl, i_x6⟩ dX11_fault_43
  skip
  refine lv_lookup (off := 43) (tgt := 44) hx hb dX11_fault_1 (by decide) (by simp [Op.lookupswitch.offset, List.find?, w1, Ne.symm w1, w4, Ne.symm w4]) (by decide) ?_
  refine lv_iconst (v := (-1)) hx hb dX11_fault_44 (by decide) ?_
  exact iv_iret X hr hlocks hB ⟨rfl, (q_n1.wk (by decide))⟩ dX11_fault_45
theorem dX11_fits_0 : decode cX11_fits 0 = .ok (.aload_n 0, 1) := by decide +kernel
theorem dX11_fits_1 : decode cX11_fits 1 = .ok (.getfield 12, 3) := by decide +kernel
theorem dX11_fits_4 : decode cX11_fits 4 = .ok (.getfield 152, 3) := by decide +kernel
theorem dX11_fits_7 : decode cX11_fits 7 = .ok (.iload_n 1, 1) := by decide +kernel
theorem dX11_fits_8 : decode cX11_fits 8 = .ok (.invokevirtual 155, 3) := by decide +kernel
theorem dX11_fits_11 : decode cX11_fits 11 = .ok (.ifCond .eq 14, 3) := by decide +kernel
theorem dX11_fits_14 : decode cX11_fits 14 = .ok (.aload_n 0, 1) := by decide +kernel
theorem dX11_fits_15 : decode cX11_fits 15 = .ok (.getfield 58, 3) := by decide +kernel
theorem dX11_fits_18 : decode cX11_fits 18 = .ok (.iload_n 1, 1) := by decide +kernel
theorem dX11_fits_19 : decode cX11_fits 19 = .ok (.invokevirtual 356, 3) := by decide +kernel
theorem dX11_fits_22 : decode cX11_fits 22 = .ok (.goto 4, 3) := by decide +kernel
theorem dX11_fits_25 : decode cX11_fits 25 = .ok (.iconst (-1), 1) := by decide +kernel
theorem dX11_fits_26 : decode cX11_fits 26 = .ok (.ireturn, 1) := by decide +kernel
set_option maxHeartbeats 4000000 in
set_option maxRecDepth 100000 in
theorem c_X11_fits (l : Launch) (D : va_G) (tys : List (ClassId × FieldType)) (base : Nat) (G : iv_G) (h0 : Nat) (g_h0 : Nat → Int32) (r_h0 : Nat → Nat) (a_h0 : G h0 = some (11, g_h0, r_h0)) (x_0 : Int32) (i_x_0 : iv_R (-2147483648) 2147483647 x_0) : Met l yX11_fits (Cond.code yX11_fits cX11_fits 2 (some .int) :: iv_W0) ({ frames := 4, cells := 0, slots := 0, locals := 91 }) (iv_Pc iv_sh D classes tys base G [.ref h0, .int x_0]) (iv_Qi iv_sh D classes tys base (fun v G' => G = G' ∧ iv_R (-2147483648) 2147483647 v)) 0 0 (iv_A base) := by
  refine iv_head (by decide) (Nat.le_of_ble_eq_true rfl) ?_
  intro p e s m args below meth c ls X hr hlocks hname hB hl
  have X := X
  have hx := X.1.1
  have hb := X.1.2.1
  have hl : lv_has ls 2 [(0, .ref h0), (1, .int x_0)] := hl
  refine lv_aload_n hx hb dX11_fits_0 rfl (lv_at hl 0 rfl) ?_
  refine iv_getr X ft_X11 hB a_h0 sh_11 0 (by decide) rfl k_fl_X11_12 dX11_fits_1 (fun b1 g_b1 r_b1 e_b1 a_b1 => ?_)
  refine iv_getr X ft_X5 hB a_b1 sh_5 8 (by decide) rfl k_fl_X11_152 dX11_fits_4 (fun b2 g_b2 r_b2 e_b2 a_b2 => ?_)
  refine lv_iload_n hx hb dX11_fits_7 rfl (lv_at hl 1 rfl) ?_
  refine iv_cVi X k_good k_mf_X8_has k_im_X8_has k_sel_X8_has k_ml_X11_155 ft_X8 hB a_b2 sh_8 (As := [.int x_0]) (c_X8_has_8 l D tys base G b2 g_b2 r_b2 a_b2 x_0 i_x_0) ⟨rfl, rfl⟩ ⟨Nat.le_of_ble_eq_true rfl, Nat.le_of_ble_eq_true rfl⟩ ⟨Nat.le_of_ble_eq_true rfl, Nat.le_of_ble_eq_true rfl⟩ rfl rfl hl.1 (Nat.le_of_ble_eq_true rfl) dX11_fits_8 (fun x3 G9 H locs hq hB => ?_)
  obtain ⟨rfl, i_x3, hp4⟩ := hq
  refine lv_if_eq (tgt := 25) hx hb dX11_fits_11 (by decide) (fun c5 => ?_) (fun c5 => ?_)
  · skip
    have i5_x3 : iv_R 0 0 x3 := (i_x3.cutHi (n := 0) (iv_eq_r c5 q_0).2)
    refine lv_iconst (v := (-1)) hx hb dX11_fits_25 (by decide) ?_
    exact iv_iret X hr hlocks hB ⟨rfl, (q_n1.wk (by decide))⟩ dX11_fits_26
  · skip
    have i6_x3 : iv_R 1 1 x3 := iv_ne_lo c5 i_x3 q_0 (by decide)
    have i7_x_0 : iv_R 0 19 x_0 := ((i_x_0.cutLo (n := 0) (hp4 c5).1).cutHi (n := 19) (hp4 c5).2)
    refine lv_aload_n hx hb dX11_fits_14 rfl (lv_at hl 0 rfl) ?_
    refine iv_getr X ft_X11 hB a_h0 sh_11 9 (by decide) rfl k_fl_X11_58 dX11_fits_15 (fun b9 g_b9 r_b9 e_b9 a_b9 => ?_)
    refine lv_iload_n hx hb dX11_fits_18 rfl (lv_at hl 1 rfl) ?_
    refine iv_cVi X k_good k_mf_X9_fitting k_im_X9_fitting k_sel_X9_fitting k_ml_X11_356 ft_X9 hB a_b9 sh_9 (As := [.int x_0]) (c_X9_fitting l D tys base G b9 g_b9 r_b9 a_b9 x_0 i7_x_0) ⟨rfl, rfl⟩ ⟨Nat.le_of_ble_eq_true rfl, Nat.le_of_ble_eq_true rfl⟩ ⟨Nat.le_of_ble_eq_true rfl, Nat.le_of_ble_eq_true rfl⟩ rfl rfl hl.1 (Nat.le_of_ble_eq_true rfl) dX11_fits_19 (fun x10 G9 H locs hq hB => ?_)
    obtain ⟨rfl, i_x10⟩ := hq
    refine lv_goto (tgt := 26) hx hb dX11_fits_22 (by decide) ?_
    exact iv_iret X hr hlocks hB ⟨rfl, i_x10⟩ dX11_fits_26
theorem dX11_isHour_0 : decode cX11_isHour 0 = .ok (.iload_n 0, 1) := by decide +kernel
theorem dX11_isHour_1 : decode cX11_isHour 1 = .ok (.iconst 0, 1) := by decide +kernel
theorem dX11_isHour_2 : decode cX11_isHour 2 = .ok (.bipush 23, 2) := by decide +kernel
theorem dX11_isHour_4 : decode cX11_isHour 4 = .ok (.invokestatic 83, 3) := by decide +kernel
theorem dX11_isHour_7 : decode cX11_isHour 7 = .ok (.ireturn, 1) := by decide +kernel
set_option maxHeartbeats 4000000 in
set_option maxRecDepth 100000 in
theorem c_X11_isHour (l : Launch) (D : va_G) (tys : List (ClassId × FieldType)) (base : Nat) (G : iv_G) (x_0 : Int32) (i_x_0 : iv_R (-2147483648) 2147483647 x_0) : Met l yX11_isHour (Cond.code yX11_isHour cX11_isHour 1 (some .boolean) :: iv_W0) ({ frames := 1, cells := 0, slots := 0, locals := 22 }) (iv_Pc iv_sh D classes tys base G [.int x_0]) (iv_Qi iv_sh D classes tys base (fun v G' => G = G' ∧ iv_R 0 1 v ∧ (¬ v = 0 → iv_R 0 23 x_0))) 0 0 (iv_A base) := by
  refine iv_head (by decide) (Nat.le_of_ble_eq_true rfl) ?_
  intro p e s m args below meth c ls X hr hlocks hname hB hl
  have X := X
  have hx := X.1.1
  have hb := X.1.2.1
  have hl : lv_has ls 1 [(0, .int x_0)] := hl
  refine lv_iload_n hx hb dX11_isHour_0 rfl (lv_at hl 0 rfl) ?_
  refine lv_iconst (v := 0) hx hb dX11_isHour_1 (by decide) ?_
  refine lv_bipush (v := 23) hx hb dX11_isHour_2 (by decide) ?_
  refine iv_cSi X k_good k_mf_X11_isWithin k_st_X11_isWithin k_ml_X11_83 hB (As := [.int x_0, .int 0, .int 23]) (c_X11_isWithin l D tys base G x_0 i_x_0 0 (q_0.wk (by decide)) 23 (q_23.wk (by decide))) ⟨rfl, rfl⟩ ⟨Nat.le_of_ble_eq_true rfl, Nat.le_of_ble_eq_true rfl⟩ ⟨Nat.le_of_ble_eq_true rfl, Nat.le_of_ble_eq_true rfl⟩ rfl rfl hl.1 (Nat.le_of_ble_eq_true rfl) dX11_isHour_4 (fun x1 G9 H locs hq hB => ?_)
  obtain ⟨rfl, i_x1, hp2⟩ := hq
  have k3 : ¬ x1 = 0 → iv_R 0 23 x_0 := fun h => ⟨iv_max i_x_0.1 (Int.le_trans q_0.1 (hp2.1 h).1) (by decide), iv_min i_x_0.2 (Int.le_trans (hp2.1 h).2 q_23.2) (by decide)⟩
  exact iv_zret X hr hlocks hB i_x1 ⟨rfl, i_x1, fun h => (k3 h).wk (by decide)⟩ dX11_isHour_7
theorem dX11_isSetForAll_0 : decode cX11_isSetForAll 0 = .ok (.iload_n 1, 1) := by decide +kernel
theorem dX11_isSetForAll_1 : decode cX11_isSetForAll 1 = .ok (.ifCond .ne 23, 3) := by decide +kernel
theorem dX11_isSetForAll_4 : decode cX11_isSetForAll 4 = .ok (.iload_n 2, 1) := by decide +kernel
theorem dX11_isSetForAll_5 : decode cX11_isSetForAll 5 = .ok (.iconst 0, 1) := by decide +kernel
theorem dX11_isSetForAll_6 : decode cX11_isSetForAll 6 = .ok (.bipush 12, 2) := by decide +kernel
theorem dX11_isSetForAll_8 : decode cX11_isSetForAll 8 = .ok (.invokestatic 83, 3) := by decide +kernel
theorem dX11_isSetForAll_11 : decode cX11_isSetForAll 11 = .ok (.ifCond .eq 13, 3) := by decide +kernel
theorem dX11_isSetForAll_14 : decode cX11_isSetForAll 14 = .ok (.aload_n 0, 1) := by decide +kernel
theorem dX11_isSetForAll_15 : decode cX11_isSetForAll 15 = .ok (.getfield 12, 3) := by decide +kernel
theorem dX11_isSetForAll_18 : decode cX11_isSetForAll 18 = .ok (.iload_n 2, 1) := by decide +kernel
theorem dX11_isSetForAll_19 : decode cX11_isSetForAll 19 = .ok (.putfield 110, 3) := by decide +kernel
theorem dX11_isSetForAll_22 : decode cX11_isSetForAll 22 = .ok (.iconst 1, 1) := by decide +kernel
theorem dX11_isSetForAll_23 : decode cX11_isSetForAll 23 = .ok (.ireturn, 1) := by decide +kernel
theorem dX11_isSetForAll_24 : decode cX11_isSetForAll 24 = .ok (.iload_n 1, 1) := by decide +kernel
theorem dX11_isSetForAll_25 : decode cX11_isSetForAll 25 = .ok (.iconst 1, 1) := by decide +kernel
theorem dX11_isSetForAll_26 : decode cX11_isSetForAll 26 = .ok (.if_icmp .ne 23, 3) := by decide +kernel
theorem dX11_isSetForAll_29 : decode cX11_isSetForAll 29 = .ok (.iload_n 2, 1) := by decide +kernel
theorem dX11_isSetForAll_30 : decode cX11_isSetForAll 30 = .ok (.iconst 0, 1) := by decide +kernel
theorem dX11_isSetForAll_31 : decode cX11_isSetForAll 31 = .ok (.bipush 9, 2) := by decide +kernel
theorem dX11_isSetForAll_33 : decode cX11_isSetForAll 33 = .ok (.invokestatic 83, 3) := by decide +kernel
theorem dX11_isSetForAll_36 : decode cX11_isSetForAll 36 = .ok (.ifCond .eq 13, 3) := by decide +kernel
theorem dX11_isSetForAll_39 : decode cX11_isSetForAll 39 = .ok (.aload_n 0, 1) := by decide +kernel
theorem dX11_isSetForAll_40 : decode cX11_isSetForAll 40 = .ok (.getfield 12, 3) := by decide +kernel
theorem dX11_isSetForAll_43 : decode cX11_isSetForAll 43 = .ok (.iload_n 2, 1) := by decide +kernel
theorem dX11_isSetForAll_44 : decode cX11_isSetForAll 44 = .ok (.putfield 113, 3) := by decide +kernel
theorem dX11_isSetForAll_47 : decode cX11_isSetForAll 47 = .ok (.iconst 1, 1) := by decide +kernel
theorem dX11_isSetForAll_48 : decode cX11_isSetForAll 48 = .ok (.ireturn, 1) := by decide +kernel
theorem dX11_isSetForAll_49 : decode cX11_isSetForAll 49 = .ok (.iload_n 1, 1) := by decide +kernel
theorem dX11_isSetForAll_50 : decode cX11_isSetForAll 50 = .ok (.iconst 2, 1) := by decide +kernel
theorem dX11_isSetForAll_51 : decode cX11_isSetForAll 51 = .ok (.if_icmp .ne 24, 3) := by decide +kernel
theorem dX11_isSetForAll_54 : decode cX11_isSetForAll 54 = .ok (.iload_n 2, 1) := by decide +kernel
theorem dX11_isSetForAll_55 : decode cX11_isSetForAll 55 = .ok (.iconst 0, 1) := by decide +kernel
theorem dX11_isSetForAll_56 : decode cX11_isSetForAll 56 = .ok (.sipush 1000, 3) := by decide +kernel
theorem dX11_isSetForAll_59 : decode cX11_isSetForAll 59 = .ok (.invokestatic 83, 3) := by decide +kernel
theorem dX11_isSetForAll_62 : decode cX11_isSetForAll 62 = .ok (.ifCond .eq 13, 3) := by decide +kernel
theorem dX11_isSetForAll_65 : decode cX11_isSetForAll 65 = .ok (.aload_n 0, 1) := by decide +kernel
theorem dX11_isSetForAll_66 : decode cX11_isSetForAll 66 = .ok (.getfield 12, 3) := by decide +kernel
theorem dX11_isSetForAll_69 : decode cX11_isSetForAll 69 = .ok (.iload_n 2, 1) := by decide +kernel
theorem dX11_isSetForAll_70 : decode cX11_isSetForAll 70 = .ok (.putfield 116, 3) := by decide +kernel
theorem dX11_isSetForAll_73 : decode cX11_isSetForAll 73 = .ok (.iconst 1, 1) := by decide +kernel
theorem dX11_isSetForAll_74 : decode cX11_isSetForAll 74 = .ok (.ireturn, 1) := by decide +kernel
theorem dX11_isSetForAll_75 : decode cX11_isSetForAll 75 = .ok (.iconst 0, 1) := by decide +kernel
theorem dX11_isSetForAll_76 : decode cX11_isSetForAll 76 = .ok (.ireturn, 1) := by decide +kernel
set_option maxHeartbeats 4000000 in
set_option maxRecDepth 100000 in
theorem c_X11_isSetForAll (l : Launch) (D : va_G) (tys : List (ClassId × FieldType)) (base : Nat) (G : iv_G) (h0 : Nat) (g_h0 : Nat → Int32) (r_h0 : Nat → Nat) (a_h0 : G h0 = some (11, g_h0, r_h0)) (x_0 : Int32) (i_x_0 : iv_R (-2147483648) 2 x_0) (x_1 : Int32) (i_x_1 : iv_R (-2147483648) 2147483647 x_1) : Met l yX11_isSetForAll (Cond.code yX11_isSetForAll cX11_isSetForAll 3 (some .boolean) :: iv_W0) ({ frames := 1, cells := 0, slots := 0, locals := 22 }) (iv_Pc iv_sh D classes tys base G [.ref h0, .int x_0, .int x_1]) (iv_Qi iv_sh D classes tys base (fun v G' => iv_Md [5] G G' ∧ iv_R 0 1 v ∧ (¬ v = 0 → iv_R 0 2 x_0) ∧ (¬ v = 0 → iv_R 0 1000 x_1))) 0 0 (iv_A base) := by
  refine iv_head (by decide) (Nat.le_of_ble_eq_true rfl) ?_
  intro p e s m args below meth c ls X hr hlocks hname hB hl
  have X := X
  have hx := X.1.1
  have hb := X.1.2.1
  have hM : iv_Md [5] G G := iv_Md.rf
  have hl : lv_has ls 3 [(0, .ref h0), (1, .int x_0), (2, .int x_1)] := hl
  refine lv_iload_n hx hb dX11_isSetForAll_0 rfl (lv_at hl 1 rfl) ?_
  refine lv_if_ne (tgt := 24) hx hb dX11_isSetForAll_1 (by decide) (fun c1 => ?_) (fun c1 => ?_)
  · skip
    refine lv_iload_n hx hb dX11_isSetForAll_24 rfl (lv_at hl 1 rfl) ?_
    refine lv_iconst (v := 1) hx hb dX11_isSetForAll_25 (by decide) ?_
    refine lv_icmp_ne (tgt := 49) hx hb dX11_isSetForAll_26 (by decide) (fun c2 => ?_) (fun c2 => ?_)
    · skip
      refine lv_iload_n hx hb dX11_isSetForAll_49 rfl (lv_at hl 1 rfl) ?_
      refine lv_iconst (v := 2) hx hb dX11_isSetForAll_50 (by decide) ?_
      refine lv_icmp_ne (tgt := 75) hx hb dX11_isSetForAll_51 (by decide) (fun c3 => ?_) (fun c3 => ?_)
      · skip
        have i3_x_0 : iv_R (-2147483648) 1 x_0 := iv_ne_hi c3 i_x_0 q_2 (by decide)
        refine lv_iconst (v := 0) hx hb dX11_isSetForAll_75 (by decide) ?_
        exact iv_zret X hr hlocks hB (q_0.wk (by decide)) ⟨hM, (q_0.wk (by decide)), fun h => absurd (iv_z q_0) h, fun h => absurd (iv_z q_0) h⟩ dX11_isSetForAll_76
      · skip
        have i4_x_0 : iv_R 2 2 x_0 := (i_x_0.cutLo (n := 2) (iv_eq_r c3 q_2).1)
        refine lv_iload_n hx hb dX11_isSetForAll_54 rfl (lv_at hl 2 rfl) ?_
        refine lv_iconst (v := 0) hx hb dX11_isSetForAll_55 (by decide) ?_
        refine lv_sipush (v := 1000) hx hb dX11_isSetForAll_56 (by decide) ?_
        refine iv_cSi X k_good k_mf_X11_isWithin k_st_X11_isWithin k_ml_X11_83 hB (As := [.int x_1, .int 0, .int 1000]) (c_X11_isWithin l D tys base G x_1 i_x_1 0 (q_0.wk (by decide)) 1000 (q_1000.wk (by decide))) ⟨rfl, rfl⟩ ⟨Nat.le_of_ble_eq_true rfl, Nat.le_of_ble_eq_true rfl⟩ ⟨Nat.le_of_ble_eq_true rfl, Nat.le_of_ble_eq_true rfl⟩ rfl rfl hl.1 (Nat.le_of_ble_eq_true rfl) dX11_isSetForAll_59 (fun x6 G9 H locs hq hB => ?_)
        obtain ⟨rfl, i_x6, hp7⟩ := hq
        have k8 : ¬ x6 = 0 → iv_R 0 1000 x_1 := fun h => ⟨iv_max i_x_1.1 (Int.le_trans q_0.1 (hp7.1 h).1) (by decide), iv_min i_x_1.2 (Int.le_trans (hp7.1 h).2 q_1000.2) (by decide)⟩
        refine lv_if_eq (tgt := 75) hx hb dX11_isSetForAll_62 (by decide) (fun c9 => ?_) (fun c9 => ?_)
        · skip
          have i9_x6 : iv_R 0 0 x6 := (i_x6.cutHi (n := 0) (iv_eq_r c9 q_0).2)
          refine lv_iconst (v := 0) hx hb dX11_isSetForAll_75 (by decide) ?_
          exact iv_zret X hr hlocks hB (q_0.wk (by decide)) ⟨hM, (q_0.wk (by decide)), fun _ => (i4_x_0.wk (by decide)), fun h => absurd (iv_z q_0) h⟩ dX11_isSetForAll_76
        · skip
          have i10_x6 : iv_R 1 1 x6 := iv_ne_lo c9 i_x6 q_0 (by decide)
          have i11_x_1 : iv_R 0 1000 x_1 := ((i_x_1.cutLo (n := 0) (k8 c9).1).cutHi (n := 1000) (k8 c9).2)
          refine lv_aload_n hx hb dX11_isSetForAll_65 rfl (lv_at hl 0 rfl) ?_
          refine iv_getr X ft_X11 hB a_h0 sh_11 0 (by decide) rfl k_fl_X11_12 dX11_isSetForAll_66 (fun b13 g_b13 r_b13 e_b13 a_b13 => ?_)
          refine lv_iload_n hx hb dX11_isSetForAll_69 rfl (lv_at hl 2 rfl) ?_
          refine iv_puti X ft_X5 hB a_b13 sh_5 5 (by decide) rfl rfl k_fl_X11_116 rfl (i11_x_1.wk (by decide)) rfl rfl dX11_isSetForAll_70 (fun H locs hB => ?_)
          have hm := iv_Md.put (x := x_1) a_b13 (j := 5) (by decide) (by decide)
          have h9 := iv_up_eq (G := G) (a := b13) (k := (5, upd g_b13 5 x_1, r_b13))
          generalize iv_up G b13 _ = G14 at hB hm h9
          have hM := hM.stp hm (by decide)
          have a_h0 := hm.at a_h0 (by decide)
          refine lv_iconst (v := 1) hx hb dX11_isSetForAll_73 (by decide) ?_
          exact iv_zret X hr hlocks hB (q_1.wk (by decide)) ⟨hM, (q_1.wk (by decide)), fun _ => (i4_x_0.wk (by decide)), fun _ => i11_x_1⟩ dX11_isSetForAll_74
    · skip
      have i15_x_0 : iv_R 1 1 x_0 := ((i_x_0.cutLo (n := 1) (iv_eq_r c2 q_1).1).cutHi (n := 1) (iv_eq_r c2 q_1).2)
      refine lv_iload_n hx hb dX11_isSetForAll_29 rfl (lv_at hl 2 rfl) ?_
      refine lv_iconst (v := 0) hx hb dX11_isSetForAll_30 (by decide) ?_
      refine lv_bipush (v := 9) hx hb dX11_isSetForAll_31 (by decide) ?_
      refine iv_cSi X k_good k_mf_X11_isWithin k_st_X11_isWithin k_ml_X11_83 hB (As := [.int x_1, .int 0, .int 9]) (c_X11_isWithin l D tys base G x_1 i_x_1 0 (q_0.wk (by decide)) 9 (q_9.wk (by decide))) ⟨rfl, rfl⟩ ⟨Nat.le_of_ble_eq_true rfl, Nat.le_of_ble_eq_true rfl⟩ ⟨Nat.le_of_ble_eq_true rfl, Nat.le_of_ble_eq_true rfl⟩ rfl rfl hl.1 (Nat.le_of_ble_eq_true rfl) dX11_isSetForAll_33 (fun x17 G9 H locs hq hB => ?_)
      obtain ⟨rfl, i_x17, hp18⟩ := hq
      have k19 : ¬ x17 = 0 → iv_R 0 9 x_1 := fun h => ⟨iv_max i_x_1.1 (Int.le_trans q_0.1 (hp18.1 h).1) (by decide), iv_min i_x_1.2 (Int.le_trans (hp18.1 h).2 q_9.2) (by decide)⟩
      refine lv_if_eq (tgt := 49) hx hb dX11_isSetForAll_36 (by decide) (fun c20 => ?_) (fun c20 => ?_)
      · skip
        have i20_x17 : iv_R 0 0 x17 := (i_x17.cutHi (n := 0) (iv_eq_r c20 q_0).2)
        refine lv_iload_n hx hb dX11_isSetForAll_49 rfl (lv_at hl 1 rfl) ?_
        refine lv_iconst (v := 2) hx hb dX11_isSetForAll_50 (by decide) ?_
        refine lv_icmp_ne (tgt := 75) hx hb dX11_isSetForAll_51 (by decide) (fun c22 => ?_) (fun c22 => ?_)
        · skip
          refine lv_iconst (v := 0) hx hb dX11_isSetForAll_75 (by decide) ?_
          exact iv_zret X hr hlocks hB (q_0.wk (by decide)) ⟨hM, (q_0.wk (by decide)), fun _ => (i15_x_0.wk (by decide)), fun h => absurd (iv_z q_0) h⟩ dX11_isSetForAll_76
        · skip
          exact (i15_x_0.cutLo (n := 2) (iv_eq_r c22 q_2).1).no (by decide)
      · skip
        have i22_x17 : iv_R 1 1 x17 := iv_ne_lo c20 i_x17 q_0 (by decide)
        have i23_x_1 : iv_R 0 9 x_1 := ((i_x_1.cutLo (n := 0) (k19 c20).1).cutHi (n := 9) (k19 c20).2)
        refine lv_aload_n hx hb dX11_isSetForAll_39 rfl (lv_at hl 0 rfl) ?_
        refine iv_getr X ft_X11 hB a_h0 sh_11 0 (by decide) rfl k_fl_X11_12 dX11_isSetForAll_40 (fun b25 g_b25 r_b25 e_b25 a_b25 => ?_)
        refine lv_iload_n hx hb dX11_isSetForAll_43 rfl (lv_at hl 2 rfl) ?_
        refine iv_puti X ft_X5 hB a_b25 sh_5 4 (by decide) rfl rfl k_fl_X11_113 rfl (i23_x_1.wk (by decide)) rfl rfl dX11_isSetForAll_44 (fun H locs hB => ?_)
        have hm := iv_Md.put (x := x_1) a_b25 (j := 4) (by decide) (by decide)
        have h9 := iv_up_eq (G := G) (a := b25) (k := (5, upd g_b25 4 x_1, r_b25))
        generalize iv_up G b25 _ = G26 at hB hm h9
        have hM := hM.stp hm (by decide)
        have a_h0 := hm.at a_h0 (by decide)
        refine lv_iconst (v := 1) hx hb dX11_isSetForAll_47 (by decide) ?_
        exact iv_zret X hr hlocks hB (q_1.wk (by decide)) ⟨hM, (q_1.wk (by decide)), fun _ => (i15_x_0.wk (by decide)), fun _ => (i23_x_1.wk (by decide))⟩ dX11_isSetForAll_48
  · skip
    have i27_x_0 : iv_R 0 0 x_0 := ((i_x_0.cutLo (n := 0) (iv_eq_r c1 q_0).1).cutHi (n := 0) (iv_eq_r c1 q_0).2)
    refine lv_iload_n hx hb dX11_isSetForAll_4 rfl (lv_at hl 2 rfl) ?_
    refine lv_iconst (v := 0) hx hb dX11_isSetForAll_5 (by decide) ?_
    refine lv_bipush (v := 12) hx hb dX11_isSetForAll_6 (by decide) ?_
    refine iv_cSi X k_good k_mf_X11_isWithin k_st_X11_isWithin k_ml_X11_83 hB (As := [.int x_1, .int 0, .int 12]) (c_X11_isWithin l D tys base G x_1 i_x_1 0 (q_0.wk (by decide)) 12 (q_12.wk (by decide))) ⟨rfl, rfl⟩ ⟨Nat.le_of_ble_eq_true rfl, Nat.le_of_ble_eq_true rfl⟩ ⟨Nat.le_of_ble_eq_true rfl, Nat.le_of_ble_eq_true rfl⟩ rfl rfl hl.1 (Nat.le_of_ble_eq_true rfl) dX11_isSetForAll_8 (fun x29 G9 H locs hq hB => ?_)
    obtain ⟨rfl, i_x29, hp30⟩ := hq
    have k31 : ¬ x29 = 0 → iv_R 0 12 x_1 := fun h => ⟨iv_max i_x_1.1 (Int.le_trans q_0.1 (hp30.1 h).1) (by decide), iv_min i_x_1.2 (Int.le_trans (hp30.1 h).2 q_12.2) (by decide)⟩
    refine lv_if_eq (tgt := 24) hx hb dX11_isSetForAll_11 (by decide) (fun c32 => ?_) (fun c32 => ?_)
    · skip
      have i32_x29 : iv_R 0 0 x29 := (i_x29.cutHi (n := 0) (iv_eq_r c32 q_0).2)
      refine lv_iload_n hx hb dX11_isSetForAll_24 rfl (lv_at hl 1 rfl) ?_
      refine lv_iconst (v := 1) hx hb dX11_isSetForAll_25 (by decide) ?_
      refine lv_icmp_ne (tgt := 49) hx hb dX11_isSetForAll_26 (by decide) (fun c34 => ?_) (fun c34 => ?_)
      · skip
        refine lv_iload_n hx hb dX11_isSetForAll_49 rfl (lv_at hl 1 rfl) ?_
        refine lv_iconst (v := 2) hx hb dX11_isSetForAll_50 (by decide) ?_
        refine lv_icmp_ne (tgt := 75) hx hb dX11_isSetForAll_51 (by decide) (fun c35 => ?_) (fun c35 => ?_)
        · skip
          refine lv_iconst (v := 0) hx hb dX11_isSetForAll_75 (by decide) ?_
          exact iv_zret X hr hlocks hB (q_0.wk (by decide)) ⟨hM, (q_0.wk (by decide)), fun _ => (i27_x_0.wk (by decide)), fun h => absurd (iv_z q_0) h⟩ dX11_isSetForAll_76
        · skip
          exact (i27_x_0.cutLo (n := 2) (iv_eq_r c35 q_2).1).no (by decide)
      · skip
        exact (i27_x_0.cutLo (n := 1) (iv_eq_r c34 q_1).1).no (by decide)
    · skip
      have i35_x29 : iv_R 1 1 x29 := iv_ne_lo c32 i_x29 q_0 (by decide)
      have i36_x_1 : iv_R 0 12 x_1 := ((i_x_1.cutLo (n := 0) (k31 c32).1).cutHi (n := 12) (k31 c32).2)
      refine lv_aload_n hx hb dX11_isSetForAll_14 rfl (lv_at hl 0 rfl) ?_
      refine iv_getr X ft_X11 hB a_h0 sh_11 0 (by decide) rfl k_fl_X11_12 dX11_isSetForAll_15 (fun b38 g_b38 r_b38 e_b38 a_b38 => ?_)
      refine lv_iload_n hx hb dX11_isSetForAll_18 rfl (lv_at hl 2 rfl) ?_
      refine iv_puti X ft_X5 hB a_b38 sh_5 3 (by decide) rfl rfl k_fl_X11_110 rfl (i36_x_1.wk (by decide)) rfl rfl dX11_isSetForAll_19 (fun H locs hB => ?_)
      have hm := iv_Md.put (x := x_1) a_b38 (j := 3) (by decide) (by decide)
      have h9 := iv_up_eq (G := G) (a := b38) (k := (5, upd g_b38 3 x_1, r_b38))
      generalize iv_up G b38 _ = G39 at hB hm h9
      have hM := hM.stp hm (by decide)
      have a_h0 := hm.at a_h0 (by decide)
      refine lv_iconst (v := 1) hx hb dX11_isSetForAll_22 (by decide) ?_
      exact iv_zret X hr hlocks hB (q_1.wk (by decide)) ⟨hM, (q_1.wk (by decide)), fun _ => (i27_x_0.wk (by decide)), fun _ => (i36_x_1.wk (by decide))⟩ dX11_isSetForAll_23
theorem dX11_isSetForBell_0 : decode cX11_isSetForBell 0 = .ok (.aload_n 0, 1) := by decide +kernel
theorem dX11_isSetForBell_1 : decode cX11_isSetForBell 1 = .ok (.getfield 12, 3) := by decide +kernel
theorem dX11_isSetForBell_4 : decode cX11_isSetForBell 4 = .ok (.iload_n 2, 1) := by decide +kernel
theorem dX11_isSetForBell_5 : decode cX11_isSetForBell 5 = .ok (.invokevirtual 119, 3) := by decide +kernel
theorem dX11_isSetForBell_8 : decode cX11_isSetForBell 8 = .ok (.ifCond .ne 5, 3) := by decide +kernel
theorem dX11_isSetForBell_11 : decode cX11_isSetForBell 11 = .ok (.iconst 0, 1) := by decide +kernel
theorem dX11_isSetForBell_12 : decode cX11_isSetForBell 12 = .ok (.ireturn, 1) := by decide +kernel
theorem dX11_isSetForBell_13 : decode cX11_isSetForBell 13 = .ok (.aload_n 0, 1) := by decide +kernel
theorem dX11_isSetForBell_14 : decode cX11_isSetForBell 14 = .ok (.getfield 12, 3) := by decide +kernel
theorem dX11_isSetForBell_17 : decode cX11_isSetForBell 17 = .ok (.getfield 93, 3) := by decide +kernel
theorem dX11_isSetForBell_20 : decode cX11_isSetForBell 20 = .ok (.iload_n 2, 1) := by decide +kernel
theorem dX11_isSetForBell_21 : decode cX11_isSetForBell 21 = .ok (.aaload, 1) := by decide +kernel
theorem dX11_isSetForBell_22 : decode cX11_isSetForBell 22 = .ok (.astore 4, 2) := by decide +kernel
theorem dX11_isSetForBell_24 : decode cX11_isSetForBell 24 = .ok (.iload_n 1, 1) := by decide +kernel
theorem dX11_isSetForBell_25 : decode cX11_isSetForBell 25 = .ok (.iconst 3, 1) := by decide +kernel
theorem dX11_isSetForBell_26 : decode cX11_isSetForBell 26 = .ok (.if_icmp .ne 21, 3) := by decide +kernel
theorem dX11_isSetForBell_29 : decode cX11_isSetForBell 29 = .ok (.iload_n 3, 1) := by decide +kernel
theorem dX11_isSetForBell_30 : decode cX11_isSetForBell 30 = .ok (.iconst 0, 1) := by decide +kernel
theorem dX11_isSetForBell_31 : decode cX11_isSetForBell 31 = .ok (.bipush 99, 2) := by decide +kernel
theorem dX11_isSetForBell_33 : decode cX11_isSetForBell 33 = .ok (.invokestatic 83, 3) := by decide +kernel
theorem dX11_isSetForBell_36 : decode cX11_isSetForBell 36 = .ok (.ifCond .eq 11, 3) := by decide +kernel
theorem dX11_isSetForBell_39 : decode cX11_isSetForBell 39 = .ok (.aload 4, 2) := by decide +kernel
theorem dX11_isSetForBell_41 : decode cX11_isSetForBell 41 = .ok (.iload_n 3, 1) := by decide +kernel
theorem dX11_isSetForBell_42 : decode cX11_isSetForBell 42 = .ok (.putfield 122, 3) := by decide +kernel
theorem dX11_isSetForBell_45 : decode cX11_isSetForBell 45 = .ok (.iconst 1, 1) := by decide +kernel
theorem dX11_isSetForBell_46 : decode cX11_isSetForBell 46 = .ok (.ireturn, 1) := by decide +kernel
theorem dX11_isSetForBell_47 : decode cX11_isSetForBell 47 = .ok (.iload_n 1, 1) := by decide +kernel
theorem dX11_isSetForBell_48 : decode cX11_isSetForBell 48 = .ok (.iconst 4, 1) := by decide +kernel
theorem dX11_isSetForBell_49 : decode cX11_isSetForBell 49 = .ok (.if_icmp .ne 20, 3) := by decide +kernel
theorem dX11_isSetForBell_52 : decode cX11_isSetForBell 52 = .ok (.iload_n 3, 1) := by decide +kernel
theorem dX11_isSetForBell_53 : decode cX11_isSetForBell 53 = .ok (.iconst 0, 1) := by decide +kernel
theorem dX11_isSetForBell_54 : decode cX11_isSetForBell 54 = .ok (.iconst 1, 1) := by decide +kernel
theorem dX11_isSetForBell_55 : decode cX11_isSetForBell 55 = .ok (.invokestatic 83, 3) := by decide +kernel
theorem dX11_isSetForBell_58 : decode cX11_isSetForBell 58 = .ok (.ifCond .eq 11, 3) := by decide +kernel
theorem dX11_isSetForBell_61 : decode cX11_isSetForBell 61 = .ok (.aload 4, 2) := by decide +kernel
theorem dX11_isSetForBell_63 : decode cX11_isSetForBell 63 = .ok (.iload_n 3, 1) := by decide +kernel
theorem dX11_isSetForBell_64 : decode cX11_isSetForBell 64 = .ok (.putfield 125, 3) := by decide +kernel
theorem dX11_isSetForBell_67 : decode cX11_isSetForBell 67 = .ok (.iconst 1, 1) := by decide +kernel
theorem dX11_isSetForBell_68 : decode cX11_isSetForBell 68 = .ok (.ireturn, 1) := by decide +kernel
theorem dX11_isSetForBell_69 : decode cX11_isSetForBell 69 = .ok (.iload_n 1, 1) := by decide +kernel
theorem dX11_isSetForBell_70 : decode cX11_isSetForBell 70 = .ok (.iconst 5, 1) := by decide +kernel
theorem dX11_isSetForBell_71 : decode cX11_isSetForBell 71 = .ok (.if_icmp .ne 21, 3) := by decide +kernel
theorem dX11_isSetForBell_74 : decode cX11_isSetForBell 74 = .ok (.iload_n 3, 1) := by decide +kernel
theorem dX11_isSetForBell_75 : decode cX11_isSetForBell 75 = .ok (.iconst 0, 1) := by decide +kernel
theorem dX11_isSetForBell_76 : decode cX11_isSetForBell 76 = .ok (.bipush 47, 2) := by decide +kernel
theorem dX11_isSetForBell_78 : decode cX11_isSetForBell 78 = .ok (.invokestatic 83, 3) := by decide +kernel
theorem dX11_isSetForBell_81 : decode cX11_isSetForBell 81 = .ok (.ifCond .eq 11, 3) := by decide +kernel
theorem dX11_isSetForBell_84 : decode cX11_isSetForBell 84 = .ok (.aload 4, 2) := by decide +kernel
theorem dX11_isSetForBell_86 : decode cX11_isSetForBell 86 = .ok (.iload_n 3, 1) := by decide +kernel
theorem dX11_isSetForBell_87 : decode cX11_isSetForBell 87 = .ok (.putfield 128, 3) := by decide +kernel
theorem dX11_isSetForBell_90 : decode cX11_isSetForBell 90 = .ok (.iconst 1, 1) := by decide +kernel
theorem dX11_isSetForBell_91 : decode cX11_isSetForBell 91 = .ok (.ireturn, 1) := by decide +kernel
theorem dX11_isSetForBell_92 : decode cX11_isSetForBell 92 = .ok (.iconst 0, 1) := by decide +kernel
theorem dX11_isSetForBell_93 : decode cX11_isSetForBell 93 = .ok (.ireturn, 1) := by decide +kernel
set_option maxHeartbeats 4000000 in
set_option maxRecDepth 100000 in
theorem c_X11_isSetForBell (l : Launch) (D : va_G) (tys : List (ClassId × FieldType)) (base : Nat) (G : iv_G) (h0 : Nat) (g_h0 : Nat → Int32) (r_h0 : Nat → Nat) (a_h0 : G h0 = some (11, g_h0, r_h0)) (x_0 : Int32) (i_x_0 : iv_R 3 2147483647 x_0) (x_1 : Int32) (i_x_1 : iv_R (-2147483648) 2147483647 x_1) (x_2 : Int32) (i_x_2 : iv_R (-2147483648) 2147483647 x_2) : Met l yX11_isSetForBell (Cond.code yX11_isSetForBell cX11_isSetForBell 5 (some .boolean) :: iv_W0) ({ frames := 1, cells := 0, slots := 0, locals := 22 }) (iv_Pc iv_sh D classes tys base G [.ref h0, .int x_0, .int x_1, .int x_2]) (iv_Qi iv_sh D classes tys base (fun v G' => iv_Md [1] G G' ∧ iv_R 0 1 v ∧ (¬ v = 0 → iv_R 3 5 x_0) ∧ (¬ v = 0 → iv_R 0 9 x_1) ∧ (¬ v = 0 → iv_R 0 99 x_2))) 0 0 (iv_A base) := by
  refine iv_head (by decide) (Nat.le_of_ble_eq_true rfl) ?_
  intro p e s m args below meth c ls X hr hlocks hname hB hl
  have X := X
  have hx := X.1.1
  have hb := X.1.2.1
  have hM : iv_Md [1] G G := iv_Md.rf
  have hl : lv_has ls 5 [(0, .ref h0), (1, .int x_0), (2, .int x_1), (3, .int x_2)] := hl
  refine lv_aload_n hx hb dX11_isSetForBell_0 rfl (lv_at hl 0 rfl) ?_
  refine iv_getr X ft_X11 hB a_h0 sh_11 0 (by decide) rfl k_fl_X11_12 dX11_isSetForBell_1 (fun b1 g_b1 r_b1 e_b1 a_b1 => ?_)
  refine lv_iload_n hx hb dX11_isSetForBell_4 rfl (lv_at hl 2 rfl) ?_
  refine iv_cVi X k_good k_mf_X5_hasBell k_im_X5_hasBell k_sel_X5_hasBell k_ml_X11_119 ft_X5 hB a_b1 sh_5 (As := [.int x_1]) (c_X5_hasBell l D tys base G b1 g_b1 r_b1 a_b1 x_1 i_x_1) ⟨rfl, rfl⟩ ⟨Nat.le_of_ble_eq_true rfl, Nat.le_of_ble_eq_true rfl⟩ ⟨Nat.le_of_ble_eq_true rfl, Nat.le_of_ble_eq_true rfl⟩ rfl rfl hl.1 (Nat.le_of_ble_eq_true rfl) dX11_isSetForBell_5 (fun x2 G9 H locs hq hB => ?_)
  obtain ⟨rfl, i_x2, hp3⟩ := hq
  refine lv_if_ne (tgt := 13) hx hb dX11_isSetForBell_8 (by decide) (fun c4 => ?_) (fun c4 => ?_)
  · skip
    have i4_x2 : iv_R 1 1 x2 := iv_ne_lo c4 i_x2 q_0 (by decide)
    have i5_x_1 : iv_R 0 9 x_1 := ((i_x_1.cutLo (n := 0) (hp3 c4).1).cutHi (n := 9) (hp3 c4).2)
    refine lv_aload_n hx hb dX11_isSetForBell_13 rfl (lv_at hl 0 rfl) ?_
    refine iv_getr0 X ft_X11 hB a_h0 sh_11 0 (by decide) rfl k_fl_X11_12 dX11_isSetForBell_14 e_b1 ?_
    refine iv_getr X ft_X5 hB a_b1 sh_5 0 (by decide) rfl k_fl_X11_93 dX11_isSetForBell_17 (fun b7 g_b7 r_b7 e_b7 a_b7 => ?_)
    refine lv_iload_n hx hb dX11_isSetForBell_20 rfl (lv_at hl 2 rfl) ?_
    refine iv_aald X hB a_b7 sh_40 (iv_in i5_x_1 (by decide)) dX11_isSetForBell_21 (fun b8 g_b8 r_b8 e_b8 a_b8 => ?_)
    refine lv_astore (lv' := [(4, .ref b8), (0, .ref h0), (1, .int x_0), (2, .int x_1), (3, .int x_2)]) hx hb dX11_isSetForBell_22 hl (by decide) rfl (fun ls hl => ?_)
    refine lv_iload_n hx hb dX11_isSetForBell_24 rfl (lv_at hl 2 rfl) ?_
    refine lv_iconst (v := 3) hx hb dX11_isSetForBell_25 (by decide) ?_
    refine lv_icmp_ne (tgt := 47) hx hb dX11_isSetForBell_26 (by decide) (fun c9 => ?_) (fun c9 => ?_)
    · skip
      have i9_x_0 : iv_R 4 2147483647 x_0 := iv_ne_lo c9 i_x_0 q_3 (by decide)
      refine lv_iload_n hx hb dX11_isSetForBell_47 rfl (lv_at hl 2 rfl) ?_
      refine lv_iconst (v := 4) hx hb dX11_isSetForBell_48 (by decide) ?_
      refine lv_icmp_ne (tgt := 69) hx hb dX11_isSetForBell_49 (by decide) (fun c11 => ?_) (fun c11 => ?_)
      · skip
        have i11_x_0 : iv_R 5 2147483647 x_0 := iv_ne_lo c11 i9_x_0 q_4 (by decide)
        refine lv_iload_n hx hb dX11_isSetForBell_69 rfl (lv_at hl 2 rfl) ?_
        refine lv_iconst (v := 5) hx hb dX11_isSetForBell_70 (by decide) ?_
        refine lv_icmp_ne (tgt := 92) hx hb dX11_isSetForBell_71 (by decide) (fun c13 => ?_) (fun c13 => ?_)
        · skip
          have i13_x_0 : iv_R 6 2147483647 x_0 := iv_ne_lo c13 i11_x_0 q_5 (by decide)
          refine lv_iconst (v := 0) hx hb dX11_isSetForBell_92 (by decide) ?_
          exact iv_zret X hr hlocks hB (q_0.wk (by decide)) ⟨hM, (q_0.wk (by decide)), fun h => absurd (iv_z q_0) h, fun _ => i5_x_1, fun h => absurd (iv_z q_0) h⟩ dX11_isSetForBell_93
        · skip
          have i14_x_0 : iv_R 5 5 x_0 := (i11_x_0.cutHi (n := 5) (iv_eq_r c13 q_5).2)
          refine lv_iload_n hx hb dX11_isSetForBell_74 rfl (lv_at hl 4 rfl) ?_
          refine lv_iconst (v := 0) hx hb dX11_isSetForBell_75 (by decide) ?_
          refine lv_bipush (v := 47) hx hb dX11_isSetForBell_76 (by decide) ?_
          refine iv_cSi X k_good k_mf_X11_isWithin k_st_X11_isWithin k_ml_X11_83 hB (As := [.int x_2, .int 0, .int 47]) (c_X11_isWithin l D tys base G x_2 i_x_2 0 (q_0.wk (by decide)) 47 (q_47.wk (by decide))) ⟨rfl, rfl⟩ ⟨Nat.le_of_ble_eq_true rfl, Nat.le_of_ble_eq_true rfl⟩ ⟨Nat.le_of_ble_eq_true rfl, Nat.le_of_ble_eq_true rfl⟩ rfl rfl hl.1 (Nat.le_of_ble_eq_true rfl) dX11_isSetForBell_78 (fun x16 G9 H locs hq hB => ?_)
          obtain ⟨rfl, i_x16, hp17⟩ := hq
          have k18 : ¬ x16 = 0 → iv_R 0 47 x_2 := fun h => ⟨iv_max i_x_2.1 (Int.le_trans q_0.1 (hp17.1 h).1) (by decide), iv_min i_x_2.2 (Int.le_trans (hp17.1 h).2 q_47.2) (by decide)⟩
          refine lv_if_eq (tgt := 92) hx hb dX11_isSetForBell_81 (by decide) (fun c19 => ?_) (fun c19 => ?_)
          · skip
            have i19_x16 : iv_R 0 0 x16 := (i_x16.cutHi (n := 0) (iv_eq_r c19 q_0).2)
            refine lv_iconst (v := 0) hx hb dX11_isSetForBell_92 (by decide) ?_
            exact iv_zret X hr hlocks hB (q_0.wk (by decide)) ⟨hM, (q_0.wk (by decide)), fun _ => (i14_x_0.wk (by decide)), fun _ => i5_x_1, fun h => absurd (iv_z q_0) h⟩ dX11_isSetForBell_93
          · skip
            have i20_x16 : iv_R 1 1 x16 := iv_ne_lo c19 i_x16 q_0 (by decide)
            have i21_x_2 : iv_R 0 47 x_2 := ((i_x_2.cutLo (n := 0) (k18 c19).1).cutHi (n := 47) (k18 c19).2)
            refine lv_aload hx hb dX11_isSetForBell_84 (lv_at hl 0 rfl) ?_
            refine lv_iload_n hx hb dX11_isSetForBell_86 rfl (lv_at hl 4 rfl) ?_
            refine iv_puti X ft_X1 hB a_b8 sh_1 1 (by decide) rfl rfl k_fl_X11_128 rfl (i21_x_2.wk (by decide)) rfl rfl dX11_isSetForBell_87 (fun H locs hB => ?_)
            have hm := iv_Md.put (x := x_2) a_b8 (j := 1) (by decide) (by decide)
            have h9 := iv_up_eq (G := G) (a := b8) (k := (1, upd g_b8 1 x_2, r_b8))
            generalize iv_up G b8 _ = G23 at hB hm h9
            have hM := hM.stp hm (by decide)
            generalize hgn_g24 : upd g_b8 _ _ = g24 at h9
            have a_h0 := hm.at a_h0 (by decide)
            have a_b8 := h9
            have e9_g24 : x_2 = g24 1 := by rw [← hgn_g24]; simp [upd]
            refine lv_iconst (v := 1) hx hb dX11_isSetForBell_90 (by decide) ?_
            exact iv_zret X hr hlocks hB (q_1.wk (by decide)) ⟨hM, (q_1.wk (by decide)), fun _ => (i14_x_0.wk (by decide)), fun _ => i5_x_1, fun _ => (i21_x_2.wk (by decide))⟩ dX11_isSetForBell_91
      · skip
        have i24_x_0 : iv_R 4 4 x_0 := (i9_x_0.cutHi (n := 4) (iv_eq_r c11 q_4).2)
        refine lv_iload_n hx hb dX11_isSetForBell_52 rfl (lv_at hl 4 rfl) ?_
        refine lv_iconst (v := 0) hx hb dX11_isSetForBell_53 (by decide) ?_
        refine lv_iconst (v := 1) hx hb dX11_isSetForBell_54 (by decide) ?_
        refine iv_cSi X k_good k_mf_X11_isWithin k_st_X11_isWithin k_ml_X11_83 hB (As := [.int x_2, .int 0, .int 1]) (c_X11_isWithin l D tys base G x_2 i_x_2 0 (q_0.wk (by decide)) 1 (q_1.wk (by decide))) ⟨rfl, rfl⟩ ⟨Nat.le_of_ble_eq_true rfl, Nat.le_of_ble_eq_true rfl⟩ ⟨Nat.le_of_ble_eq_true rfl, Nat.le_of_ble_eq_true rfl⟩ rfl rfl hl.1 (Nat.le_of_ble_eq_true rfl) dX11_isSetForBell_55 (fun x26 G9 H locs hq hB => ?_)
        obtain ⟨rfl, i_x26, hp27⟩ := hq
        have k28 : ¬ x26 = 0 → iv_R 0 1 x_2 := fun h => ⟨iv_max i_x_2.1 (Int.le_trans q_0.1 (hp27.1 h).1) (by decide), iv_min i_x_2.2 (Int.le_trans (hp27.1 h).2 q_1.2) (by decide)⟩
        refine lv_if_eq (tgt := 69) hx hb dX11_isSetForBell_58 (by decide) (fun c29 => ?_) (fun c29 => ?_)
        · skip
          have i29_x26 : iv_R 0 0 x26 := (i_x26.cutHi (n := 0) (iv_eq_r c29 q_0).2)
          refine lv_iload_n hx hb dX11_isSetForBell_69 rfl (lv_at hl 2 rfl) ?_
          refine lv_iconst (v := 5) hx hb dX11_isSetForBell_70 (by decide) ?_
          refine lv_icmp_ne (tgt := 92) hx hb dX11_isSetForBell_71 (by decide) (fun c31 => ?_) (fun c31 => ?_)
          · skip
            refine lv_iconst (v := 0) hx hb dX11_isSetForBell_92 (by decide) ?_
            exact iv_zret X hr hlocks hB (q_0.wk (by decide)) ⟨hM, (q_0.wk (by decide)), fun _ => (i24_x_0.wk (by decide)), fun _ => i5_x_1, fun h => absurd (iv_z q_0) h⟩ dX11_isSetForBell_93
          · skip
            exact (i24_x_0.cutLo (n := 5) (iv_eq_r c31 q_5).1).no (by decide)
        · skip
          have i31_x26 : iv_R 1 1 x26 := iv_ne_lo c29 i_x26 q_0 (by decide)
          have i32_x_2 : iv_R 0 1 x_2 := ((i_x_2.cutLo (n := 0) (k28 c29).1).cutHi (n := 1) (k28 c29).2)
          refine lv_aload hx hb dX11_isSetForBell_61 (lv_at hl 0 rfl) ?_
          refine lv_iload_n hx hb dX11_isSetForBell_63 rfl (lv_at hl 4 rfl) ?_
          refine iv_puti X ft_X1 hB a_b8 sh_1 4 (by decide) rfl rfl k_fl_X11_125 rfl (i32_x_2.wk (by decide)) rfl rfl dX11_isSetForBell_64 (fun H locs hB => ?_)
          have hm := iv_Md.put (x := x_2) a_b8 (j := 4) (by decide) (by decide)
          have h9 := iv_up_eq (G := G) (a := b8) (k := (1, upd g_b8 4 x_2, r_b8))
          generalize iv_up G b8 _ = G34 at hB hm h9
          have hM := hM.stp hm (by decide)
          generalize hgn_g35 : upd g_b8 _ _ = g35 at h9
          have a_h0 := hm.at a_h0 (by decide)
          have a_b8 := h9
          have e9_g35 : x_2 = g35 4 := by rw [← hgn_g35]; simp [upd]
          refine lv_iconst (v := 1) hx hb dX11_isSetForBell_67 (by decide) ?_
          exact iv_zret X hr hlocks hB (q_1.wk (by decide)) ⟨hM, (q_1.wk (by decide)), fun _ => (i24_x_0.wk (by decide)), fun _ => i5_x_1, fun _ => (i32_x_2.wk (by decide))⟩ dX11_isSetForBell_68
    · skip
      have i35_x_0 : iv_R 3 3 x_0 := (i_x_0.cutHi (n := 3) (iv_eq_r c9 q_3).2)
      refine lv_iload_n hx hb dX11_isSetForBell_29 rfl (lv_at hl 4 rfl) ?_
      refine lv_iconst (v := 0) hx hb dX11_isSetForBell_30 (by decide) ?_
      refine lv_bipush (v := 99) hx hb dX11_isSetForBell_31 (by decide) ?_
      refine iv_cSi X k_good k_mf_X11_isWithin k_st_X11_isWithin k_ml_X11_83 hB (As := [.int x_2, .int 0, .int 99]) (c_X11_isWithin l D tys base G x_2 i_x_2 0 (q_0.wk (by decide)) 99 (q_99.wk (by decide))) ⟨rfl, rfl⟩ ⟨Nat.le_of_ble_eq_true rfl, Nat.le_of_ble_eq_true rfl⟩ ⟨Nat.le_of_ble_eq_true rfl, Nat.le_of_ble_eq_true rfl⟩ rfl rfl hl.1 (Nat.le_of_ble_eq_true rfl) dX11_isSetForBell_33 (fun x37 G9 H locs hq hB => ?_)
      obtain ⟨rfl, i_x37, hp38⟩ := hq
      have k39 : ¬ x37 = 0 → iv_R 0 99 x_2 := fun h => ⟨iv_max i_x_2.1 (Int.le_trans q_0.1 (hp38.1 h).1) (by decide), iv_min i_x_2.2 (Int.le_trans (hp38.1 h).2 q_99.2) (by decide)⟩
      refine lv_if_eq (tgt := 47) hx hb dX11_isSetForBell_36 (by decide) (fun c40 => ?_) (fun c40 => ?_)
      · skip
        have i40_x37 : iv_R 0 0 x37 := (i_x37.cutHi (n := 0) (iv_eq_r c40 q_0).2)
        refine lv_iload_n hx hb dX11_isSetForBell_47 rfl (lv_at hl 2 rfl) ?_
        refine lv_iconst (v := 4) hx hb dX11_isSetForBell_48 (by decide) ?_
        refine lv_icmp_ne (tgt := 69) hx hb dX11_isSetForBell_49 (by decide) (fun c42 => ?_) (fun c42 => ?_)
        · skip
          refine lv_iload_n hx hb dX11_isSetForBell_69 rfl (lv_at hl 2 rfl) ?_
          refine lv_iconst (v := 5) hx hb dX11_isSetForBell_70 (by decide) ?_
          refine lv_icmp_ne (tgt := 92) hx hb dX11_isSetForBell_71 (by decide) (fun c43 => ?_) (fun c43 => ?_)
          · skip
            refine lv_iconst (v := 0) hx hb dX11_isSetForBell_92 (by decide) ?_
            exact iv_zret X hr hlocks hB (q_0.wk (by decide)) ⟨hM, (q_0.wk (by decide)), fun _ => (i35_x_0.wk (by decide)), fun _ => i5_x_1, fun h => absurd (iv_z q_0) h⟩ dX11_isSetForBell_93
          · skip
            exact (i35_x_0.cutLo (n := 5) (iv_eq_r c43 q_5).1).no (by decide)
        · skip
          exact (i35_x_0.cutLo (n := 4) (iv_eq_r c42 q_4).1).no (by decide)
      · skip
        have i43_x37 : iv_R 1 1 x37 := iv_ne_lo c40 i_x37 q_0 (by decide)
        have i44_x_2 : iv_R 0 99 x_2 := ((i_x_2.cutLo (n := 0) (k39 c40).1).cutHi (n := 99) (k39 c40).2)
        refine lv_aload hx hb dX11_isSetForBell_39 (lv_at hl 0 rfl) ?_
        refine lv_iload_n hx hb dX11_isSetForBell_41 rfl (lv_at hl 4 rfl) ?_
        refine iv_puti X ft_X1 hB a_b8 sh_1 3 (by decide) rfl rfl k_fl_X11_122 rfl (i44_x_2.wk (by decide)) rfl rfl dX11_isSetForBell_42 (fun H locs hB => ?_)
        have hm := iv_Md.put (x := x_2) a_b8 (j := 3) (by decide) (by decide)
        have h9 := iv_up_eq (G := G) (a := b8) (k := (1, upd g_b8 3 x_2, r_b8))
        generalize iv_up G b8 _ = G46 at hB hm h9
        have hM := hM.stp hm (by decide)
        generalize hgn_g47 : upd g_b8 _ _ = g47 at h9
        have a_h0 := hm.at a_h0 (by decide)
        have a_b8 := h9
        have e9_g47 : x_2 = g47 3 := by rw [← hgn_g47]; simp [upd]
        refine lv_iconst (v := 1) hx hb dX11_isSetForBell_45 (by decide) ?_
        exact iv_zret X hr hlocks hB (q_1.wk (by decide)) ⟨hM, (q_1.wk (by decide)), fun _ => (i35_x_0.wk (by decide)), fun _ => i5_x_1, fun _ => i44_x_2⟩ dX11_isSetForBell_46
  · skip
    have i47_x2 : iv_R 0 0 x2 := (i_x2.cutHi (n := 0) (iv_eq_r c4 q_0).2)
    refine lv_iconst (v := 0) hx hb dX11_isSetForBell_11 (by decide) ?_
    exact iv_zret X hr hlocks hB (q_0.wk (by decide)) ⟨hM, (q_0.wk (by decide)), fun h => absurd (iv_z q_0) h, fun h => absurd (iv_z q_0) h, fun h => absurd (iv_z q_0) h⟩ dX11_isSetForBell_12
theorem dX11_look_0 : decode cX11_look 0 = .ok (.iload_n 1, 1) := by decide +kernel
theorem dX11_look_1 : decode cX11_look 1 = .ok (.bipush 20, 2) := by decide +kernel
theorem dX11_look_3 : decode cX11_look 3 = .ok (.bipush 35, 2) := by decide +kernel
theorem dX11_look_5 : decode cX11_look 5 = .ok (.invokestatic 83, 3) := by decide +kernel
theorem dX11_look_8 : decode cX11_look 8 = .ok (.ifCond .eq 16, 3) := by decide +kernel
theorem dX11_look_11 : decode cX11_look 11 = .ok (.aload_n 0, 1) := by decide +kernel
theorem dX11_look_12 : decode cX11_look 12 = .ok (.getfield 12, 3) := by decide +kernel
theorem dX11_look_15 : decode cX11_look 15 = .ok (.getfield 87, 3) := by decide +kernel
theorem dX11_look_18 : decode cX11_look 18 = .ok (.iload_n 1, 1) := by decide +kernel
theorem dX11_look_19 : decode cX11_look 19 = .ok (.bipush 20, 2) := by decide +kernel
theorem dX11_look_21 : decode cX11_look 21 = .ok (.isub, 1) := by decide +kernel
theorem dX11_look_22 : decode cX11_look 22 = .ok (.iaload, 1) := by decide +kernel
theorem dX11_look_23 : decode cX11_look 23 = .ok (.ireturn, 1) := by decide +kernel
theorem dX11_look_24 : decode cX11_look 24 = .ok (.iload_n 1, 1) := by decide +kernel
theorem dX11_look_25 : decode cX11_look 25 = .ok (.tableswitch 186 0 12 #[67, 75, 86, 94, 102, 110, 118, 129, 137, 145, 156, 167, 178], 67) := by decide +kernel
theorem dX11_look_92 : decode cX11_look 92 = .ok (.aload_n 0, 1) := by decide +kernel
theorem dX11_look_93 : decode cX11_look 93 = .ok (.getfield 12, 3) := by decide +kernel
theorem dX11_look_96 : decode cX11_look 96 = .ok (.getfield 90, 3) := by decide +kernel
theorem dX11_look_99 : decode cX11_look 99 = .ok (.ireturn, 1) := by decide +kernel
theorem dX11_look_100 : decode cX11_look 100 = .ok (.aload_n 0, 1) := by decide +kernel
theorem dX11_look_101 : decode cX11_look 101 = .ok (.getfield 12, 3) := by decide +kernel
theorem dX11_look_104 : decode cX11_look 104 = .ok (.getfield 152, 3) := by decide +kernel
theorem dX11_look_107 : decode cX11_look 107 = .ok (.getfield 166, 3) := by decide +kernel
theorem dX11_look_110 : decode cX11_look 110 = .ok (.ireturn, 1) := by decide +kernel
theorem dX11_look_111 : decode cX11_look 111 = .ok (.aload_n 0, 1) := by decide +kernel
theorem dX11_look_112 : decode cX11_look 112 = .ok (.getfield 12, 3) := by decide +kernel
theorem dX11_look_115 : decode cX11_look 115 = .ok (.getfield 141, 3) := by decide +kernel
theorem dX11_look_118 : decode cX11_look 118 = .ok (.ireturn, 1) := by decide +kernel
theorem dX11_look_119 : decode cX11_look 119 = .ok (.aload_n 0, 1) := by decide +kernel
theorem dX11_look_120 : decode cX11_look 120 = .ok (.getfield 12, 3) := by decide +kernel
theorem dX11_look_123 : decode cX11_look 123 = .ok (.getfield 110, 3) := by decide +kernel
theorem dX11_look_126 : decode cX11_look 126 = .ok (.ireturn, 1) := by decide +kernel
theorem dX11_look_127 : decode cX11_look 127 = .ok (.aload_n 0, 1) := by decide +kernel
theorem dX11_look_128 : decode cX11_look 128 = .ok (.getfield 12, 3) := by decide +kernel
theorem dX11_look_131 : decode cX11_look 131 = .ok (.getfield 113, 3) := by decide +kernel
theorem dX11_look_134 : decode cX11_look 134 = .ok (.ireturn, 1) := by decide +kernel
theorem dX11_look_135 : decode cX11_look 135 = .ok (.aload_n 0, 1) := by decide +kernel
theorem dX11_look_136 : decode cX11_look 136 = .ok (.getfield 12, 3) := by decide +kernel
theorem dX11_look_139 : decode cX11_look 139 = .ok (.getfield 116, 3) := by decide +kernel
theorem dX11_look_142 : decode cX11_look 142 = .ok (.ireturn, 1) := by decide +kernel
theorem dX11_look_143 : decode cX11_look 143 = .ok (.aload_n 0, 1) := by decide +kernel
theorem dX11_look_144 : decode cX11_look 144 = .ok (.getfield 12, 3) := by decide +kernel
theorem dX11_look_147 : decode cX11_look 147 = .ok (.getfield 137, 3) := by decide +kernel
theorem dX11_look_150 : decode cX11_look 150 = .ok (.getfield 166, 3) := by decide +kernel
theorem dX11_look_153 : decode cX11_look 153 = .ok (.ireturn, 1) := by decide +kernel
theorem dX11_look_154 : decode cX11_look 154 = .ok (.aload_n 0, 1) := by decide +kernel
theorem dX11_look_155 : decode cX11_look 155 = .ok (.getfield 12, 3) := by decide +kernel
theorem dX11_look_158 : decode cX11_look 158 = .ok (.getfield 72, 3) := by decide +kernel
theorem dX11_look_161 : decode cX11_look 161 = .ok (.ireturn, 1) := by decide +kernel
theorem dX11_look_162 : decode cX11_look 162 = .ok (.aload_n 0, 1) := by decide +kernel
theorem dX11_look_163 : decode cX11_look 163 = .ok (.getfield 12, 3) := by decide +kernel
theorem dX11_look_166 : decode cX11_look 166 = .ok (.getfield 208, 3) := by decide +kernel
theorem dX11_look_169 : decode cX11_look 169 = .ok (.ireturn, 1) := by decide +kernel
theorem dX11_look_170 : decode cX11_look 170 = .ok (.aload_n 0, 1) := by decide +kernel
theorem dX11_look_171 : decode cX11_look 171 = .ok (.getfield 12, 3) := by decide +kernel
theorem dX11_look_174 : decode cX11_look 174 = .ok (.getfield 231, 3) := by decide +kernel
theorem dX11_look_177 : decode cX11_look 177 = .ok (.getfield 376, 3) := by decide +kernel
theorem dX11_look_180 : decode cX11_look 180 = .ok (.ireturn, 1) := by decide +kernel
theorem dX11_look_181 : decode cX11_look 181 = .ok (.aload_n 0, 1) := by decide +kernel
theorem dX11_look_182 : decode cX11_look 182 = .ok (.getfield 12, 3) := by decide +kernel
theorem dX11_look_185 : decode cX11_look 185 = .ok (.getfield 235, 3) := by decide +kernel
theorem dX11_look_188 : decode cX11_look 188 = .ok (.getfield 376, 3) := by decide +kernel
theorem dX11_look_191 : decode cX11_look 191 = .ok (.ireturn, 1) := by decide +kernel
theorem dX11_look_192 : decode cX11_look 192 = .ok (.aload_n 0, 1) := by decide +kernel
theorem dX11_look_193 : decode cX11_look 193 = .ok (.getfield 12, 3) := by decide +kernel
theorem dX11_look_196 : decode cX11_look 196 = .ok (.getfield 346, 3) := by decide +kernel
theorem dX11_look_199 : decode cX11_look 199 = .ok (.getfield 166, 3) := by decide +kernel
theorem dX11_look_202 : decode cX11_look 202 = .ok (.ireturn, 1) := by decide +kernel
theorem dX11_look_203 : decode cX11_look 203 = .ok (.aload_n 0, 1) := by decide +kernel
theorem dX11_look_204 : decode cX11_look 204 = .ok (.getfield 22, 3) := by decide +kernel
theorem dX11_look_207 : decode cX11_look 207 = .ok (.getfield 377, 3) := by decide +kernel
theorem dX11_look_210 : decode cX11_look 210 = .ok (.ireturn, 1) := by decide +kernel
theorem dX11_look_211 : decode cX11_look 211 = .ok (.iconst (-1), 1) := by decide +kernel
theorem dX11_look_212 : decode cX11_look 212 = .ok (.ireturn, 1) := by decide +kernel
set_option maxHeartbeats 4000000 in
set_option maxRecDepth 100000 in
theorem c_X11_look (l : Launch) (D : va_G) (tys : List (ClassId × FieldType)) (base : Nat) (G : iv_G) (h0 : Nat) (g_h0 : Nat → Int32) (r_h0 : Nat → Nat) (a_h0 : G h0 = some (11, g_h0, r_h0)) (x_0 : Int32) (i_x_0 : iv_R (-2147483648) 2147483647 x_0) : Met l yX11_look (Cond.code yX11_look cX11_look 2 (some .int) :: iv_W0) ({ frames := 1, cells := 0, slots := 0, locals := 22 }) (iv_Pc iv_sh D classes tys base G [.ref h0, .int x_0]) (iv_Qi iv_sh D classes tys base (fun v G' => G = G' ∧ iv_R (-2147483648) 2147483647 v)) 0 0 (iv_A base) := by
  refine iv_head (by decide) (Nat.le_of_ble_eq_true rfl) ?_
  intro p e s m args below meth c ls X hr hlocks hname hB hl
  have X := X
  have hx := X.1.1
  have hb := X.1.2.1
  have hl : lv_has ls 2 [(0, .ref h0), (1, .int x_0)] := hl
  refine lv_iload_n hx hb dX11_look_0 rfl (lv_at hl 1 rfl) ?_
  refine lv_bipush (v := 20) hx hb dX11_look_1 (by decide) ?_
  refine lv_bipush (v := 35) hx hb dX11_look_3 (by decide) ?_
  refine iv_cSi X k_good k_mf_X11_isWithin k_st_X11_isWithin k_ml_X11_83 hB (As := [.int x_0, .int 20, .int 35]) (c_X11_isWithin l D tys base G x_0 i_x_0 20 (q_20.wk (by decide)) 35 (q_35.wk (by decide))) ⟨rfl, rfl⟩ ⟨Nat.le_of_ble_eq_true rfl, Nat.le_of_ble_eq_true rfl⟩ ⟨Nat.le_of_ble_eq_true rfl, Nat.le_of_ble_eq_true rfl⟩ rfl rfl hl.1 (Nat.le_of_ble_eq_true rfl) dX11_look_5 (fun x1 G9 H locs hq hB => ?_)
  obtain ⟨rfl, i_x1, hp2⟩ := hq
  have k3 : ¬ x1 = 0 → iv_R 20 35 x_0 := fun h => ⟨iv_max i_x_0.1 (Int.le_trans q_20.1 (hp2.1 h).1) (by decide), iv_min i_x_0.2 (Int.le_trans (hp2.1 h).2 q_35.2) (by decide)⟩
  refine lv_if_eq (tgt := 24) hx hb dX11_look_8 (by decide) (fun c4 => ?_) (fun c4 => ?_)
  · skip
    have i4_x1 : iv_R 0 0 x1 := (i_x1.cutHi (n := 0) (iv_eq_r c4 q_0).2)
    refine lv_iload_n hx hb dX11_look_24 rfl (lv_at hl 1 rfl) ?_
    by_cases w6 : x_0.toInt = 0
    · skip
      refine lv_tableIn (tgt := 92) hx hb dX11_look_25 (by omega) (by omega) (by rw [w6]; rfl) (by decide) ?_
      have w6i : iv_R 0 0 x_0 := iv_lit w6
      refine lv_aload_n hx hb dX11_look_92 rfl (lv_at hl 0 rfl) ?_
      refine iv_getr X ft_X11 hB a_h0 sh_11 0 (by decide) rfl k_fl_X11_12 dX11_look_93 (fun b7 g_b7 r_b7 e_b7 a_b7 => ?_)
      refine iv_geti X ft_X5 hB a_b7 sh_5 1 (by decide) rfl k_fl_X11_90 dX11_look_96 (fun x8 e_x8 i_x8 => ?_)
      exact iv_iret X hr hlocks hB ⟨rfl, (i_x8.wk (by decide))⟩ dX11_look_99
    skip
    by_cases w9 : x_0.toInt = 1
    · skip
      refine lv_tableIn (tgt := 100) hx hb dX11_look_25 (by omega) (by omega) (by rw [w9]; rfl) (by decide) ?_
      have w9i : iv_R 1 1 x_0 := iv_lit w9
      refine lv_aload_n hx hb dX11_look_100 rfl (lv_at hl 0 rfl) ?_
      refine iv_getr X ft_X11 hB a_h0 sh_11 0 (by decide) rfl k_fl_X11_12 dX11_look_101 (fun b10 g_b10 r_b10 e_b10 a_b10 => ?_)
      refine iv_getr X ft_X5 hB a_b10 sh_5 8 (by decide) rfl k_fl_X11_152 dX11_look_104 (fun b11 g_b11 r_b11 e_b11 a_b11 => ?_)
      refine iv_geti X ft_X8 hB a_b11 sh_8 2 (by decide) rfl k_fl_X11_166 dX11_look_107 (fun x12 e_x12 i_x12 => ?_)
      exact iv_iret X hr hlocks hB ⟨rfl, (i_x12.wk (by decide))⟩ dX11_look_110
    skip
    by_cases w13 : x_0.toInt = 2
    · skip
      refine lv_tableIn (tgt := 111) hx hb dX11_look_25 (by omega) (by omega) (by rw [w13]; rfl) (by decide) ?_
      have w13i : iv_R 2 2 x_0 := iv_lit w13
      refine lv_aload_n hx hb dX11_look_111 rfl (lv_at hl 0 rfl) ?_
      refine iv_getr X ft_X11 hB a_h0 sh_11 0 (by decide) rfl k_fl_X11_12 dX11_look_112 (fun b14 g_b14 r_b14 e_b14 a_b14 => ?_)
      refine iv_geti X ft_X5 hB a_b14 sh_5 6 (by decide) rfl k_fl_X11_141 dX11_look_115 (fun x15 e_x15 i_x15 => ?_)
      exact iv_iret X hr hlocks hB ⟨rfl, i_x15⟩ dX11_look_118
    skip
    by_cases w16 : x_0.toInt = 3
    · skip
      refine lv_tableIn (tgt := 119) hx hb dX11_look_25 (by omega) (by omega) (by rw [w16]; rfl) (by decide) ?_
      have w16i : iv_R 3 3 x_0 := iv_lit w16
      refine lv_aload_n hx hb dX11_look_119 rfl (lv_at hl 0 rfl) ?_
      refine iv_getr X ft_X11 hB a_h0 sh_11 0 (by decide) rfl k_fl_X11_12 dX11_look_120 (fun b17 g_b17 r_b17 e_b17 a_b17 => ?_)
      refine iv_geti X ft_X5 hB a_b17 sh_5 3 (by decide) rfl k_fl_X11_110 dX11_look_123 (fun x18 e_x18 i_x18 => ?_)
      exact iv_iret X hr hlocks hB ⟨rfl, i_x18⟩ dX11_look_126
    skip
    by_cases w19 : x_0.toInt = 4
    · skip
      refine lv_tableIn (tgt := 127) hx hb dX11_look_25 (by omega) (by omega) (by rw [w19]; rfl) (by decide) ?_
      have w19i : iv_R 4 4 x_0 := iv_lit w19
      refine lv_aload_n hx hb dX11_look_127 rfl (lv_at hl 0 rfl) ?_
      refine iv_getr X ft_X11 hB a_h0 sh_11 0 (by decide) rfl k_fl_X11_12 dX11_look_128 (fun b20 g_b20 r_b20 e_b20 a_b20 => ?_)
      refine iv_geti X ft_X5 hB a_b20 sh_5 4 (by decide) rfl k_fl_X11_113 dX11_look_131 (fun x21 e_x21 i_x21 => ?_)
      exact iv_iret X hr hlocks hB ⟨rfl, i_x21⟩ dX11_look_134
    skip
    by_cases w22 : x_0.toInt = 5
    · skip
      refine lv_tableIn (tgt := 135) hx hb dX11_look_25 (by omega) (by omega) (by rw [w22]; rfl) (by decide) ?_
      have w22i : iv_R 5 5 x_0 := iv_lit w22
      refine lv_aload_n hx hb dX11_look_135 rfl (lv_at hl 0 rfl) ?_
      refine iv_getr X ft_X11 hB a_h0 sh_11 0 (by decide) rfl k_fl_X11_12 dX11_look_136 (fun b23 g_b23 r_b23 e_b23 a_b23 => ?_)
      refine iv_geti X ft_X5 hB a_b23 sh_5 5 (by decide) rfl k_fl_X11_116 dX11_look_139 (fun x24 e_x24 i_x24 => ?_)
      exact iv_iret X hr hlocks hB ⟨rfl, i_x24⟩ dX11_look_142
    skip
    by_cases w25 : x_0.toInt = 6
    · skip
      refine lv_tableIn (tgt := 143) hx hb dX11_look_25 (by omega) (by omega) (by rw [w25]; rfl) (by decide) ?_
      have w25i : iv_R 6 6 x_0 := iv_lit w25
      refine lv_aload_n hx hb dX11_look_143 rfl (lv_at hl 0 rfl) ?_
      refine iv_getr X ft_X11 hB a_h0 sh_11 0 (by decide) rfl k_fl_X11_12 dX11_look_144 (fun b26 g_b26 r_b26 e_b26 a_b26 => ?_)
      refine iv_getr X ft_X5 hB a_b26 sh_5 9 (by decide) rfl k_fl_X11_137 dX11_look_147 (fun b27 g_b27 r_b27 e_b27 a_b27 => ?_)
      refine iv_geti X ft_X8 hB a_b27 sh_13 2 (by decide) rfl k_fl_X11_166 dX11_look_150 (fun x28 e_x28 i_x28 => ?_)
      exact iv_iret X hr hlocks hB ⟨rfl, (i_x28.wk (by decide))⟩ dX11_look_153
    skip
    by_cases w29 : x_0.toInt = 7
    · skip
      refine lv_tableIn (tgt := 154) hx hb dX11_look_25 (by omega) (by omega) (by rw [w29]; rfl) (by decide) ?_
      have w29i : iv_R 7 7 x_0 := iv_lit w29
      refine lv_aload_n hx hb dX11_look_154 rfl (lv_at hl 0 rfl) ?_
      refine iv_getr X ft_X11 hB a_h0 sh_11 0 (by decide) rfl k_fl_X11_12 dX11_look_155 (fun b30 g_b30 r_b30 e_b30 a_b30 => ?_)
      refine iv_geti X ft_X5 hB a_b30 sh_5 7 (by decide) rfl k_fl_X11_72 dX11_look_158 (fun x31 e_x31 i_x31 => ?_)
      exact iv_iret X hr hlocks hB ⟨rfl, i_x31⟩ dX11_look_161
    skip
    by_cases w32 : x_0.toInt = 8
    · skip
      refine lv_tableIn (tgt := 162) hx hb dX11_look_25 (by omega) (by omega) (by rw [w32]; rfl) (by decide) ?_
      have w32i : iv_R 8 8 x_0 := iv_lit w32
      refine lv_aload_n hx hb dX11_look_162 rfl (lv_at hl 0 rfl) ?_
      refine iv_getr X ft_X11 hB a_h0 sh_11 0 (by decide) rfl k_fl_X11_12 dX11_look_163 (fun b33 g_b33 r_b33 e_b33 a_b33 => ?_)
      refine iv_geti X ft_X5 hB a_b33 sh_5 12 (by decide) rfl k_fl_X11_208 dX11_look_166 (fun x34 e_x34 i_x34 => ?_)
      exact iv_iret X hr hlocks hB ⟨rfl, i_x34⟩ dX11_look_169
    skip
    by_cases w35 : x_0.toInt = 9
    · skip
      refine lv_tableIn (tgt := 170) hx hb dX11_look_25 (by omega) (by omega) (by rw [w35]; rfl) (by decide) ?_
      have w35i : iv_R 9 9 x_0 := iv_lit w35
      refine lv_aload_n hx hb dX11_look_170 rfl (lv_at hl 0 rfl) ?_
      refine iv_getr X ft_X11 hB a_h0 sh_11 0 (by decide) rfl k_fl_X11_12 dX11_look_171 (fun b36 g_b36 r_b36 e_b36 a_b36 => ?_)
      refine iv_getr X ft_X5 hB a_b36 sh_5 13 (by decide) rfl k_fl_X11_231 dX11_look_174 (fun b37 g_b37 r_b37 e_b37 a_b37 => ?_)
      refine iv_geti X ft_X3 hB a_b37 sh_3 0 (by decide) rfl k_fl_X11_376 dX11_look_177 (fun x38 e_x38 _ => ?_)
      have i_x38 := iv_R.all x38
      exact iv_iret X hr hlocks hB ⟨rfl, i_x38⟩ dX11_look_180
    skip
    by_cases w39 : x_0.toInt = 10
    · skip
      refine lv_tableIn (tgt := 181) hx hb dX11_look_25 (by omega) (by omega) (by rw [w39]; rfl) (by decide) ?_
      have w39i : iv_R 10 10 x_0 := iv_lit w39
      refine lv_aload_n hx hb dX11_look_181 rfl (lv_at hl 0 rfl) ?_
      refine iv_getr X ft_X11 hB a_h0 sh_11 0 (by decide) rfl k_fl_X11_12 dX11_look_182 (fun b40 g_b40 r_b40 e_b40 a_b40 => ?_)
      refine iv_getr X ft_X5 hB a_b40 sh_5 14 (by decide) rfl k_fl_X11_235 dX11_look_185 (fun b41 g_b41 r_b41 e_b41 a_b41 => ?_)
      refine iv_geti X ft_X3 hB a_b41 sh_3 0 (by decide) rfl k_fl_X11_376 dX11_look_188 (fun x42 e_x42 _ => ?_)
      have i_x42 := iv_R.all x42
      exact iv_iret X hr hlocks hB ⟨rfl, i_x42⟩ dX11_look_191
    skip
    by_cases w43 : x_0.toInt = 11
    · skip
      refine lv_tableIn (tgt := 192) hx hb dX11_look_25 (by omega) (by omega) (by rw [w43]; rfl) (by decide) ?_
      have w43i : iv_R 11 11 x_0 := iv_lit w43
      refine lv_aload_n hx hb dX11_look_192 rfl (lv_at hl 0 rfl) ?_
      refine iv_getr X ft_X11 hB a_h0 sh_11 0 (by decide) rfl k_fl_X11_12 dX11_look_193 (fun b44 g_b44 r_b44 e_b44 a_b44 => ?_)
      refine iv_getr X ft_X5 hB a_b44 sh_5 10 (by decide) rfl k_fl_X11_346 dX11_look_196 (fun b45 g_b45 r_b45 e_b45 a_b45 => ?_)
      refine iv_geti X ft_X8 hB a_b45 sh_14 2 (by decide) rfl k_fl_X11_166 dX11_look_199 (fun x46 e_x46 i_x46 => ?_)
      exact iv_iret X hr hlocks hB ⟨rfl, (i_x46.wk (by decide))⟩ dX11_look_202
    skip
    by_cases w47 : x_0.toInt = 12
    · skip
      refine lv_tableIn (tgt := 203) hx hb dX11_look_25 (by omega) (by omega) (by rw [w47]; rfl) (by decide) ?_
      have w47i : iv_R 12 12 x_0 := iv_lit w47
      refine lv_aload_n hx hb dX11_look_203 rfl (lv_at hl 0 rfl) ?_
      refine iv_getr X ft_X11 hB a_h0 sh_11 3 (by decide) rfl k_fl_X11_22 dX11_look_204 (fun b48 g_b48 r_b48 e_b48 a_b48 => ?_)
      refine iv_geti X ft_X6 hB a_b48 sh_6 2 (by decide) rfl k_fl_X11_377 dX11_look_207 (fun x49 e_x49 i_x49 => ?_)
      exact iv_iret X hr hlocks hB ⟨rfl, i_x49⟩ dX11_look_210
    skip
    refine lv_tableOut (tgt := 211) hx hb dX11_look_25 (by have := i_x_0.1; have := i_x_0.2; omega) (by decide) ?_
    refine lv_iconst (v := (-1)) hx hb dX11_look_211 (by decide) ?_
    exact iv_iret X hr hlocks hB ⟨rfl, (q_n1.wk (by decide))⟩ dX11_look_212
  · skip
    have i49_x1 : iv_R 1 1 x1 := iv_ne_lo c4 i_x1 q_0 (by decide)
    have i50_x_0 : iv_R 20 35 x_0 := ((i_x_0.cutLo (n := 20) (k3 c4).1).cutHi (n := 35) (k3 c4).2)
    refine lv_aload_n hx hb dX11_look_11 rfl (lv_at hl 0 rfl) ?_
    refine iv_getr X ft_X11 hB a_h0 sh_11 0 (by decide) rfl k_fl_X11_12 dX11_look_12 (fun b52 g_b52 r_b52 e_b52 a_b52 => ?_)
    refine iv_getr X ft_X5 hB a_b52 sh_5 2 (by decide) rfl k_fl_X11_87 dX11_look_15 (fun b53 g_b53 r_b53 e_b53 a_b53 => ?_)
    refine lv_iload_n hx hb dX11_look_18 rfl (lv_at hl 1 rfl) ?_
    refine lv_bipush (v := 20) hx hb dX11_look_19 (by decide) ?_
    refine iv_isub hx hb i50_x_0 q_20 (lo := 0) (hi := 15) (by decide) dX11_look_21 (fun x54 e_x54 i_x54 => ?_)
    refine iv_ald X hB a_b53 sh_20 (iv_in i_x54 (by decide)) dX11_look_22 (fun x55 e_x55 i_x55 => ?_)
    exact iv_iret X hr hlocks hB ⟨rfl, i_x55⟩ dX11_look_23
theorem dX11_louder_0 : decode cX11_louder 0 = .ok (.iload_n 1, 1) := by decide +kernel
theorem dX11_louder_1 : decode cX11_louder 1 = .ok (.iconst 0, 1) := by decide +kernel
theorem dX11_louder_2 : decode cX11_louder 2 = .ok (.sipush 999, 3) := by decide +kernel
theorem dX11_louder_5 : decode cX11_louder 5 = .ok (.invokestatic 83, 3) := by decide +kernel
theorem dX11_louder_8 : decode cX11_louder 8 = .ok (.ifCond .eq 40, 3) := by decide +kernel
theorem dX11_louder_11 : decode cX11_louder 11 = .ok (.iload_n 2, 1) := by decide +kernel
theorem dX11_louder_12 : decode cX11_louder 12 = .ok (.iconst 0, 1) := by decide +kernel
theorem dX11_louder_13 : decode cX11_louder 13 = .ok (.sipush 999, 3) := by decide +kernel
theorem dX11_louder_16 : decode cX11_louder 16 = .ok (.invokestatic 83, 3) := by decide +kernel
theorem dX11_louder_19 : decode cX11_louder 19 = .ok (.ifCond .eq 29, 3) := by decide +kernel
theorem dX11_louder_22 : decode cX11_louder 22 = .ok (.iload_n 3, 1) := by decide +kernel
theorem dX11_louder_23 : decode cX11_louder 23 = .ok (.iconst 0, 1) := by decide +kernel
theorem dX11_louder_24 : decode cX11_louder 24 = .ok (.bipush 9, 2) := by decide +kernel
theorem dX11_louder_26 : decode cX11_louder 26 = .ok (.invokestatic 83, 3) := by decide +kernel
theorem dX11_louder_29 : decode cX11_louder 29 = .ok (.ifCond .eq 19, 3) := by decide +kernel
theorem dX11_louder_32 : decode cX11_louder 32 = .ok (.iload 4, 2) := by decide +kernel
theorem dX11_louder_34 : decode cX11_louder 34 = .ok (.iconst 0, 1) := by decide +kernel
theorem dX11_louder_35 : decode cX11_louder 35 = .ok (.sipush 999, 3) := by decide +kernel
theorem dX11_louder_38 : decode cX11_louder 38 = .ok (.invokestatic 83, 3) := by decide +kernel
theorem dX11_louder_41 : decode cX11_louder 41 = .ok (.ifCond .eq 7, 3) := by decide +kernel
theorem dX11_louder_44 : decode cX11_louder 44 = .ok (.iconst 1, 1) := by decide +kernel
theorem dX11_louder_45 : decode cX11_louder 45 = .ok (.goto 4, 3) := by decide +kernel
theorem dX11_louder_48 : decode cX11_louder 48 = .ok (.iconst 0, 1) := by decide +kernel
theorem dX11_louder_49 : decode cX11_louder 49 = .ok (.istore 7, 2) := by decide +kernel
theorem dX11_louder_51 : decode cX11_louder 51 = .ok (.iload 7, 2) := by decide +kernel
theorem dX11_louder_53 : decode cX11_louder 53 = .ok (.ifCond .eq 30, 3) := by decide +kernel
theorem dX11_louder_56 : decode cX11_louder 56 = .ok (.iload 6, 2) := by decide +kernel
theorem dX11_louder_58 : decode cX11_louder 58 = .ok (.iconst 0, 1) := by decide +kernel
theorem dX11_louder_59 : decode cX11_louder 59 = .ok (.iconst 2, 1) := by decide +kernel
theorem dX11_louder_60 : decode cX11_louder 60 = .ok (.invokestatic 83, 3) := by decide +kernel
theorem dX11_louder_63 : decode cX11_louder 63 = .ok (.ifCond .eq 20, 3) := by decide +kernel
theorem dX11_louder_66 : decode cX11_louder 66 = .ok (.iload 6, 2) := by decide +kernel
theorem dX11_louder_68 : decode cX11_louder 68 = .ok (.iconst 2, 1) := by decide +kernel
theorem dX11_louder_69 : decode cX11_louder 69 = .ok (.if_icmp .eq 16, 3) := by decide +kernel
theorem dX11_louder_72 : decode cX11_louder 72 = .ok (.iload 5, 2) := by decide +kernel
theorem dX11_louder_74 : decode cX11_louder 74 = .ok (.iconst 0, 1) := by decide +kernel
theorem dX11_louder_75 : decode cX11_louder 75 = .ok (.bipush 60, 2) := by decide +kernel
theorem dX11_louder_77 : decode cX11_louder 77 = .ok (.invokestatic 83, 3) := by decide +kernel
theorem dX11_louder_80 : decode cX11_louder 80 = .ok (.ifCond .ne 5, 3) := by decide +kernel
theorem dX11_louder_83 : decode cX11_louder 83 = .ok (.iconst (-1), 1) := by decide +kernel
theorem dX11_louder_84 : decode cX11_louder 84 = .ok (.ireturn, 1) := by decide +kernel
theorem dX11_louder_85 : decode cX11_louder 85 = .ok (.iload 6, 2) := by decide +kernel
theorem dX11_louder_87 : decode cX11_louder 87 = .ok (.iconst 2, 1) := by decide +kernel
theorem dX11_louder_88 : decode cX11_louder 88 = .ok (.if_icmp .ne 8, 3) := by decide +kernel
theorem dX11_louder_91 : decode cX11_louder 91 = .ok (.bipush 60, 2) := by decide +kernel
theorem dX11_louder_93 : decode cX11_louder 93 = .ok (.goto 5, 3) := by decide +kernel
theorem dX11_louder_96 : decode cX11_louder 96 = .ok (.iload 5, 2) := by decide +kernel
theorem dX11_louder_98 : decode cX11_louder 98 = .ok (.istore 8, 2) := by decide +kernel
theorem dX11_louder_100 : decode cX11_louder 100 = .ok (.iload_n 1, 1) := by decide +kernel
theorem dX11_louder_101 : decode cX11_louder 101 = .ok (.istore 9, 2) := by decide +kernel
theorem dX11_louder_103 : decode cX11_louder 103 = .ok (.iload_n 2, 1) := by decide +kernel
theorem dX11_louder_104 : decode cX11_louder 104 = .ok (.istore 10, 2) := by decide +kernel
theorem dX11_louder_106 : decode cX11_louder 106 = .ok (.iconst 1, 1) := by decide +kernel
theorem dX11_louder_107 : decode cX11_louder 107 = .ok (.istore 11, 2) := by decide +kernel
theorem dX11_louder_109 : decode cX11_louder 109 = .ok (.iload 11, 2) := by decide +kernel
theorem dX11_louder_111 : decode cX11_louder 111 = .ok (.iload 8, 2) := by decide +kernel
theorem dX11_louder_113 : decode cX11_louder 113 = .ok (.if_icmp .gt 74, 3) := by decide +kernel
theorem dX11_louder_116 : decode cX11_louder 116 = .ok (.sipush 999, 3) := by decide +kernel
theorem dX11_louder_119 : decode cX11_louder 119 = .ok (.iload 4, 2) := by decide +kernel
theorem dX11_louder_121 : decode cX11_louder 121 = .ok (.iload_n 3, 1) := by decide +kernel
theorem dX11_louder_122 : decode cX11_louder 122 = .ok (.iload 10, 2) := by decide +kernel
theorem dX11_louder_124 : decode cX11_louder 124 = .ok (.imul, 1) := by decide +kernel
theorem dX11_louder_125 : decode cX11_louder 125 = .ok (.iconst 4, 1) := by decide +kernel
theorem dX11_louder_126 : decode cX11_louder 126 = .ok (.idiv, 1) := by decide +kernel
theorem dX11_louder_127 : decode cX11_louder 127 = .ok (.iadd, 1) := by decide +kernel
theorem dX11_louder_128 : decode cX11_louder 128 = .ok (.invokestatic 362, 3) := by decide +kernel
theorem dX11_louder_131 : decode cX11_louder 131 = .ok (.istore 12, 2) := by decide +kernel
theorem dX11_louder_133 : decode cX11_louder 133 = .ok (.sipush 999, 3) := by decide +kernel
theorem dX11_louder_136 : decode cX11_louder 136 = .ok (.iload 4, 2) := by decide +kernel
theorem dX11_louder_138 : decode cX11_louder 138 = .ok (.iload_n 3, 1) := by decide +kernel
theorem dX11_louder_139 : decode cX11_louder 139 = .ok (.iload 9, 2) := by decide +kernel
theorem dX11_louder_141 : decode cX11_louder 141 = .ok (.imul, 1) := by decide +kernel
theorem dX11_louder_142 : decode cX11_louder 142 = .ok (.iconst 4, 1) := by decide +kernel
theorem dX11_louder_143 : decode cX11_louder 143 = .ok (.idiv, 1) := by decide +kernel
theorem dX11_louder_144 : decode cX11_louder 144 = .ok (.iadd, 1) := by decide +kernel
theorem dX11_louder_145 : decode cX11_louder 145 = .ok (.invokestatic 362, 3) := by decide +kernel
theorem dX11_louder_148 : decode cX11_louder 148 = .ok (.istore 13, 2) := by decide +kernel
theorem dX11_louder_150 : decode cX11_louder 150 = .ok (.iload 6, 2) := by decide +kernel
theorem dX11_louder_152 : decode cX11_louder 152 = .ok (.iconst 2, 1) := by decide +kernel
theorem dX11_louder_153 : decode cX11_louder 153 = .ok (.if_icmp .ne 20, 3) := by decide +kernel
theorem dX11_louder_156 : decode cX11_louder 156 = .ok (.iload 12, 2) := by decide +kernel
theorem dX11_louder_158 : decode cX11_louder 158 = .ok (.iload 9, 2) := by decide +kernel
theorem dX11_louder_160 : decode cX11_louder 160 = .ok (.if_icmp .ne 13, 3) := by decide +kernel
theorem dX11_louder_163 : decode cX11_louder 163 = .ok (.iload 13, 2) := by decide +kernel
theorem dX11_louder_165 : decode cX11_louder 165 = .ok (.iload 10, 2) := by decide +kernel
theorem dX11_louder_167 : decode cX11_louder 167 = .ok (.if_icmp .ne 6, 3) := by decide +kernel
theorem dX11_louder_170 : decode cX11_louder 170 = .ok (.iload 11, 2) := by decide +kernel
theorem dX11_louder_172 : decode cX11_louder 172 = .ok (.ireturn, 1) := by decide +kernel
theorem dX11_louder_173 : decode cX11_louder 173 = .ok (.iload 12, 2) := by decide +kernel
theorem dX11_louder_175 : decode cX11_louder 175 = .ok (.istore 9, 2) := by decide +kernel
theorem dX11_louder_177 : decode cX11_louder 177 = .ok (.iload 13, 2) := by decide +kernel
theorem dX11_louder_179 : decode cX11_louder 179 = .ok (.istore 10, 2) := by decide +kernel
theorem dX11_louder_181 : decode cX11_louder 181 = .ok (.iinc 11 1, 3) := by decide +kernel
theorem dX11_louder_184 : decode cX11_louder 184 = .ok (.goto (-75), 3) := by decide +kernel
theorem dX11_louder_187 : decode cX11_louder 187 = .ok (.iload 6, 2) := by decide +kernel
theorem dX11_louder_189 : decode cX11_louder 189 = .ok (.iconst 2, 1) := by decide +kernel
theorem dX11_louder_190 : decode cX11_louder 190 = .ok (.if_icmp .ne 7, 3) := by decide +kernel
theorem dX11_louder_193 : decode cX11_louder 193 = .ok (.iconst (-1), 1) := by decide +kernel
theorem dX11_louder_194 : decode cX11_louder 194 = .ok (.goto 12, 3) := by decide +kernel
theorem dX11_louder_197 : decode cX11_louder 197 = .ok (.iload 6, 2) := by decide +kernel
theorem dX11_louder_199 : decode cX11_louder 199 = .ok (.iload 9, 2) := by decide +kernel
theorem dX11_louder_201 : decode cX11_louder 201 = .ok (.iload 10, 2) := by decide +kernel
theorem dX11_louder_203 : decode cX11_louder 203 = .ok (.invokestatic 282, 3) := by decide +kernel
theorem dX11_louder_206 : decode cX11_louder 206 = .ok (.ireturn, 1) := by decide +kernel
set_option maxHeartbeats 4000000 in
set_option maxRecDepth 100000 in
theorem c_X11_louder (l : Launch) (D : va_G) (tys : List (ClassId × FieldType)) (base : Nat) (G : iv_G) (h0 : Nat) (g_h0 : Nat → Int32) (r_h0 : Nat → Nat) (a_h0 : G h0 = some (11, g_h0, r_h0)) (x_0 : Int32) (i_x_0 : iv_R (-2147483648) 2147483647 x_0) (x_1 : Int32) (i_x_1 : iv_R (-2147483648) 2147483647 x_1) (x_2 : Int32) (i_x_2 : iv_R (-2147483648) 2147483647 x_2) (x_3 : Int32) (i_x_3 : iv_R (-2147483648) 2147483647 x_3) (x_4 : Int32) (i_x_4 : iv_R (-2147483648) 2147483647 x_4) (x_5 : Int32) (i_x_5 : iv_R (-2147483648) 2147483647 x_5) : Met l yX11_louder (Cond.code yX11_louder cX11_louder 14 (some .int) :: iv_W0) ({ frames := 1, cells := 0, slots := 0, locals := 22 }) (iv_Pc iv_sh D classes tys base G [.ref h0, .int x_0, .int x_1, .int x_2, .int x_3, .int x_4, .int x_5]) (iv_Qi iv_sh D classes tys base (fun v G' => G = G' ∧ iv_R (-2147483648) 2147483647 v)) 0 0 (iv_A base) := by
  refine iv_head (by decide) (Nat.le_of_ble_eq_true rfl) ?_
  intro p e s m args below meth c ls X hr hlocks hname hB hl
  have X := X
  have hx := X.1.1
  have hb := X.1.2.1
  have hl : lv_has ls 14 [(0, .ref h0), (1, .int x_0), (2, .int x_1), (3, .int x_2), (4, .int x_3), (5, .int x_4), (6, .int x_5)] := hl
  refine lv_iload_n hx hb dX11_louder_0 rfl (lv_at hl 1 rfl) ?_
  refine lv_iconst (v := 0) hx hb dX11_louder_1 (by decide) ?_
  refine lv_sipush (v := 999) hx hb dX11_louder_2 (by decide) ?_
  refine iv_cSi X k_good k_mf_X11_isWithin k_st_X11_isWithin k_ml_X11_83 hB (As := [.int x_0, .int 0, .int 999]) (c_X11_isWithin l D tys base G x_0 i_x_0 0 (q_0.wk (by decide)) 999 (q_999.wk (by decide))) ⟨rfl, rfl⟩ ⟨Nat.le_of_ble_eq_true rfl, Nat.le_of_ble_eq_true rfl⟩ ⟨Nat.le_of_ble_eq_true rfl, Nat.le_of_ble_eq_true rfl⟩ rfl rfl hl.1 (Nat.le_of_ble_eq_true rfl) dX11_louder_5 (fun x1 G9 H locs hq hB => ?_)
  obtain ⟨rfl, i_x1, hp2⟩ := hq
  have k3 : ¬ x1 = 0 → iv_R 0 999 x_0 := fun h => ⟨iv_max i_x_0.1 (Int.le_trans q_0.1 (hp2.1 h).1) (by decide), iv_min i_x_0.2 (Int.le_trans (hp2.1 h).2 q_999.2) (by decide)⟩
  refine lv_if_eq (tgt := 48) hx hb dX11_louder_8 (by decide) (fun c4 => ?_) (fun c4 => ?_)
  · skip
    have i4_x1 : iv_R 0 0 x1 := (i_x1.cutHi (n := 0) (iv_eq_r c4 q_0).2)
    refine lv_iconst (v := 0) hx hb dX11_louder_48 (by decide) ?_
    refine lv_istore (lv' := [(7, .int 0), (0, .ref h0), (1, .int x_0), (2, .int x_1), (3, .int x_2), (4, .int x_3), (5, .int x_4), (6, .int x_5)]) hx hb dX11_louder_49 hl (by decide) rfl (fun ls hl => ?_)
    refine lv_iload hx hb dX11_louder_51 (lv_at hl 0 rfl) ?_
    refine lv_if_eq (tgt := 83) hx hb dX11_louder_53 (by decide) (fun c6 => ?_) (fun c6 => ?_)
    · skip
      refine lv_iconst (v := (-1)) hx hb dX11_louder_83 (by decide) ?_
      exact iv_iret X hr hlocks hB ⟨rfl, (q_n1.wk (by decide))⟩ dX11_louder_84
    · skip
      exact absurd rfl c6
  · skip
    have i6_x1 : iv_R 1 1 x1 := iv_ne_lo c4 i_x1 q_0 (by decide)
    have i7_x_0 : iv_R 0 999 x_0 := ((i_x_0.cutLo (n := 0) (k3 c4).1).cutHi (n := 999) (k3 c4).2)
    refine lv_iload_n hx hb dX11_louder_11 rfl (lv_at hl 2 rfl) ?_
    refine lv_iconst (v := 0) hx hb dX11_louder_12 (by decide) ?_
    refine lv_sipush (v := 999) hx hb dX11_louder_13 (by decide) ?_
    refine iv_cSi X k_good k_mf_X11_isWithin k_st_X11_isWithin k_ml_X11_83 hB (As := [.int x_1, .int 0, .int 999]) (c_X11_isWithin l D tys base G x_1 i_x_1 0 (q_0.wk (by decide)) 999 (q_999.wk (by decide))) ⟨rfl, rfl⟩ ⟨Nat.le_of_ble_eq_true rfl, Nat.le_of_ble_eq_true rfl⟩ ⟨Nat.le_of_ble_eq_true rfl, Nat.le_of_ble_eq_true rfl⟩ rfl rfl hl.1 (Nat.le_of_ble_eq_true rfl) dX11_louder_16 (fun x9 G9 H locs hq hB => ?_)
    obtain ⟨rfl, i_x9, hp10⟩ := hq
    have k11 : ¬ x9 = 0 → iv_R 0 999 x_1 := fun h => ⟨iv_max i_x_1.1 (Int.le_trans q_0.1 (hp10.1 h).1) (by decide), iv_min i_x_1.2 (Int.le_trans (hp10.1 h).2 q_999.2) (by decide)⟩
    refine lv_if_eq (tgt := 48) hx hb dX11_louder_19 (by decide) (fun c12 => ?_) (fun c12 => ?_)
    · skip
      have i12_x9 : iv_R 0 0 x9 := (i_x9.cutHi (n := 0) (iv_eq_r c12 q_0).2)
      refine lv_iconst (v := 0) hx hb dX11_louder_48 (by decide) ?_
      refine lv_istore (lv' := [(7, .int 0), (0, .ref h0), (1, .int x_0), (2, .int x_1), (3, .int x_2), (4, .int x_3), (5, .int x_4), (6, .int x_5)]) hx hb dX11_louder_49 hl (by decide) rfl (fun ls hl => ?_)
      refine lv_iload hx hb dX11_louder_51 (lv_at hl 0 rfl) ?_
      refine lv_if_eq (tgt := 83) hx hb dX11_louder_53 (by decide) (fun c14 => ?_) (fun c14 => ?_)
      · skip
        refine lv_iconst (v := (-1)) hx hb dX11_louder_83 (by decide) ?_
        exact iv_iret X hr hlocks hB ⟨rfl, (q_n1.wk (by decide))⟩ dX11_louder_84
      · skip
        exact absurd rfl c14
    · skip
      have i14_x9 : iv_R 1 1 x9 := iv_ne_lo c12 i_x9 q_0 (by decide)
      have i15_x_1 : iv_R 0 999 x_1 := ((i_x_1.cutLo (n := 0) (k11 c12).1).cutHi (n := 999) (k11 c12).2)
      refine lv_iload_n hx hb dX11_louder_22 rfl (lv_at hl 3 rfl) ?_
      refine lv_iconst (v := 0) hx hb dX11_louder_23 (by decide) ?_
      refine lv_bipush (v := 9) hx hb dX11_louder_24 (by decide) ?_
      refine iv_cSi X k_good k_mf_X11_isWithin k_st_X11_isWithin k_ml_X11_83 hB (As := [.int x_2, .int 0, .int 9]) (c_X11_isWithin l D tys base G x_2 i_x_2 0 (q_0.wk (by decide)) 9 (q_9.wk (by decide))) ⟨rfl, rfl⟩ ⟨Nat.le_of_ble_eq_true rfl, Nat.le_of_ble_eq_true rfl⟩ ⟨Nat.le_of_ble_eq_true rfl, Nat.le_of_ble_eq_true rfl⟩ rfl rfl hl.1 (Nat.le_of_ble_eq_true rfl) dX11_louder_26 (fun x17 G9 H locs hq hB => ?_)
      obtain ⟨rfl, i_x17, hp18⟩ := hq
      have k19 : ¬ x17 = 0 → iv_R 0 9 x_2 := fun h => ⟨iv_max i_x_2.1 (Int.le_trans q_0.1 (hp18.1 h).1) (by decide), iv_min i_x_2.2 (Int.le_trans (hp18.1 h).2 q_9.2) (by decide)⟩
      refine lv_if_eq (tgt := 48) hx hb dX11_louder_29 (by decide) (fun c20 => ?_) (fun c20 => ?_)
      · skip
        have i20_x17 : iv_R 0 0 x17 := (i_x17.cutHi (n := 0) (iv_eq_r c20 q_0).2)
        refine lv_iconst (v := 0) hx hb dX11_louder_48 (by decide) ?_
        refine lv_istore (lv' := [(7, .int 0), (0, .ref h0), (1, .int x_0), (2, .int x_1), (3, .int x_2), (4, .int x_3), (5, .int x_4), (6, .int x_5)]) hx hb dX11_louder_49 hl (by decide) rfl (fun ls hl => ?_)
        refine lv_iload hx hb dX11_louder_51 (lv_at hl 0 rfl) ?_
        refine lv_if_eq (tgt := 83) hx hb dX11_louder_53 (by decide) (fun c22 => ?_) (fun c22 => ?_)
        · skip
          refine lv_iconst (v := (-1)) hx hb dX11_louder_83 (by decide) ?_
          exact iv_iret X hr hlocks hB ⟨rfl, (q_n1.wk (by decide))⟩ dX11_louder_84
        · skip
          exact absurd rfl c22
      · skip
        have i22_x17 : iv_R 1 1 x17 := iv_ne_lo c20 i_x17 q_0 (by decide)
        have i23_x_2 : iv_R 0 9 x_2 := ((i_x_2.cutLo (n := 0) (k19 c20).1).cutHi (n := 9) (k19 c20).2)
        refine lv_iload hx hb dX11_louder_32 (lv_at hl 4 rfl) ?_
        refine lv_iconst (v := 0) hx hb dX11_louder_34 (by decide) ?_
        refine lv_sipush (v := 999) hx hb dX11_louder_35 (by decide) ?_
        refine iv_cSi X k_good k_mf_X11_isWithin k_st_X11_isWithin k_ml_X11_83 hB (As := [.int x_3, .int 0, .int 999]) (c_X11_isWithin l D tys base G x_3 i_x_3 0 (q_0.wk (by decide)) 999 (q_999.wk (by decide))) ⟨rfl, rfl⟩ ⟨Nat.le_of_ble_eq_true rfl, Nat.le_of_ble_eq_true rfl⟩ ⟨Nat.le_of_ble_eq_true rfl, Nat.le_of_ble_eq_true rfl⟩ rfl rfl hl.1 (Nat.le_of_ble_eq_true rfl) dX11_louder_38 (fun x25 G9 H locs hq hB => ?_)
        obtain ⟨rfl, i_x25, hp26⟩ := hq
        have k27 : ¬ x25 = 0 → iv_R 0 999 x_3 := fun h => ⟨iv_max i_x_3.1 (Int.le_trans q_0.1 (hp26.1 h).1) (by decide), iv_min i_x_3.2 (Int.le_trans (hp26.1 h).2 q_999.2) (by decide)⟩
        refine lv_if_eq (tgt := 48) hx hb dX11_louder_41 (by decide) (fun c28 => ?_) (fun c28 => ?_)
        · skip
          have i28_x25 : iv_R 0 0 x25 := (i_x25.cutHi (n := 0) (iv_eq_r c28 q_0).2)
          refine lv_iconst (v := 0) hx hb dX11_louder_48 (by decide) ?_
          refine lv_istore (lv' := [(7, .int 0), (0, .ref h0), (1, .int x_0), (2, .int x_1), (3, .int x_2), (4, .int x_3), (5, .int x_4), (6, .int x_5)]) hx hb dX11_louder_49 hl (by decide) rfl (fun ls hl => ?_)
          refine lv_iload hx hb dX11_louder_51 (lv_at hl 0 rfl) ?_
          refine lv_if_eq (tgt := 83) hx hb dX11_louder_53 (by decide) (fun c30 => ?_) (fun c30 => ?_)
          · skip
            refine lv_iconst (v := (-1)) hx hb dX11_louder_83 (by decide) ?_
            exact iv_iret X hr hlocks hB ⟨rfl, (q_n1.wk (by decide))⟩ dX11_louder_84
          · skip
            exact absurd rfl c30
        · skip
          have i30_x25 : iv_R 1 1 x25 := iv_ne_lo c28 i_x25 q_0 (by decide)
          have i31_x_3 : iv_R 0 999 x_3 := ((i_x_3.cutLo (n := 0) (k27 c28).1).cutHi (n := 999) (k27 c28).2)
          refine lv_iconst (v := 1) hx hb dX11_louder_44 (by decide) ?_
          refine lv_goto (tgt := 49) hx hb dX11_louder_45 (by decide) ?_
          refine lv_istore (lv' := [(7, .int 1), (0, .ref h0), (1, .int x_0), (2, .int x_1), (3, .int x_2), (4, .int x_3), (5, .int x_4), (6, .int x_5)]) hx hb dX11_louder_49 hl (by decide) rfl (fun ls hl => ?_)
          refine lv_iload hx hb dX11_louder_51 (lv_at hl 0 rfl) ?_
          refine lv_if_eq (tgt := 83) hx hb dX11_louder_53 (by decide) (fun c33 => ?_) (fun c33 => ?_)
          · skip
            exact (q_1.cutHi (n := 0) (iv_eq_r c33 q_0).2).no (by decide)
          · skip
            refine lv_iload hx hb dX11_louder_56 (lv_at hl 7 rfl) ?_
            refine lv_iconst (v := 0) hx hb dX11_louder_58 (by decide) ?_
            refine lv_iconst (v := 2) hx hb dX11_louder_59 (by decide) ?_
            refine iv_cSi X k_good k_mf_X11_isWithin k_st_X11_isWithin k_ml_X11_83 hB (As := [.int x_5, .int 0, .int 2]) (c_X11_isWithin l D tys base G x_5 i_x_5 0 (q_0.wk (by decide)) 2 (q_2.wk (by decide))) ⟨rfl, rfl⟩ ⟨Nat.le_of_ble_eq_true rfl, Nat.le_of_ble_eq_true rfl⟩ ⟨Nat.le_of_ble_eq_true rfl, Nat.le_of_ble_eq_true rfl⟩ rfl rfl hl.1 (Nat.le_of_ble_eq_true rfl) dX11_louder_60 (fun x34 G9 H locs hq hB => ?_)
            obtain ⟨rfl, i_x34, hp35⟩ := hq
            have k36 : ¬ x34 = 0 → iv_R 0 2 x_5 := fun h => ⟨iv_max i_x_5.1 (Int.le_trans q_0.1 (hp35.1 h).1) (by decide), iv_min i_x_5.2 (Int.le_trans (hp35.1 h).2 q_2.2) (by decide)⟩
            refine lv_if_eq (tgt := 83) hx hb dX11_louder_63 (by decide) (fun c37 => ?_) (fun c37 => ?_)
            · skip
              have i37_x34 : iv_R 0 0 x34 := (i_x34.cutHi (n := 0) (iv_eq_r c37 q_0).2)
              refine lv_iconst (v := (-1)) hx hb dX11_louder_83 (by decide) ?_
              exact iv_iret X hr hlocks hB ⟨rfl, (q_n1.wk (by decide))⟩ dX11_louder_84
            · skip
              have i38_x34 : iv_R 1 1 x34 := iv_ne_lo c37 i_x34 q_0 (by decide)
              have i39_x_5 : iv_R 0 2 x_5 := ((i_x_5.cutLo (n := 0) (k36 c37).1).cutHi (n := 2) (k36 c37).2)
              refine lv_iload hx hb dX11_louder_66 (lv_at hl 7 rfl) ?_
              refine lv_iconst (v := 2) hx hb dX11_louder_68 (by decide) ?_
              refine lv_icmp_eq (tgt := 85) hx hb dX11_louder_69 (by decide) (fun c41 => ?_) (fun c41 => ?_)
              · skip
                have i41_x_5 : iv_R 2 2 x_5 := (i39_x_5.cutLo (n := 2) (iv_eq_r c41 q_2).1)
                refine lv_iload hx hb dX11_louder_85 (lv_at hl 7 rfl) ?_
                refine lv_iconst (v := 2) hx hb dX11_louder_87 (by decide) ?_
                refine lv_icmp_ne (tgt := 96) hx hb dX11_louder_88 (by decide) (fun c43 => ?_) (fun c43 => ?_)
                · skip
                  exact (iv_ne_lo c43 i41_x_5 q_2 (a' := 3) (by decide)).no (by decide)
                · skip
                  refine lv_bipush (v := 60) hx hb dX11_louder_91 (by decide) ?_
                  refine lv_goto (tgt := 98) hx hb dX11_louder_93 (by decide) ?_
                  refine lv_istore (lv' := [(8, .int 60), (7, .int 1), (0, .ref h0), (1, .int x_0), (2, .int x_1), (3, .int x_2), (4, .int x_3), (5, .int x_4), (6, .int x_5)]) hx hb dX11_louder_98 hl (by decide) rfl (fun ls hl => ?_)
                  refine lv_iload_n hx hb dX11_louder_100 rfl (lv_at hl 3 rfl) ?_
                  refine lv_istore (lv' := [(9, .int x_0), (8, .int 60), (7, .int 1), (0, .ref h0), (1, .int x_0), (2, .int x_1), (3, .int x_2), (4, .int x_3), (5, .int x_4), (6, .int x_5)]) hx hb dX11_louder_101 hl (by decide) rfl (fun ls hl => ?_)
                  refine lv_iload_n hx hb dX11_louder_103 rfl (lv_at hl 5 rfl) ?_
                  refine lv_istore (lv' := [(10, .int x_1), (9, .int x_0), (8, .int 60), (7, .int 1), (0, .ref h0), (1, .int x_0), (2, .int x_1), (3, .int x_2), (4, .int x_3), (5, .int x_4), (6, .int x_5)]) hx hb dX11_louder_104 hl (by decide) rfl (fun ls hl => ?_)
                  refine lv_iconst (v := 1) hx hb dX11_louder_106 (by decide) ?_
                  refine lv_istore (lv' := [(11, .int 1), (10, .int x_1), (9, .int x_0), (8, .int 60), (7, .int 1), (0, .ref h0), (1, .int x_0), (2, .int x_1), (3, .int x_2), (4, .int x_3), (5, .int x_4), (6, .int x_5)]) hx hb dX11_louder_107 hl (by decide) rfl (fun ls hl => ?_)
                  have L_109 : ∀ (n_109 : Nat) (H : Heap) (locs : List Loc) (hB : iv_B iv_sh D classes tys base G s.heap H locs) (x44 : Int32) (i_x44 : iv_R 0 999 x44) (x45 : Int32) (i_x45 : iv_R 0 999 x45) (x46 : Int32) (i_x46 : iv_R 1 61 x46) (hn : (62 - x46.toInt).toNat < n_109) (ls : Array Slot) (hl : lv_has ls 14 [(11, .int x46), (10, .int x45), (9, .int x44), (8, .int 60), (3, .int x_2), (4, .int x_3), (6, .int x_5)]), W p l e ({ frames := 1, cells := 0, slots := 0, locals := 22 } : Room) s m args below meth c H locs 0 0 (MQ below (iv_Qi iv_sh D classes tys base (fun v G' => G = G' ∧ iv_R (-2147483648) 2147483647 v)) args s 0 0 (iv_A base)) (F0 m 109 ls []) := by
                    intro n_109
                    induction n_109 with
                    | zero => intro H locs hB x44 i_x44 x45 i_x45 x46 i_x46 hn ls hl; exact absurd hn (Nat.not_lt_zero _)
                    | succ n_109 ih_109 =>
                      intro H locs hB x44 i_x44 x45 i_x45 x46 i_x46 hn ls hl
                      refine lv_iload hx hb dX11_louder_109 (lv_at hl 0 rfl) ?_
                      refine lv_iload hx hb dX11_louder_111 (lv_at hl 3 rfl) ?_
                      refine lv_icmp_gt (tgt := 187) hx hb dX11_louder_113 (by decide) (fun c47 => ?_) (fun c47 => ?_)
                      · skip
                        have i47_x46 : iv_R 61 61 x46 := (i_x46.cutLo (n := 61) (iv_lt_l c47 q_60 (by decide)))
                        refine lv_iload hx hb dX11_louder_187 (lv_at hl 6 rfl) ?_
                        refine lv_iconst (v := 2) hx hb dX11_louder_189 (by decide) ?_
                        refine lv_icmp_ne (tgt := 197) hx hb dX11_louder_190 (by decide) (fun c49 => ?_) (fun c49 => ?_)
                        · skip
                          exact (iv_ne_lo c49 i41_x_5 q_2 (a' := 3) (by decide)).no (by decide)
                        · skip
                          refine lv_iconst (v := (-1)) hx hb dX11_louder_193 (by decide) ?_
                          refine lv_goto (tgt := 206) hx hb dX11_louder_194 (by decide) ?_
                          exact iv_iret X hr hlocks hB ⟨rfl, (q_n1.wk (by decide))⟩ dX11_louder_206
                      · skip
                        have i49_x46 : iv_R 1 60 x46 := (i_x46.cutHi (n := 60) (iv_le_r (iv_nlt c47) q_60))
                        refine lv_sipush (v := 999) hx hb dX11_louder_116 (by decide) ?_
                        refine lv_iload hx hb dX11_louder_119 (lv_at hl 5 rfl) ?_
                        refine lv_iload_n hx hb dX11_louder_121 rfl (lv_at hl 4 rfl) ?_
                        refine lv_iload hx hb dX11_louder_122 (lv_at hl 1 rfl) ?_
                        refine iv_imul hx hb i23_x_2 i_x45 (lo := 0) (hi := 8991) (by decide) dX11_louder_124 (fun x51 e_x51 i_x51 => ?_)
                        refine lv_iconst (v := 4) hx hb dX11_louder_125 (by decide) ?_
                        refine iv_idivp hx hb i_x51 q_4 (lo := 0) (hi := 2247) (by decide) dX11_louder_126 (fun x52 e_x52 i_x52 => ?_)
                        refine iv_iadd hx hb i31_x_3 i_x52 (lo := 0) (hi := 3246) (by decide) dX11_louder_127 (fun x53 e_x53 i_x53 => ?_)
                        refine iv_mmin X hl.1 k_mm_X11_362 ⟨Nat.le_of_ble_eq_true rfl, Nat.le_of_ble_eq_true rfl⟩ ⟨Nat.le_of_ble_eq_true rfl, Nat.le_of_ble_eq_true rfl⟩ q_999 i_x53 (lo := 0) (hi := 999) (by decide) dX11_louder_128 (fun x54 e_x54 i_x54 => ?_)
                        refine lv_istore (lv' := [(12, .int x54), (11, .int x46), (10, .int x45), (9, .int x44), (8, .int 60), (3, .int x_2), (4, .int x_3), (6, .int x_5)]) hx hb dX11_louder_131 hl (by decide) rfl (fun ls hl => ?_)
                        refine lv_sipush (v := 999) hx hb dX11_louder_133 (by decide) ?_
                        refine lv_iload hx hb dX11_louder_136 (lv_at hl 6 rfl) ?_
                        refine lv_iload_n hx hb dX11_louder_138 rfl (lv_at hl 5 rfl) ?_
                        refine lv_iload hx hb dX11_louder_139 (lv_at hl 3 rfl) ?_
                        refine iv_imul hx hb i23_x_2 i_x44 (lo := 0) (hi := 8991) (by decide) dX11_louder_141 (fun x55 e_x55 i_x55 => ?_)
                        refine lv_iconst (v := 4) hx hb dX11_louder_142 (by decide) ?_
                        refine iv_idivp hx hb i_x55 q_4 (lo := 0) (hi := 2247) (by decide) dX11_louder_143 (fun x56 e_x56 i_x56 => ?_)
                        refine iv_iadd hx hb i31_x_3 i_x56 (lo := 0) (hi := 3246) (by decide) dX11_louder_144 (fun x57 e_x57 i_x57 => ?_)
                        refine iv_mmin X hl.1 k_mm_X11_362 ⟨Nat.le_of_ble_eq_true rfl, Nat.le_of_ble_eq_true rfl⟩ ⟨Nat.le_of_ble_eq_true rfl, Nat.le_of_ble_eq_true rfl⟩ q_999 i_x57 (lo := 0) (hi := 999) (by decide) dX11_louder_145 (fun x58 e_x58 i_x58 => ?_)
                        refine lv_istore (lv' := [(13, .int x58), (12, .int x54), (11, .int x46), (10, .int x45), (9, .int x44), (8, .int 60), (3, .int x_2), (4, .int x_3), (6, .int x_5)]) hx hb dX11_louder_148 hl (by decide) rfl (fun ls hl => ?_)
                        refine lv_iload hx hb dX11_louder_150 (lv_at hl 8 rfl) ?_
                        refine lv_iconst (v := 2) hx hb dX11_louder_152 (by decide) ?_
                        refine lv_icmp_ne (tgt := 173) hx hb dX11_louder_153 (by decide) (fun c59 => ?_) (fun c59 => ?_)
                        · skip
                          exact (iv_ne_lo c59 i41_x_5 q_2 (a' := 3) (by decide)).no (by decide)
                        · skip
                          refine lv_iload hx hb dX11_louder_156 (lv_at hl 1 rfl) ?_
                          refine lv_iload hx hb dX11_louder_158 (lv_at hl 4 rfl) ?_
                          refine lv_icmp_ne (tgt := 173) hx hb dX11_louder_160 (by decide) (fun c60 => ?_) (fun c60 => ?_)
                          · skip
                            refine lv_iload hx hb dX11_louder_173 (lv_at hl 1 rfl) ?_
                            refine lv_istore (lv' := [(9, .int x54), (13, .int x58), (12, .int x54), (11, .int x46), (10, .int x45), (8, .int 60), (3, .int x_2), (4, .int x_3), (6, .int x_5)]) hx hb dX11_louder_175 hl (by decide) rfl (fun ls hl => ?_)
                            refine lv_iload hx hb dX11_louder_177 (lv_at hl 1 rfl) ?_
                            refine lv_istore (lv' := [(10, .int x58), (9, .int x54), (13, .int x58), (12, .int x54), (11, .int x46), (8, .int 60), (3, .int x_2), (4, .int x_3), (6, .int x_5)]) hx hb dX11_louder_179 hl (by decide) rfl (fun ls hl => ?_)
                            refine iv_iinc hx hb i49_x46 (lo := 2) (hi := 61) (by decide) dX11_louder_181 hl (k := 4) rfl (by decide) (fun x61 ls e_x61 i_x61 hl => ?_)
                            have hl : lv_has ls 14 [(11, .int x61), (10, .int x58), (9, .int x54), (13, .int x58), (12, .int x54), (8, .int 60), (3, .int x_2), (4, .int x_3), (6, .int x_5)] := hl
                            refine lv_goto (tgt := 109) hx hb dX11_louder_184 (by decide) ?_
                            exact ih_109 _ _ hB x54 i_x54 x58 i_x58 x61 (i_x61.wk (by decide)) (iv_mup (c := 1) i_x46 (by decide) (by decide) (by omega) hn) _ (lv_sub hl [0, 1, 2, 5, 6, 7, 8] rfl)
                          · skip
                            refine lv_iload hx hb dX11_louder_163 (lv_at hl 0 rfl) ?_
                            refine lv_iload hx hb dX11_louder_165 (lv_at hl 3 rfl) ?_
                            refine lv_icmp_ne (tgt := 173) hx hb dX11_louder_167 (by decide) (fun c62 => ?_) (fun c62 => ?_)
                            · skip
                              refine lv_iload hx hb dX11_louder_173 (lv_at hl 1 rfl) ?_
                              refine lv_istore (lv' := [(9, .int x54), (13, .int x58), (12, .int x54), (11, .int x46), (10, .int x45), (8, .int 60), (3, .int x_2), (4, .int x_3), (6, .int x_5)]) hx hb dX11_louder_175 hl (by decide) rfl (fun ls hl => ?_)
                              refine lv_iload hx hb dX11_louder_177 (lv_at hl 1 rfl) ?_
                              refine lv_istore (lv' := [(10, .int x58), (9, .int x54), (13, .int x58), (12, .int x54), (11, .int x46), (8, .int 60), (3, .int x_2), (4, .int x_3), (6, .int x_5)]) hx hb dX11_louder_179 hl (by decide) rfl (fun ls hl => ?_)
                              refine iv_iinc hx hb i49_x46 (lo := 2) (hi := 61) (by decide) dX11_louder_181 hl (k := 4) rfl (by decide) (fun x63 ls e_x63 i_x63 hl => ?_)
                              have hl : lv_has ls 14 [(11, .int x63), (10, .int x58), (9, .int x54), (13, .int x58), (12, .int x54), (8, .int 60), (3, .int x_2), (4, .int x_3), (6, .int x_5)] := hl
                              refine lv_goto (tgt := 109) hx hb dX11_louder_184 (by decide) ?_
                              exact ih_109 _ _ hB x54 i_x54 x58 i_x58 x63 (i_x63.wk (by decide)) (iv_mup (c := 1) i_x46 (by decide) (by decide) (by omega) hn) _ (lv_sub hl [0, 1, 2, 5, 6, 7, 8] rfl)
                            · skip
                              refine lv_iload hx hb dX11_louder_170 (lv_at hl 2 rfl) ?_
                              exact iv_iret X hr hlocks hB ⟨rfl, (i49_x46.wk (by decide))⟩ dX11_louder_172
                  exact L_109 _ _ _ hB x_0 i7_x_0 x_1 i15_x_1 1 (q_1.wk (by decide)) (Nat.lt_succ_self _) _ (lv_sub hl [0, 1, 2, 3, 8, 9, 11] rfl)
              · skip
                have i63_x_5 : iv_R 0 1 x_5 := iv_ne_hi c41 i39_x_5 q_2 (by decide)
                refine lv_iload hx hb dX11_louder_72 (lv_at hl 6 rfl) ?_
                refine lv_iconst (v := 0) hx hb dX11_louder_74 (by decide) ?_
                refine lv_bipush (v := 60) hx hb dX11_louder_75 (by decide) ?_
                refine iv_cSi X k_good k_mf_X11_isWithin k_st_X11_isWithin k_ml_X11_83 hB (As := [.int x_4, .int 0, .int 60]) (c_X11_isWithin l D tys base G x_4 i_x_4 0 (q_0.wk (by decide)) 60 (q_60.wk (by decide))) ⟨rfl, rfl⟩ ⟨Nat.le_of_ble_eq_true rfl, Nat.le_of_ble_eq_true rfl⟩ ⟨Nat.le_of_ble_eq_true rfl, Nat.le_of_ble_eq_true rfl⟩ rfl rfl hl.1 (Nat.le_of_ble_eq_true rfl) dX11_louder_77 (fun x65 G9 H locs hq hB => ?_)
                obtain ⟨rfl, i_x65, hp66⟩ := hq
                have k67 : ¬ x65 = 0 → iv_R 0 60 x_4 := fun h => ⟨iv_max i_x_4.1 (Int.le_trans q_0.1 (hp66.1 h).1) (by decide), iv_min i_x_4.2 (Int.le_trans (hp66.1 h).2 q_60.2) (by decide)⟩
                refine lv_if_ne (tgt := 85) hx hb dX11_louder_80 (by decide) (fun c68 => ?_) (fun c68 => ?_)
                · skip
                  have i68_x65 : iv_R 1 1 x65 := iv_ne_lo c68 i_x65 q_0 (by decide)
                  have i69_x_4 : iv_R 0 60 x_4 := ((i_x_4.cutLo (n := 0) (k67 c68).1).cutHi (n := 60) (k67 c68).2)
                  refine lv_iload hx hb dX11_louder_85 (lv_at hl 7 rfl) ?_
                  refine lv_iconst (v := 2) hx hb dX11_louder_87 (by decide) ?_
                  refine lv_icmp_ne (tgt := 96) hx hb dX11_louder_88 (by decide) (fun c71 => ?_) (fun c71 => ?_)
                  · skip
                    refine lv_iload hx hb dX11_louder_96 (lv_at hl 6 rfl) ?_
                    refine lv_istore (lv' := [(8, .int x_4), (7, .int 1), (0, .ref h0), (1, .int x_0), (2, .int x_1), (3, .int x_2), (4, .int x_3), (5, .int x_4), (6, .int x_5)]) hx hb dX11_louder_98 hl (by decide) rfl (fun ls hl => ?_)
                    refine lv_iload_n hx hb dX11_louder_100 rfl (lv_at hl 3 rfl) ?_
                    refine lv_istore (lv' := [(9, .int x_0), (8, .int x_4), (7, .int 1), (0, .ref h0), (1, .int x_0), (2, .int x_1), (3, .int x_2), (4, .int x_3), (5, .int x_4), (6, .int x_5)]) hx hb dX11_louder_101 hl (by decide) rfl (fun ls hl => ?_)
                    refine lv_iload_n hx hb dX11_louder_103 rfl (lv_at hl 5 rfl) ?_
                    refine lv_istore (lv' := [(10, .int x_1), (9, .int x_0), (8, .int x_4), (7, .int 1), (0, .ref h0), (1, .int x_0), (2, .int x_1), (3, .int x_2), (4, .int x_3), (5, .int x_4), (6, .int x_5)]) hx hb dX11_louder_104 hl (by decide) rfl (fun ls hl => ?_)
                    refine lv_iconst (v := 1) hx hb dX11_louder_106 (by decide) ?_
                    refine lv_istore (lv' := [(11, .int 1), (10, .int x_1), (9, .int x_0), (8, .int x_4), (7, .int 1), (0, .ref h0), (1, .int x_0), (2, .int x_1), (3, .int x_2), (4, .int x_3), (5, .int x_4), (6, .int x_5)]) hx hb dX11_louder_107 hl (by decide) rfl (fun ls hl => ?_)
                    have L_109 : ∀ (n_109 : Nat) (H : Heap) (locs : List Loc) (hB : iv_B iv_sh D classes tys base G s.heap H locs) (x72 : Int32) (i_x72 : iv_R 0 999 x72) (x73 : Int32) (i_x73 : iv_R 0 999 x73) (x74 : Int32) (i_x74 : iv_R 1 61 x74) (hn : (62 - x74.toInt).toNat < n_109) (ls : Array Slot) (hl : lv_has ls 14 [(11, .int x74), (10, .int x73), (9, .int x72), (8, .int x_4), (3, .int x_2), (4, .int x_3), (6, .int x_5)]), W p l e ({ frames := 1, cells := 0, slots := 0, locals := 22 } : Room) s m args below meth c H locs 0 0 (MQ below (iv_Qi iv_sh D classes tys base (fun v G' => G = G' ∧ iv_R (-2147483648) 2147483647 v)) args s 0 0 (iv_A base)) (F0 m 109 ls []) := by
                      intro n_109
                      induction n_109 with
                      | zero => intro H locs hB x72 i_x72 x73 i_x73 x74 i_x74 hn ls hl; exact absurd hn (Nat.not_lt_zero _)
                      | succ n_109 ih_109 =>
                        intro H locs hB x72 i_x72 x73 i_x73 x74 i_x74 hn ls hl
                        refine lv_iload hx hb dX11_louder_109 (lv_at hl 0 rfl) ?_
                        refine lv_iload hx hb dX11_louder_111 (lv_at hl 3 rfl) ?_
                        refine lv_icmp_gt (tgt := 187) hx hb dX11_louder_113 (by decide) (fun c75 => ?_) (fun c75 => ?_)
                        · skip
                          refine lv_iload hx hb dX11_louder_187 (lv_at hl 6 rfl) ?_
                          refine lv_iconst (v := 2) hx hb dX11_louder_189 (by decide) ?_
                          refine lv_icmp_ne (tgt := 197) hx hb dX11_louder_190 (by decide) (fun c76 => ?_) (fun c76 => ?_)
                          · skip
                            refine lv_iload hx hb dX11_louder_197 (lv_at hl 6 rfl) ?_
                            refine lv_iload hx hb dX11_louder_199 (lv_at hl 2 rfl) ?_
                            refine lv_iload hx hb dX11_louder_201 (lv_at hl 1 rfl) ?_
                            refine iv_cSi X k_good k_mf_X11_chosen k_st_X11_chosen k_ml_X11_282 hB (As := [.int x_5, .int x72, .int x73]) (c_X11_chosen l D tys base G x_5 (i63_x_5.wk (by decide)) x72 (i_x72.wk (by decide)) x73 (i_x73.wk (by decide))) ⟨rfl, rfl⟩ ⟨Nat.le_of_ble_eq_true rfl, Nat.le_of_ble_eq_true rfl⟩ ⟨Nat.le_of_ble_eq_true rfl, Nat.le_of_ble_eq_true rfl⟩ rfl rfl hl.1 (Nat.le_of_ble_eq_true rfl) dX11_louder_203 (fun x77 G9 H locs hq hB => ?_)
                            obtain ⟨rfl, i_x77⟩ := hq
                            exact iv_iret X hr hlocks hB ⟨rfl, i_x77⟩ dX11_louder_206
                          · skip
                            exact (i63_x_5.cutLo (n := 2) (iv_eq_r c76 q_2).1).no (by decide)
                        · skip
                          have i77_x74 : iv_R 1 60 x74 := (i_x74.cutHi (n := 60) (iv_le_r (iv_nlt c75) i69_x_4))
                          have i78_x_4 : iv_R 1 60 x_4 := (i69_x_4.cutLo (n := 1) (iv_le_l (iv_nlt c75) i_x74))
                          refine lv_sipush (v := 999) hx hb dX11_louder_116 (by decide) ?_
                          refine lv_iload hx hb dX11_louder_119 (lv_at hl 5 rfl) ?_
                          refine lv_iload_n hx hb dX11_louder_121 rfl (lv_at hl 4 rfl) ?_
                          refine lv_iload hx hb dX11_louder_122 (lv_at hl 1 rfl) ?_
                          refine iv_imul hx hb i23_x_2 i_x73 (lo := 0) (hi := 8991) (by decide) dX11_louder_124 (fun x80 e_x80 i_x80 => ?_)
                          refine lv_iconst (v := 4) hx hb dX11_louder_125 (by decide) ?_
                          refine iv_idivp hx hb i_x80 q_4 (lo := 0) (hi := 2247) (by decide) dX11_louder_126 (fun x81 e_x81 i_x81 => ?_)
                          refine iv_iadd hx hb i31_x_3 i_x81 (lo := 0) (hi := 3246) (by decide) dX11_louder_127 (fun x82 e_x82 i_x82 => ?_)
                          refine iv_mmin X hl.1 k_mm_X11_362 ⟨Nat.le_of_ble_eq_true rfl, Nat.le_of_ble_eq_true rfl⟩ ⟨Nat.le_of_ble_eq_true rfl, Nat.le_of_ble_eq_true rfl⟩ q_999 i_x82 (lo := 0) (hi := 999) (by decide) dX11_louder_128 (fun x83 e_x83 i_x83 => ?_)
                          refine lv_istore (lv' := [(12, .int x83), (11, .int x74), (10, .int x73), (9, .int x72), (8, .int x_4), (3, .int x_2), (4, .int x_3), (6, .int x_5)]) hx hb dX11_louder_131 hl (by decide) rfl (fun ls hl => ?_)
                          refine lv_sipush (v := 999) hx hb dX11_louder_133 (by decide) ?_
                          refine lv_iload hx hb dX11_louder_136 (lv_at hl 6 rfl) ?_
                          refine lv_iload_n hx hb dX11_louder_138 rfl (lv_at hl 5 rfl) ?_
                          refine lv_iload hx hb dX11_louder_139 (lv_at hl 3 rfl) ?_
                          refine iv_imul hx hb i23_x_2 i_x72 (lo := 0) (hi := 8991) (by decide) dX11_louder_141 (fun x84 e_x84 i_x84 => ?_)
                          refine lv_iconst (v := 4) hx hb dX11_louder_142 (by decide) ?_
                          refine iv_idivp hx hb i_x84 q_4 (lo := 0) (hi := 2247) (by decide) dX11_louder_143 (fun x85 e_x85 i_x85 => ?_)
                          refine iv_iadd hx hb i31_x_3 i_x85 (lo := 0) (hi := 3246) (by decide) dX11_louder_144 (fun x86 e_x86 i_x86 => ?_)
                          refine iv_mmin X hl.1 k_mm_X11_362 ⟨Nat.le_of_ble_eq_true rfl, Nat.le_of_ble_eq_true rfl⟩ ⟨Nat.le_of_ble_eq_true rfl, Nat.le_of_ble_eq_true rfl⟩ q_999 i_x86 (lo := 0) (hi := 999) (by decide) dX11_louder_145 (fun x87 e_x87 i_x87 => ?_)
                          refine lv_istore (lv' := [(13, .int x87), (12, .int x83), (11, .int x74), (10, .int x73), (9, .int x72), (8, .int x_4), (3, .int x_2), (4, .int x_3), (6, .int x_5)]) hx hb dX11_louder_148 hl (by decide) rfl (fun ls hl => ?_)
                          refine lv_iload hx hb dX11_louder_150 (lv_at hl 8 rfl) ?_
                          refine lv_iconst (v := 2) hx hb dX11_louder_152 (by decide) ?_
                          refine lv_icmp_ne (tgt := 173) hx hb dX11_louder_153 (by decide) (fun c88 => ?_) (fun c88 => ?_)
                          · skip
                            refine lv_iload hx hb dX11_louder_173 (lv_at hl 1 rfl) ?_
                            refine lv_istore (lv' := [(9, .int x83), (13, .int x87), (12, .int x83), (11, .int x74), (10, .int x73), (8, .int x_4), (3, .int x_2), (4, .int x_3), (6, .int x_5)]) hx hb dX11_louder_175 hl (by decide) rfl (fun ls hl => ?_)
                            refine lv_iload hx hb dX11_louder_177 (lv_at hl 1 rfl) ?_
                            refine lv_istore (lv' := [(10, .int x87), (9, .int x83), (13, .int x87), (12, .int x83), (11, .int x74), (8, .int x_4), (3, .int x_2), (4, .int x_3), (6, .int x_5)]) hx hb dX11_louder_179 hl (by decide) rfl (fun ls hl => ?_)
                            refine iv_iinc hx hb i77_x74 (lo := 2) (hi := 61) (by decide) dX11_louder_181 hl (k := 4) rfl (by decide) (fun x89 ls e_x89 i_x89 hl => ?_)
                            have hl : lv_has ls 14 [(11, .int x89), (10, .int x87), (9, .int x83), (13, .int x87), (12, .int x83), (8, .int x_4), (3, .int x_2), (4, .int x_3), (6, .int x_5)] := hl
                            refine lv_goto (tgt := 109) hx hb dX11_louder_184 (by decide) ?_
                            exact ih_109 _ _ hB x83 i_x83 x87 i_x87 x89 (i_x89.wk (by decide)) (iv_mup (c := 1) i_x74 (by decide) (by decide) (by omega) hn) _ (lv_sub hl [0, 1, 2, 5, 6, 7, 8] rfl)
                          · skip
                            exact (i63_x_5.cutLo (n := 2) (iv_eq_r c88 q_2).1).no (by decide)
                    exact L_109 _ _ _ hB x_0 i7_x_0 x_1 i15_x_1 1 (q_1.wk (by decide)) (Nat.lt_succ_self _) _ (lv_sub hl [0, 1, 2, 3, 8, 9, 11] rfl)
                  · skip
                    exact (i63_x_5.cutLo (n := 2) (iv_eq_r c71 q_2).1).no (by decide)
                · skip
                  have i89_x65 : iv_R 0 0 x65 := (i_x65.cutHi (n := 0) (iv_eq_r c68 q_0).2)
                  refine lv_iconst (v := (-1)) hx hb dX11_louder_83 (by decide) ?_
                  exact iv_iret X hr hlocks hB ⟨rfl, (q_n1.wk (by decide))⟩ dX11_louder_84
theorem dX9_hopeOf_0 : decode cX9_hopeOf 0 = .ok (.iconst 0, 1) := by decide +kernel
theorem dX9_hopeOf_1 : decode cX9_hopeOf 1 = .ok (.istore_n 2, 1) := by decide +kernel
theorem dX9_hopeOf_2 : decode cX9_hopeOf 2 = .ok (.iconst 0, 1) := by decide +kernel
theorem dX9_hopeOf_3 : decode cX9_hopeOf 3 = .ok (.istore_n 3, 1) := by decide +kernel
theorem dX9_hopeOf_4 : decode cX9_hopeOf 4 = .ok (.iload_n 3, 1) := by decide +kernel
theorem dX9_hopeOf_5 : decode cX9_hopeOf 5 = .ok (.aload_n 0, 1) := by decide +kernel
theorem dX9_hopeOf_6 : decode cX9_hopeOf 6 = .ok (.getfield 15, 3) := by decide +kernel
theorem dX9_hopeOf_9 : decode cX9_hopeOf 9 = .ok (.getfield 19, 3) := by decide +kernel
theorem dX9_hopeOf_12 : decode cX9_hopeOf 12 = .ok (.if_icmp .ge 30, 3) := by decide +kernel
theorem dX9_hopeOf_15 : decode cX9_hopeOf 15 = .ok (.iload_n 2, 1) := by decide +kernel
theorem dX9_hopeOf_16 : decode cX9_hopeOf 16 = .ok (.iload_n 1, 1) := by decide +kernel
theorem dX9_hopeOf_17 : decode cX9_hopeOf 17 = .ok (.iload_n 3, 1) := by decide +kernel
theorem dX9_hopeOf_18 : decode cX9_hopeOf 18 = .ok (.iushr, 1) := by decide +kernel
theorem dX9_hopeOf_19 : decode cX9_hopeOf 19 = .ok (.iconst 1, 1) := by decide +kernel
theorem dX9_hopeOf_20 : decode cX9_hopeOf 20 = .ok (.iand, 1) := by decide +kernel
theorem dX9_hopeOf_21 : decode cX9_hopeOf 21 = .ok (.aload_n 0, 1) := by decide +kernel
theorem dX9_hopeOf_22 : decode cX9_hopeOf 22 = .ok (.getfield 15, 3) := by decide +kernel
theorem dX9_hopeOf_25 : decode cX9_hopeOf 25 = .ok (.getfield 45, 3) := by decide +kernel
theorem dX9_hopeOf_28 : decode cX9_hopeOf 28 = .ok (.iload_n 3, 1) := by decide +kernel
theorem dX9_hopeOf_29 : decode cX9_hopeOf 29 = .ok (.aaload, 1) := by decide +kernel
theorem dX9_hopeOf_30 : decode cX9_hopeOf 30 = .ok (.getfield 57, 3) := by decide +kernel
theorem dX9_hopeOf_33 : decode cX9_hopeOf 33 = .ok (.imul, 1) := by decide +kernel
theorem dX9_hopeOf_34 : decode cX9_hopeOf 34 = .ok (.iadd, 1) := by decide +kernel
theorem dX9_hopeOf_35 : decode cX9_hopeOf 35 = .ok (.istore_n 2, 1) := by decide +kernel
theorem dX9_hopeOf_36 : decode cX9_hopeOf 36 = .ok (.iinc 3 1, 3) := by decide +kernel
theorem dX9_hopeOf_39 : decode cX9_hopeOf 39 = .ok (.goto (-35), 3) := by decide +kernel
theorem dX9_hopeOf_42 : decode cX9_hopeOf 42 = .ok (.iload_n 2, 1) := by decide +kernel
theorem dX9_hopeOf_43 : decode cX9_hopeOf 43 = .ok (.ireturn, 1) := by decide +kernel
set_option maxHeartbeats 4000000 in
set_option maxRecDepth 100000 in
theorem c_X9_hopeOf (l : Launch) (D : va_G) (tys : List (ClassId × FieldType)) (base : Nat) (G : iv_G) (h0 : Nat) (g_h0 : Nat → Int32) (r_h0 : Nat → Nat) (a_h0 : G h0 = some (9, g_h0, r_h0)) (x_0 : Int32) (i_x_0 : iv_R 0 2147483647 x_0) : Met l yX9_hopeOf (Cond.code yX9_hopeOf cX9_hopeOf 4 (some .int) :: iv_W0) ({ frames := 0, cells := 0, slots := 0, locals := 0 }) (iv_Pc iv_sh D classes tys base G [.ref h0, .int x_0]) (iv_Qi iv_sh D classes tys base (fun v G' => G = G' ∧ iv_R (-2147483648) 2147483647 v)) 0 0 (iv_A base) := by
  refine iv_head (by decide) (Nat.le_of_ble_eq_true rfl) ?_
  intro p e s m args below meth c ls X hr hlocks hname hB hl
  have X := X
  have hx := X.1.1
  have hb := X.1.2.1
  have hl : lv_has ls 4 [(0, .ref h0), (1, .int x_0)] := hl
  refine lv_iconst (v := 0) hx hb dX9_hopeOf_0 (by decide) ?_
  refine lv_istore_n (lv' := [(2, .int 0), (0, .ref h0), (1, .int x_0)]) hx hb dX9_hopeOf_1 rfl hl (by decide) rfl (fun ls hl => ?_)
  refine lv_iconst (v := 0) hx hb dX9_hopeOf_2 (by decide) ?_
  refine lv_istore_n (lv' := [(3, .int 0), (2, .int 0), (0, .ref h0), (1, .int x_0)]) hx hb dX9_hopeOf_3 rfl hl (by decide) rfl (fun ls hl => ?_)
  have L_4 : ∀ (n_4 : Nat) (H : Heap) (locs : List Loc) (hB : iv_B iv_sh D classes tys base G s.heap H locs) (x1 : Int32) (i_x1 : iv_R (-2147483648) 2147483647 x1) (x2 : Int32) (i_x2 : iv_R 0 10 x2) (hn : (11 - x2.toInt).toNat < n_4) (ls : Array Slot) (hl : lv_has ls 4 [(3, .int x2), (2, .int x1), (0, .ref h0), (1, .int x_0)]), W p l e ({ frames := 0, cells := 0, slots := 0, locals := 0 } : Room) s m args below meth c H locs 0 0 (MQ below (iv_Qi iv_sh D classes tys base (fun v G' => G = G' ∧ iv_R (-2147483648) 2147483647 v)) args s 0 0 (iv_A base)) (F0 m 4 ls []) := by
    intro n_4
    induction n_4 with
    | zero => intro H locs hB x1 i_x1 x2 i_x2 hn ls hl; exact absurd hn (Nat.not_lt_zero _)
    | succ n_4 ih_4 =>
      intro H locs hB x1 i_x1 x2 i_x2 hn ls hl
      refine lv_iload_n hx hb dX9_hopeOf_4 rfl (lv_at hl 0 rfl) ?_
      refine lv_aload_n hx hb dX9_hopeOf_5 rfl (lv_at hl 2 rfl) ?_
      refine iv_getr X ft_X9 hB a_h0 sh_9 0 (by decide) rfl k_fl_X9_15 dX9_hopeOf_6 (fun b3 g_b3 r_b3 e_b3 a_b3 => ?_)
      refine iv_geti X ft_X5 hB a_b3 sh_5 1 (by decide) rfl k_fl_X9_19 dX9_hopeOf_9 (fun x4 e_x4 i_x4 => ?_)
      refine lv_icmp_ge (tgt := 42) hx hb dX9_hopeOf_12 (by decide) (fun c5 => ?_) (fun c5 => ?_)
      · skip
        refine lv_iload_n hx hb dX9_hopeOf_42 rfl (lv_at hl 1 rfl) ?_
        exact iv_iret X hr hlocks hB ⟨rfl, i_x1⟩ dX9_hopeOf_43
      · skip
        have i5_x2 : iv_R 0 9 x2 := (i_x2.cutHi (n := 9) (iv_lt_r (iv_nle c5) i_x4 (by decide)))
        have i6_x4 : iv_R 1 10 x4 := (i_x4.cutLo (n := 1) (iv_lt_l (iv_nle c5) i_x2 (by decide)))
        refine lv_iload_n hx hb dX9_hopeOf_15 rfl (lv_at hl 1 rfl) ?_
        refine lv_iload_n hx hb dX9_hopeOf_16 rfl (lv_at hl 3 rfl) ?_
        refine lv_iload_n hx hb dX9_hopeOf_17 rfl (lv_at hl 0 rfl) ?_
        refine lv_iushr hx hb dX9_hopeOf_18 rfl ?_
        refine lv_topi (fun x8 e_x8 => ?_)
        have i_x8 := iv_R.all x8
        refine lv_iconst (v := 1) hx hb dX9_hopeOf_19 (by decide) ?_
        refine iv_iand_r hx hb q_1 (by decide) dX9_hopeOf_20 (fun x9 e_x9 i_x9 => ?_)
        refine lv_aload_n hx hb dX9_hopeOf_21 rfl (lv_at hl 2 rfl) ?_
        refine iv_getr0 X ft_X9 hB a_h0 sh_9 0 (by decide) rfl k_fl_X9_15 dX9_hopeOf_22 e_b3 ?_
        refine iv_getr X ft_X5 hB a_b3 sh_5 0 (by decide) rfl k_fl_X9_45 dX9_hopeOf_25 (fun b10 g_b10 r_b10 e_b10 a_b10 => ?_)
        refine lv_iload_n hx hb dX9_hopeOf_28 rfl (lv_at hl 0 rfl) ?_
        refine iv_aald X hB a_b10 sh_40 (iv_in i5_x2 (by decide)) dX9_hopeOf_29 (fun b11 g_b11 r_b11 e_b11 a_b11 => ?_)
        refine iv_geti X ft_X1 hB a_b11 sh_1 3 (by decide) rfl k_fl_X9_57 dX9_hopeOf_30 (fun x12 e_x12 i_x12 => ?_)
        refine lv_imul hx hb dX9_hopeOf_33 ?_
        refine lv_topi (fun x13 e_x13 => ?_)
        have i_x13 := iv_R.all x13
        refine lv_iadd hx hb dX9_hopeOf_34 ?_
        refine lv_topi (fun x14 e_x14 => ?_)
        have i_x14 := iv_R.all x14
        refine lv_istore_n (lv' := [(2, .int x14), (3, .int x2), (0, .ref h0), (1, .int x_0)]) hx hb dX9_hopeOf_35 rfl hl (by decide) rfl (fun ls hl => ?_)
        refine iv_iinc hx hb i5_x2 (lo := 1) (hi := 10) (by decide) dX9_hopeOf_36 hl (k := 1) rfl (by decide) (fun x15 ls e_x15 i_x15 hl => ?_)
        have hl : lv_has ls 4 [(3, .int x15), (2, .int x14), (0, .ref h0), (1, .int x_0)] := hl
        refine lv_goto (tgt := 4) hx hb dX9_hopeOf_39 (by decide) ?_
        exact ih_4 _ _ hB x14 i_x14 x15 (i_x15.wk (by decide)) (iv_mup (c := 1) i_x2 (by decide) (by decide) (by omega) hn) _ (lv_sub hl [0, 1, 2, 3] rfl)
  exact L_4 _ _ _ hB 0 (q_0.wk (by decide)) 0 (q_0.wk (by decide)) (Nat.lt_succ_self _) _ (lv_sub hl [0, 1, 2, 3] rfl)
theorem dX9_canMelt_0 : decode cX9_canMelt 0 = .ok (.iconst 0, 1) := by decide +kernel
theorem dX9_canMelt_1 : decode cX9_canMelt 1 = .ok (.istore_n 2, 1) := by decide +kernel
theorem dX9_canMelt_2 : decode cX9_canMelt 2 = .ok (.iload_n 2, 1) := by decide +kernel
theorem dX9_canMelt_3 : decode cX9_canMelt 3 = .ok (.aload_n 0, 1) := by decide +kernel
theorem dX9_canMelt_4 : decode cX9_canMelt 4 = .ok (.getfield 15, 3) := by decide +kernel
theorem dX9_canMelt_7 : decode cX9_canMelt 7 = .ok (.getfield 19, 3) := by decide +kernel
theorem dX9_canMelt_10 : decode cX9_canMelt 10 = .ok (.if_icmp .ge 36, 3) := by decide +kernel
theorem dX9_canMelt_13 : decode cX9_canMelt 13 = .ok (.iload_n 1, 1) := by decide +kernel
theorem dX9_canMelt_14 : decode cX9_canMelt 14 = .ok (.iload_n 2, 1) := by decide +kernel
theorem dX9_canMelt_15 : decode cX9_canMelt 15 = .ok (.iushr, 1) := by decide +kernel
theorem dX9_canMelt_16 : decode cX9_canMelt 16 = .ok (.iconst 1, 1) := by decide +kernel
theorem dX9_canMelt_17 : decode cX9_canMelt 17 = .ok (.iand, 1) := by decide +kernel
theorem dX9_canMelt_18 : decode cX9_canMelt 18 = .ok (.iconst 1, 1) := by decide +kernel
theorem dX9_canMelt_19 : decode cX9_canMelt 19 = .ok (.if_icmp .ne 21, 3) := by decide +kernel
theorem dX9_canMelt_22 : decode cX9_canMelt 22 = .ok (.aload_n 0, 1) := by decide +kernel
theorem dX9_canMelt_23 : decode cX9_canMelt 23 = .ok (.getfield 15, 3) := by decide +kernel
theorem dX9_canMelt_26 : decode cX9_canMelt 26 = .ok (.getfield 45, 3) := by decide +kernel
theorem dX9_canMelt_29 : decode cX9_canMelt 29 = .ok (.iload_n 2, 1) := by decide +kernel
theorem dX9_canMelt_30 : decode cX9_canMelt 30 = .ok (.aaload, 1) := by decide +kernel
theorem dX9_canMelt_31 : decode cX9_canMelt 31 = .ok (.getfield 49, 3) := by decide +kernel
theorem dX9_canMelt_34 : decode cX9_canMelt 34 = .ok (.iconst 2, 1) := by decide +kernel
theorem dX9_canMelt_35 : decode cX9_canMelt 35 = .ok (.if_icmp .ne 5, 3) := by decide +kernel
theorem dX9_canMelt_38 : decode cX9_canMelt 38 = .ok (.iconst 0, 1) := by decide +kernel
theorem dX9_canMelt_39 : decode cX9_canMelt 39 = .ok (.ireturn, 1) := by decide +kernel
theorem dX9_canMelt_40 : decode cX9_canMelt 40 = .ok (.iinc 2 1, 3) := by decide +kernel
theorem dX9_canMelt_43 : decode cX9_canMelt 43 = .ok (.goto (-41), 3) := by decide +kernel
theorem dX9_canMelt_46 : decode cX9_canMelt 46 = .ok (.iconst 1, 1) := by decide +kernel
theorem dX9_canMelt_47 : decode cX9_canMelt 47 = .ok (.ireturn, 1) := by decide +kernel
set_option maxHeartbeats 4000000 in
set_option maxRecDepth 100000 in
theorem c_X9_canMelt (l : Launch) (D : va_G) (tys : List (ClassId × FieldType)) (base : Nat) (G : iv_G) (h0 : Nat) (g_h0 : Nat → Int32) (r_h0 : Nat → Nat) (a_h0 : G h0 = some (9, g_h0, r_h0)) (x_0 : Int32) (i_x_0 : iv_R 0 2147483646 x_0) : Met l yX9_canMelt (Cond.code yX9_canMelt cX9_canMelt 3 (some .boolean) :: iv_W0) ({ frames := 0, cells := 0, slots := 0, locals := 0 }) (iv_Pc iv_sh D classes tys base G [.ref h0, .int x_0]) (iv_Qi iv_sh D classes tys base (fun v G' => G = G' ∧ iv_R 0 1 v)) 0 0 (iv_A base) := by
  refine iv_head (by decide) (Nat.le_of_ble_eq_true rfl) ?_
  intro p e s m args below meth c ls X hr hlocks hname hB hl
  have X := X
  have hx := X.1.1
  have hb := X.1.2.1
  have hl : lv_has ls 3 [(0, .ref h0), (1, .int x_0)] := hl
  refine lv_iconst (v := 0) hx hb dX9_canMelt_0 (by decide) ?_
  refine lv_istore_n (lv' := [(2, .int 0), (0, .ref h0), (1, .int x_0)]) hx hb dX9_canMelt_1 rfl hl (by decide) rfl (fun ls hl => ?_)
  have L_2 : ∀ (n_2 : Nat) (H : Heap) (locs : List Loc) (hB : iv_B iv_sh D classes tys base G s.heap H locs) (x1 : Int32) (i_x1 : iv_R 0 10 x1) (hn : (11 - x1.toInt).toNat < n_2) (ls : Array Slot) (hl : lv_has ls 3 [(2, .int x1), (0, .ref h0), (1, .int x_0)]), W p l e ({ frames := 0, cells := 0, slots := 0, locals := 0 } : Room) s m args below meth c H locs 0 0 (MQ below (iv_Qi iv_sh D classes tys base (fun v G' => G = G' ∧ iv_R 0 1 v)) args s 0 0 (iv_A base)) (F0 m 2 ls []) := by
    intro n_2
    induction n_2 with
    | zero => intro H locs hB x1 i_x1 hn ls hl; exact absurd hn (Nat.not_lt_zero _)
    | succ n_2 ih_2 =>
      intro H locs hB x1 i_x1 hn ls hl
      refine lv_iload_n hx hb dX9_canMelt_2 rfl (lv_at hl 0 rfl) ?_
      refine lv_aload_n hx hb dX9_canMelt_3 rfl (lv_at hl 1 rfl) ?_
      refine iv_getr X ft_X9 hB a_h0 sh_9 0 (by decide) rfl k_fl_X9_15 dX9_canMelt_4 (fun b2 g_b2 r_b2 e_b2 a_b2 => ?_)
      refine iv_geti X ft_X5 hB a_b2 sh_5 1 (by decide) rfl k_fl_X9_19 dX9_canMelt_7 (fun x3 e_x3 i_x3 => ?_)
      refine lv_icmp_ge (tgt := 46) hx hb dX9_canMelt_10 (by decide) (fun c4 => ?_) (fun c4 => ?_)
      · skip
        refine lv_iconst (v := 1) hx hb dX9_canMelt_46 (by decide) ?_
        exact iv_zret X hr hlocks hB (q_1.wk (by decide)) ⟨rfl, (q_1.wk (by decide))⟩ dX9_canMelt_47
      · skip
        have i4_x1 : iv_R 0 9 x1 := (i_x1.cutHi (n := 9) (iv_lt_r (iv_nle c4) i_x3 (by decide)))
        have i5_x3 : iv_R 1 10 x3 := (i_x3.cutLo (n := 1) (iv_lt_l (iv_nle c4) i_x1 (by decide)))
        refine lv_iload_n hx hb dX9_canMelt_13 rfl (lv_at hl 2 rfl) ?_
        refine lv_iload_n hx hb dX9_canMelt_14 rfl (lv_at hl 0 rfl) ?_
        refine lv_iushr hx hb dX9_canMelt_15 rfl ?_
        refine lv_topi (fun x7 e_x7 => ?_)
        have i_x7 := iv_R.all x7
        refine lv_iconst (v := 1) hx hb dX9_canMelt_16 (by decide) ?_
        refine iv_iand_r hx hb q_1 (by decide) dX9_canMelt_17 (fun x8 e_x8 i_x8 => ?_)
        refine lv_iconst (v := 1) hx hb dX9_canMelt_18 (by decide) ?_
        refine lv_icmp_ne (tgt := 40) hx hb dX9_canMelt_19 (by decide) (fun c9 => ?_) (fun c9 => ?_)
        · skip
          have i9_x8 : iv_R 0 0 x8 := iv_ne_hi c9 i_x8 q_1 (by decide)
          refine iv_iinc hx hb i4_x1 (lo := 1) (hi := 10) (by decide) dX9_canMelt_40 hl (k := 0) rfl (by decide) (fun x11 ls e_x11 i_x11 hl => ?_)
          have hl : lv_has ls 3 [(2, .int x11), (0, .ref h0), (1, .int x_0)] := hl
          refine lv_goto (tgt := 2) hx hb dX9_canMelt_43 (by decide) ?_
          exact ih_2 _ _ hB x11 (i_x11.wk (by decide)) (iv_mup (c := 1) i_x1 (by decide) (by decide) (by omega) hn) _ (lv_sub hl [0, 1, 2] rfl)
        · skip
          have i11_x8 : iv_R 1 1 x8 := (i_x8.cutLo (n := 1) (iv_eq_r c9 q_1).1)
          refine lv_aload_n hx hb dX9_canMelt_22 rfl (lv_at hl 1 rfl) ?_
          refine iv_getr0 X ft_X9 hB a_h0 sh_9 0 (by decide) rfl k_fl_X9_15 dX9_canMelt_23 e_b2 ?_
          refine iv_getr X ft_X5 hB a_b2 sh_5 0 (by decide) rfl k_fl_X9_45 dX9_canMelt_26 (fun b13 g_b13 r_b13 e_b13 a_b13 => ?_)
          refine lv_iload_n hx hb dX9_canMelt_29 rfl (lv_at hl 0 rfl) ?_
          refine iv_aald X hB a_b13 sh_40 (iv_in i4_x1 (by decide)) dX9_canMelt_30 (fun b14 g_b14 r_b14 e_b14 a_b14 => ?_)
          refine iv_geti X ft_X1 hB a_b14 sh_1 6 (by decide) rfl k_fl_X9_49 dX9_canMelt_31 (fun x15 e_x15 i_x15 => ?_)
          refine lv_iconst (v := 2) hx hb dX9_canMelt_34 (by decide) ?_
          refine lv_icmp_ne (tgt := 40) hx hb dX9_canMelt_35 (by decide) (fun c16 => ?_) (fun c16 => ?_)
          · skip
            refine iv_iinc hx hb i4_x1 (lo := 1) (hi := 10) (by decide) dX9_canMelt_40 hl (k := 0) rfl (by decide) (fun x17 ls e_x17 i_x17 hl => ?_)
            have hl : lv_has ls 3 [(2, .int x17), (0, .ref h0), (1, .int x_0)] := hl
            refine lv_goto (tgt := 2) hx hb dX9_canMelt_43 (by decide) ?_
            exact ih_2 _ _ hB x17 (i_x17.wk (by decide)) (iv_mup (c := 1) i_x1 (by decide) (by decide) (by omega) hn) _ (lv_sub hl [0, 1, 2] rfl)
          · skip
            have i17_x15 : iv_R 2 2 x15 := ((i_x15.cutLo (n := 2) (iv_eq_r c16 q_2).1).cutHi (n := 2) (iv_eq_r c16 q_2).2)
            refine lv_iconst (v := 0) hx hb dX9_canMelt_38 (by decide) ?_
            exact iv_zret X hr hlocks hB (q_0.wk (by decide)) ⟨rfl, (q_0.wk (by decide))⟩ dX9_canMelt_39
  exact L_2 _ _ _ hB 0 (q_0.wk (by decide)) (Nat.lt_succ_self _) _ (lv_sub hl [0, 1, 2] rfl)
theorem dX9_isLessHarm_0 : decode cX9_isLessHarm 0 = .ok (.aload_n 0, 1) := by decide +kernel
theorem dX9_isLessHarm_1 : decode cX9_isLessHarm 1 = .ok (.iload_n 1, 1) := by decide +kernel
theorem dX9_isLessHarm_2 : decode cX9_isLessHarm 2 = .ok (.invokevirtual 37, 3) := by decide +kernel
theorem dX9_isLessHarm_5 : decode cX9_isLessHarm 5 = .ok (.istore_n 3, 1) := by decide +kernel
theorem dX9_isLessHarm_6 : decode cX9_isLessHarm 6 = .ok (.aload_n 0, 1) := by decide +kernel
theorem dX9_isLessHarm_7 : decode cX9_isLessHarm 7 = .ok (.iload_n 2, 1) := by decide +kernel
theorem dX9_isLessHarm_8 : decode cX9_isLessHarm 8 = .ok (.invokevirtual 37, 3) := by decide +kernel
theorem dX9_isLessHarm_11 : decode cX9_isLessHarm 11 = .ok (.istore 4, 2) := by decide +kernel
theorem dX9_isLessHarm_13 : decode cX9_isLessHarm 13 = .ok (.iload_n 3, 1) := by decide +kernel
theorem dX9_isLessHarm_14 : decode cX9_isLessHarm 14 = .ok (.iload 4, 2) := by decide +kernel
theorem dX9_isLessHarm_16 : decode cX9_isLessHarm 16 = .ok (.if_icmp .lt 20, 3) := by decide +kernel
theorem dX9_isLessHarm_19 : decode cX9_isLessHarm 19 = .ok (.iload_n 3, 1) := by decide +kernel
theorem dX9_isLessHarm_20 : decode cX9_isLessHarm 20 = .ok (.iload 4, 2) := by decide +kernel
theorem dX9_isLessHarm_22 : decode cX9_isLessHarm 22 = .ok (.if_icmp .ne 18, 3) := by decide +kernel
theorem dX9_isLessHarm_25 : decode cX9_isLessHarm 25 = .ok (.iload_n 1, 1) := by decide +kernel
theorem dX9_isLessHarm_26 : decode cX9_isLessHarm 26 = .ok (.invokestatic 40, 3) := by decide +kernel
theorem dX9_isLessHarm_29 : decode cX9_isLessHarm 29 = .ok (.iload_n 2, 1) := by decide +kernel
theorem dX9_isLessHarm_30 : decode cX9_isLessHarm 30 = .ok (.invokestatic 40, 3) := by decide +kernel
theorem dX9_isLessHarm_33 : decode cX9_isLessHarm 33 = .ok (.if_icmp .ge 7, 3) := by decide +kernel
theorem dX9_isLessHarm_36 : decode cX9_isLessHarm 36 = .ok (.iconst 1, 1) := by decide +kernel
theorem dX9_isLessHarm_37 : decode cX9_isLessHarm 37 = .ok (.goto 4, 3) := by decide +kernel
theorem dX9_isLessHarm_40 : decode cX9_isLessHarm 40 = .ok (.iconst 0, 1) := by decide +kernel
theorem dX9_isLessHarm_41 : decode cX9_isLessHarm 41 = .ok (.ireturn, 1) := by decide +kernel
set_option maxHeartbeats 4000000 in
set_option maxRecDepth 100000 in
theorem c_X9_isLessHarm (l : Launch) (D : va_G) (tys : List (ClassId × FieldType)) (base : Nat) (G : iv_G) (h0 : Nat) (g_h0 : Nat → Int32) (r_h0 : Nat → Nat) (a_h0 : G h0 = some (9, g_h0, r_h0)) (x_0 : Int32) (i_x_0 : iv_R 0 2147483646 x_0) (x_1 : Int32) (i_x_1 : iv_R 0 2147483647 x_1) : Met l yX9_isLessHarm (Cond.code yX9_isLessHarm cX9_isLessHarm 5 (some .boolean) :: iv_W0) ({ frames := 1, cells := 0, slots := 0, locals := 23 }) (iv_Pc iv_sh D classes tys base G [.ref h0, .int x_0, .int x_1]) (iv_Qi iv_sh D classes tys base (fun v G' => G = G' ∧ iv_R 0 1 v)) 0 0 (iv_A base) := by
  refine iv_head (by decide) (Nat.le_of_ble_eq_true rfl) ?_
  intro p e s m args below meth c ls X hr hlocks hname hB hl
  have X := X
  have hx := X.1.1
  have hb := X.1.2.1
  have hl : lv_has ls 5 [(0, .ref h0), (1, .int x_0), (2, .int x_1)] := hl
  refine lv_aload_n hx hb dX9_isLessHarm_0 rfl (lv_at hl 0 rfl) ?_
  refine lv_iload_n hx hb dX9_isLessHarm_1 rfl (lv_at hl 1 rfl) ?_
  refine iv_cVi X k_good k_mf_X9_hopeOf k_im_X9_hopeOf k_sel_X9_hopeOf k_ml_X9_37 ft_X9 hB a_h0 sh_9 (As := [.int x_0]) (c_X9_hopeOf l D tys base G h0 g_h0 r_h0 a_h0 x_0 (i_x_0.wk (by decide))) ⟨rfl, rfl⟩ ⟨Nat.le_of_ble_eq_true rfl, Nat.le_of_ble_eq_true rfl⟩ ⟨Nat.le_of_ble_eq_true rfl, Nat.le_of_ble_eq_true rfl⟩ rfl rfl hl.1 (Nat.le_of_ble_eq_true rfl) dX9_isLessHarm_2 (fun x1 G9 H locs hq hB => ?_)
  obtain ⟨rfl, i_x1⟩ := hq
  refine lv_istore_n (lv' := [(3, .int x1), (0, .ref h0), (1, .int x_0), (2, .int x_1)]) hx hb dX9_isLessHarm_5 rfl hl (by decide) rfl (fun ls hl => ?_)
  refine lv_aload_n hx hb dX9_isLessHarm_6 rfl (lv_at hl 1 rfl) ?_
  refine lv_iload_n hx hb dX9_isLessHarm_7 rfl (lv_at hl 3 rfl) ?_
  refine iv_cVi X k_good k_mf_X9_hopeOf k_im_X9_hopeOf k_sel_X9_hopeOf k_ml_X9_37 ft_X9 hB a_h0 sh_9 (As := [.int x_1]) (c_X9_hopeOf l D tys base G h0 g_h0 r_h0 a_h0 x_1 i_x_1) ⟨rfl, rfl⟩ ⟨Nat.le_of_ble_eq_true rfl, Nat.le_of_ble_eq_true rfl⟩ ⟨Nat.le_of_ble_eq_true rfl, Nat.le_of_ble_eq_true rfl⟩ rfl rfl hl.1 (Nat.le_of_ble_eq_true rfl) dX9_isLessHarm_8 (fun x2 G9 H locs hq hB => ?_)
  obtain ⟨rfl, i_x2⟩ := hq
  refine lv_istore (lv' := [(4, .int x2), (3, .int x1), (0, .ref h0), (1, .int x_0), (2, .int x_1)]) hx hb dX9_isLessHarm_11 hl (by decide) rfl (fun ls hl => ?_)
  refine lv_iload_n hx hb dX9_isLessHarm_13 rfl (lv_at hl 1 rfl) ?_
  refine lv_iload hx hb dX9_isLessHarm_14 (lv_at hl 0 rfl) ?_
  refine lv_icmp_lt (tgt := 36) hx hb dX9_isLessHarm_16 (by decide) (fun c3 => ?_) (fun c3 => ?_)
  · skip
    have i3_x1 : iv_R (-2147483648) 2147483646 x1 := (i_x1.cutHi (n := 2147483646) (iv_lt_r c3 i_x2 (by decide)))
    have i4_x2 : iv_R (-2147483647) 2147483647 x2 := (i_x2.cutLo (n := (-2147483647)) (iv_lt_l c3 i_x1 (by decide)))
    refine lv_iconst (v := 1) hx hb dX9_isLessHarm_36 (by decide) ?_
    refine lv_goto (tgt := 41) hx hb dX9_isLessHarm_37 (by decide) ?_
    exact iv_zret X hr hlocks hB (q_1.wk (by decide)) ⟨rfl, (q_1.wk (by decide))⟩ dX9_isLessHarm_41
  · skip
    refine lv_iload_n hx hb dX9_isLessHarm_19 rfl (lv_at hl 1 rfl) ?_
    refine lv_iload hx hb dX9_isLessHarm_20 (lv_at hl 0 rfl) ?_
    refine lv_icmp_ne (tgt := 40) hx hb dX9_isLessHarm_22 (by decide) (fun c6 => ?_) (fun c6 => ?_)
    · skip
      refine lv_iconst (v := 0) hx hb dX9_isLessHarm_40 (by decide) ?_
      exact iv_zret X hr hlocks hB (q_0.wk (by decide)) ⟨rfl, (q_0.wk (by decide))⟩ dX9_isLessHarm_41
    · skip
      refine lv_iload_n hx hb dX9_isLessHarm_25 rfl (lv_at hl 3 rfl) ?_
      refine iv_cSi X k_good k_mf_J6_bitCount_0f7a4 k_st_J6_bitCount_0f7a4 k_ml_X9_40 hB (As := [.int x_0]) (c_J6_bitCount_0f7a4 l D tys base G x_0 (i_x_0.wk (by decide))) ⟨rfl, rfl⟩ ⟨Nat.le_of_ble_eq_true rfl, Nat.le_of_ble_eq_true rfl⟩ ⟨Nat.le_of_ble_eq_true rfl, Nat.le_of_ble_eq_true rfl⟩ rfl rfl hl.1 (Nat.le_of_ble_eq_true rfl) dX9_isLessHarm_26 (fun x7 G9 H locs hq hB => ?_)
      obtain ⟨rfl, i_x7⟩ := hq
      refine lv_iload_n hx hb dX9_isLessHarm_29 rfl (lv_at hl 4 rfl) ?_
      refine iv_cSi X k_good k_mf_J6_bitCount_0f7a4 k_st_J6_bitCount_0f7a4 k_ml_X9_40 hB (As := [.int x_1]) (c_J6_bitCount_0f7a4 l D tys base G x_1 (i_x_1.wk (by decide))) ⟨rfl, rfl⟩ ⟨Nat.le_of_ble_eq_true rfl, Nat.le_of_ble_eq_true rfl⟩ ⟨Nat.le_of_ble_eq_true rfl, Nat.le_of_ble_eq_true rfl⟩ rfl rfl hl.1 (Nat.le_of_ble_eq_true rfl) dX9_isLessHarm_30 (fun x8 G9 H locs hq hB => ?_)
      obtain ⟨rfl, i_x8⟩ := hq
      refine lv_icmp_ge (tgt := 40) hx hb dX9_isLessHarm_33 (by decide) (fun c9 => ?_) (fun c9 => ?_)
      · skip
        refine lv_iconst (v := 0) hx hb dX9_isLessHarm_40 (by decide) ?_
        exact iv_zret X hr hlocks hB (q_0.wk (by decide)) ⟨rfl, (q_0.wk (by decide))⟩ dX9_isLessHarm_41
      · skip
        have i9_x7 : iv_R 0 62 x7 := (i_x7.cutHi (n := 62) (iv_lt_r (iv_nle c9) i_x8 (by decide)))
        have i10_x8 : iv_R 1 63 x8 := (i_x8.cutLo (n := 1) (iv_lt_l (iv_nle c9) i_x7 (by decide)))
        refine lv_iconst (v := 1) hx hb dX9_isLessHarm_36 (by decide) ?_
        refine lv_goto (tgt := 41) hx hb dX9_isLessHarm_37 (by decide) ?_
        exact iv_zret X hr hlocks hB (q_1.wk (by decide)) ⟨rfl, (q_1.wk (by decide))⟩ dX9_isLessHarm_41
theorem dX9_weightOf_0 : decode cX9_weightOf 0 = .ok (.iconst 0, 1) := by decide +kernel
theorem dX9_weightOf_1 : decode cX9_weightOf 1 = .ok (.istore_n 2, 1) := by decide +kernel
theorem dX9_weightOf_2 : decode cX9_weightOf 2 = .ok (.iconst 0, 1) := by decide +kernel
theorem dX9_weightOf_3 : decode cX9_weightOf 3 = .ok (.istore_n 3, 1) := by decide +kernel
theorem dX9_weightOf_4 : decode cX9_weightOf 4 = .ok (.iload_n 3, 1) := by decide +kernel
theorem dX9_weightOf_5 : decode cX9_weightOf 5 = .ok (.aload_n 0, 1) := by decide +kernel
theorem dX9_weightOf_6 : decode cX9_weightOf 6 = .ok (.getfield 15, 3) := by decide +kernel
theorem dX9_weightOf_9 : decode cX9_weightOf 9 = .ok (.getfield 19, 3) := by decide +kernel
theorem dX9_weightOf_12 : decode cX9_weightOf 12 = .ok (.if_icmp .ge 30, 3) := by decide +kernel
theorem dX9_weightOf_15 : decode cX9_weightOf 15 = .ok (.iload_n 2, 1) := by decide +kernel
theorem dX9_weightOf_16 : decode cX9_weightOf 16 = .ok (.iload_n 1, 1) := by decide +kernel
theorem dX9_weightOf_17 : decode cX9_weightOf 17 = .ok (.iload_n 3, 1) := by decide +kernel
theorem dX9_weightOf_18 : decode cX9_weightOf 18 = .ok (.iushr, 1) := by decide +kernel
theorem dX9_weightOf_19 : decode cX9_weightOf 19 = .ok (.iconst 1, 1) := by decide +kernel
theorem dX9_weightOf_20 : decode cX9_weightOf 20 = .ok (.iand, 1) := by decide +kernel
theorem dX9_weightOf_21 : decode cX9_weightOf 21 = .ok (.aload_n 0, 1) := by decide +kernel
theorem dX9_weightOf_22 : decode cX9_weightOf 22 = .ok (.getfield 15, 3) := by decide +kernel
theorem dX9_weightOf_25 : decode cX9_weightOf 25 = .ok (.getfield 45, 3) := by decide +kernel
theorem dX9_weightOf_28 : decode cX9_weightOf 28 = .ok (.iload_n 3, 1) := by decide +kernel
theorem dX9_weightOf_29 : decode cX9_weightOf 29 = .ok (.aaload, 1) := by decide +kernel
theorem dX9_weightOf_30 : decode cX9_weightOf 30 = .ok (.getfield 54, 3) := by decide +kernel
theorem dX9_weightOf_33 : decode cX9_weightOf 33 = .ok (.imul, 1) := by decide +kernel
theorem dX9_weightOf_34 : decode cX9_weightOf 34 = .ok (.iadd, 1) := by decide +kernel
theorem dX9_weightOf_35 : decode cX9_weightOf 35 = .ok (.istore_n 2, 1) := by decide +kernel
theorem dX9_weightOf_36 : decode cX9_weightOf 36 = .ok (.iinc 3 1, 3) := by decide +kernel
theorem dX9_weightOf_39 : decode cX9_weightOf 39 = .ok (.goto (-35), 3) := by decide +kernel
theorem dX9_weightOf_42 : decode cX9_weightOf 42 = .ok (.iload_n 2, 1) := by decide +kernel
theorem dX9_weightOf_43 : decode cX9_weightOf 43 = .ok (.ireturn, 1) := by decide +kernel
set_option maxHeartbeats 4000000 in
set_option maxRecDepth 100000 in
theorem c_X9_weightOf (l : Launch) (D : va_G) (tys : List (ClassId × FieldType)) (base : Nat) (G : iv_G) (h0 : Nat) (g_h0 : Nat → Int32) (r_h0 : Nat → Nat) (a_h0 : G h0 = some (9, g_h0, r_h0)) (x_0 : Int32) (i_x_0 : iv_R 0 2147483646 x_0) : Met l yX9_weightOf (Cond.code yX9_weightOf cX9_weightOf 4 (some .int) :: iv_W0) ({ frames := 0, cells := 0, slots := 0, locals := 0 }) (iv_Pc iv_sh D classes tys base G [.ref h0, .int x_0]) (iv_Qi iv_sh D classes tys base (fun v G' => G = G' ∧ iv_R (-2147483648) 2147483647 v)) 0 0 (iv_A base) := by
  refine iv_head (by decide) (Nat.le_of_ble_eq_true rfl) ?_
  intro p e s m args below meth c ls X hr hlocks hname hB hl
  have X := X
  have hx := X.1.1
  have hb := X.1.2.1
  have hl : lv_has ls 4 [(0, .ref h0), (1, .int x_0)] := hl
  refine lv_iconst (v := 0) hx hb dX9_weightOf_0 (by decide) ?_
  refine lv_istore_n (lv' := [(2, .int 0), (0, .ref h0), (1, .int x_0)]) hx hb dX9_weightOf_1 rfl hl (by decide) rfl (fun ls hl => ?_)
  refine lv_iconst (v := 0) hx hb dX9_weightOf_2 (by decide) ?_
  refine lv_istore_n (lv' := [(3, .int 0), (2, .int 0), (0, .ref h0), (1, .int x_0)]) hx hb dX9_weightOf_3 rfl hl (by decide) rfl (fun ls hl => ?_)
  have L_4 : ∀ (n_4 : Nat) (H : Heap) (locs : List Loc) (hB : iv_B iv_sh D classes tys base G s.heap H locs) (x1 : Int32) (i_x1 : iv_R (-2147483648) 2147483647 x1) (x2 : Int32) (i_x2 : iv_R 0 10 x2) (hn : (11 - x2.toInt).toNat < n_4) (ls : Array Slot) (hl : lv_has ls 4 [(3, .int x2), (2, .int x1), (0, .ref h0), (1, .int x_0)]), W p l e ({ frames := 0, cells := 0, slots := 0, locals := 0 } : Room) s m args below meth c H locs 0 0 (MQ below (iv_Qi iv_sh D classes tys base (fun v G' => G = G' ∧ iv_R (-2147483648) 2147483647 v)) args s 0 0 (iv_A base)) (F0 m 4 ls []) := by
    intro n_4
    induction n_4 with
    | zero => intro H locs hB x1 i_x1 x2 i_x2 hn ls hl; exact absurd hn (Nat.not_lt_zero _)
    | succ n_4 ih_4 =>
      intro H locs hB x1 i_x1 x2 i_x2 hn ls hl
      refine lv_iload_n hx hb dX9_weightOf_4 rfl (lv_at hl 0 rfl) ?_
      refine lv_aload_n hx hb dX9_weightOf_5 rfl (lv_at hl 2 rfl) ?_
      refine iv_getr X ft_X9 hB a_h0 sh_9 0 (by decide) rfl k_fl_X9_15 dX9_weightOf_6 (fun b3 g_b3 r_b3 e_b3 a_b3 => ?_)
      refine iv_geti X ft_X5 hB a_b3 sh_5 1 (by decide) rfl k_fl_X9_19 dX9_weightOf_9 (fun x4 e_x4 i_x4 => ?_)
      refine lv_icmp_ge (tgt := 42) hx hb dX9_weightOf_12 (by decide) (fun c5 => ?_) (fun c5 => ?_)
      · skip
        refine lv_iload_n hx hb dX9_weightOf_42 rfl (lv_at hl 1 rfl) ?_
        exact iv_iret X hr hlocks hB ⟨rfl, i_x1⟩ dX9_weightOf_43
      · skip
        have i5_x2 : iv_R 0 9 x2 := (i_x2.cutHi (n := 9) (iv_lt_r (iv_nle c5) i_x4 (by decide)))
        have i6_x4 : iv_R 1 10 x4 := (i_x4.cutLo (n := 1) (iv_lt_l (iv_nle c5) i_x2 (by decide)))
        refine lv_iload_n hx hb dX9_weightOf_15 rfl (lv_at hl 1 rfl) ?_
        refine lv_iload_n hx hb dX9_weightOf_16 rfl (lv_at hl 3 rfl) ?_
        refine lv_iload_n hx hb dX9_weightOf_17 rfl (lv_at hl 0 rfl) ?_
        refine lv_iushr hx hb dX9_weightOf_18 rfl ?_
        refine lv_topi (fun x8 e_x8 => ?_)
        have i_x8 := iv_R.all x8
        refine lv_iconst (v := 1) hx hb dX9_weightOf_19 (by decide) ?_
        refine iv_iand_r hx hb q_1 (by decide) dX9_weightOf_20 (fun x9 e_x9 i_x9 => ?_)
        refine lv_aload_n hx hb dX9_weightOf_21 rfl (lv_at hl 2 rfl) ?_
        refine iv_getr0 X ft_X9 hB a_h0 sh_9 0 (by decide) rfl k_fl_X9_15 dX9_weightOf_22 e_b3 ?_
        refine iv_getr X ft_X5 hB a_b3 sh_5 0 (by decide) rfl k_fl_X9_45 dX9_weightOf_25 (fun b10 g_b10 r_b10 e_b10 a_b10 => ?_)
        refine lv_iload_n hx hb dX9_weightOf_28 rfl (lv_at hl 0 rfl) ?_
        refine iv_aald X hB a_b10 sh_40 (iv_in i5_x2 (by decide)) dX9_weightOf_29 (fun b11 g_b11 r_b11 e_b11 a_b11 => ?_)
        refine iv_geti X ft_X1 hB a_b11 sh_1 2 (by decide) rfl k_fl_X9_54 dX9_weightOf_30 (fun x12 e_x12 i_x12 => ?_)
        refine lv_imul hx hb dX9_weightOf_33 ?_
        refine lv_topi (fun x13 e_x13 => ?_)
        have i_x13 := iv_R.all x13
        refine lv_iadd hx hb dX9_weightOf_34 ?_
        refine lv_topi (fun x14 e_x14 => ?_)
        have i_x14 := iv_R.all x14
        refine lv_istore_n (lv' := [(2, .int x14), (3, .int x2), (0, .ref h0), (1, .int x_0)]) hx hb dX9_weightOf_35 rfl hl (by decide) rfl (fun ls hl => ?_)
        refine iv_iinc hx hb i5_x2 (lo := 1) (hi := 10) (by decide) dX9_weightOf_36 hl (k := 1) rfl (by decide) (fun x15 ls e_x15 i_x15 hl => ?_)
        have hl : lv_has ls 4 [(3, .int x15), (2, .int x14), (0, .ref h0), (1, .int x_0)] := hl
        refine lv_goto (tgt := 4) hx hb dX9_weightOf_39 (by decide) ?_
        exact ih_4 _ _ hB x14 i_x14 x15 (i_x15.wk (by decide)) (iv_mup (c := 1) i_x2 (by decide) (by decide) (by omega) hn) _ (lv_sub hl [0, 1, 2, 3] rfl)
  exact L_4 _ _ _ hB 0 (q_0.wk (by decide)) 0 (q_0.wk (by decide)) (Nat.lt_succ_self _) _ (lv_sub hl [0, 1, 2, 3] rfl)
theorem dX9_leastHarm_0 : decode cX9_leastHarm 0 = .ok (.iconst (-1), 1) := by decide +kernel
theorem dX9_leastHarm_1 : decode cX9_leastHarm 1 = .ok (.istore_n 2, 1) := by decide +kernel
theorem dX9_leastHarm_2 : decode cX9_leastHarm 2 = .ok (.iconst 0, 1) := by decide +kernel
theorem dX9_leastHarm_3 : decode cX9_leastHarm 3 = .ok (.istore_n 3, 1) := by decide +kernel
theorem dX9_leastHarm_4 : decode cX9_leastHarm 4 = .ok (.iload_n 3, 1) := by decide +kernel
theorem dX9_leastHarm_5 : decode cX9_leastHarm 5 = .ok (.iconst 1, 1) := by decide +kernel
theorem dX9_leastHarm_6 : decode cX9_leastHarm 6 = .ok (.aload_n 0, 1) := by decide +kernel
theorem dX9_leastHarm_7 : decode cX9_leastHarm 7 = .ok (.getfield 15, 3) := by decide +kernel
theorem dX9_leastHarm_10 : decode cX9_leastHarm 10 = .ok (.getfield 19, 3) := by decide +kernel
theorem dX9_leastHarm_13 : decode cX9_leastHarm 13 = .ok (.ishl, 1) := by decide +kernel
theorem dX9_leastHarm_14 : decode cX9_leastHarm 14 = .ok (.if_icmp .ge 42, 3) := by decide +kernel
theorem dX9_leastHarm_17 : decode cX9_leastHarm 17 = .ok (.aload_n 0, 1) := by decide +kernel
theorem dX9_leastHarm_18 : decode cX9_leastHarm 18 = .ok (.iload_n 3, 1) := by decide +kernel
theorem dX9_leastHarm_19 : decode cX9_leastHarm 19 = .ok (.invokevirtual 25, 3) := by decide +kernel
theorem dX9_leastHarm_22 : decode cX9_leastHarm 22 = .ok (.ifCond .eq 28, 3) := by decide +kernel
theorem dX9_leastHarm_25 : decode cX9_leastHarm 25 = .ok (.aload_n 0, 1) := by decide +kernel
theorem dX9_leastHarm_26 : decode cX9_leastHarm 26 = .ok (.iload_n 3, 1) := by decide +kernel
theorem dX9_leastHarm_27 : decode cX9_leastHarm 27 = .ok (.invokevirtual 29, 3) := by decide +kernel
theorem dX9_leastHarm_30 : decode cX9_leastHarm 30 = .ok (.iload_n 1, 1) := by decide +kernel
theorem dX9_leastHarm_31 : decode cX9_leastHarm 31 = .ok (.if_icmp .lt 19, 3) := by decide +kernel
theorem dX9_leastHarm_34 : decode cX9_leastHarm 34 = .ok (.iload_n 2, 1) := by decide +kernel
theorem dX9_leastHarm_35 : decode cX9_leastHarm 35 = .ok (.iconst (-1), 1) := by decide +kernel
theorem dX9_leastHarm_36 : decode cX9_leastHarm 36 = .ok (.if_icmp .eq 12, 3) := by decide +kernel
theorem dX9_leastHarm_39 : decode cX9_leastHarm 39 = .ok (.aload_n 0, 1) := by decide +kernel
theorem dX9_leastHarm_40 : decode cX9_leastHarm 40 = .ok (.iload_n 3, 1) := by decide +kernel
theorem dX9_leastHarm_41 : decode cX9_leastHarm 41 = .ok (.iload_n 2, 1) := by decide +kernel
theorem dX9_leastHarm_42 : decode cX9_leastHarm 42 = .ok (.invokevirtual 33, 3) := by decide +kernel
theorem dX9_leastHarm_45 : decode cX9_leastHarm 45 = .ok (.ifCond .eq 5, 3) := by decide +kernel
theorem dX9_leastHarm_48 : decode cX9_leastHarm 48 = .ok (.iload_n 3, 1) := by decide +kernel
theorem dX9_leastHarm_49 : decode cX9_leastHarm 49 = .ok (.istore_n 2, 1) := by decide +kernel
theorem dX9_leastHarm_50 : decode cX9_leastHarm 50 = .ok (.iinc 3 1, 3) := by decide +kernel
theorem dX9_leastHarm_53 : decode cX9_leastHarm 53 = .ok (.goto (-49), 3) := by decide +kernel
theorem dX9_leastHarm_56 : decode cX9_leastHarm 56 = .ok (.iload_n 2, 1) := by decide +kernel
theorem dX9_leastHarm_57 : decode cX9_leastHarm 57 = .ok (.ireturn, 1) := by decide +kernel
set_option maxHeartbeats 4000000 in
set_option maxRecDepth 100000 in
theorem c_X9_leastHarm (l : Launch) (D : va_G) (tys : List (ClassId × FieldType)) (base : Nat) (G : iv_G) (h0 : Nat) (g_h0 : Nat → Int32) (r_h0 : Nat → Nat) (a_h0 : G h0 = some (9, g_h0, r_h0)) (x_0 : Int32) (i_x_0 : iv_R 1 999 x_0) : Met l yX9_leastHarm (Cond.code yX9_leastHarm cX9_leastHarm 4 (some .int) :: iv_W0) ({ frames := 2, cells := 0, slots := 0, locals := 47 }) (iv_Pc iv_sh D classes tys base G [.ref h0, .int x_0]) (iv_Qi iv_sh D classes tys base (fun v G' => G = G' ∧ iv_R (-1) 2147483647 v)) 0 0 (iv_A base) := by
  refine iv_head (by decide) (Nat.le_of_ble_eq_true rfl) ?_
  intro p e s m args below meth c ls X hr hlocks hname hB hl
  have X := X
  have hx := X.1.1
  have hb := X.1.2.1
  have hl : lv_has ls 4 [(0, .ref h0), (1, .int x_0)] := hl
  refine lv_iconst (v := (-1)) hx hb dX9_leastHarm_0 (by decide) ?_
  refine lv_istore_n (lv' := [(2, .int (-1)), (0, .ref h0), (1, .int x_0)]) hx hb dX9_leastHarm_1 rfl hl (by decide) rfl (fun ls hl => ?_)
  refine lv_iconst (v := 0) hx hb dX9_leastHarm_2 (by decide) ?_
  refine lv_istore_n (lv' := [(3, .int 0), (2, .int (-1)), (0, .ref h0), (1, .int x_0)]) hx hb dX9_leastHarm_3 rfl hl (by decide) rfl (fun ls hl => ?_)
  have L_4 : ∀ (n_4 : Nat) (H : Heap) (locs : List Loc) (hB : iv_B iv_sh D classes tys base G s.heap H locs) (x1 : Int32) (i_x1 : iv_R (-1) 2147483647 x1) (x2 : Int32) (i_x2 : iv_R 0 2147483647 x2) (hn : (2147483648 - x2.toInt).toNat < n_4) (ls : Array Slot) (hl : lv_has ls 4 [(3, .int x2), (2, .int x1), (0, .ref h0), (1, .int x_0)]), W p l e ({ frames := 2, cells := 0, slots := 0, locals := 47 } : Room) s m args below meth c H locs 0 0 (MQ below (iv_Qi iv_sh D classes tys base (fun v G' => G = G' ∧ iv_R (-1) 2147483647 v)) args s 0 0 (iv_A base)) (F0 m 4 ls []) := by
    intro n_4
    induction n_4 with
    | zero => intro H locs hB x1 i_x1 x2 i_x2 hn ls hl; exact absurd hn (Nat.not_lt_zero _)
    | succ n_4 ih_4 =>
      intro H locs hB x1 i_x1 x2 i_x2 hn ls hl
      refine lv_iload_n hx hb dX9_leastHarm_4 rfl (lv_at hl 0 rfl) ?_
      refine lv_iconst (v := 1) hx hb dX9_leastHarm_5 (by decide) ?_
      refine lv_aload_n hx hb dX9_leastHarm_6 rfl (lv_at hl 2 rfl) ?_
      refine iv_getr X ft_X9 hB a_h0 sh_9 0 (by decide) rfl k_fl_X9_15 dX9_leastHarm_7 (fun b3 g_b3 r_b3 e_b3 a_b3 => ?_)
      refine iv_geti X ft_X5 hB a_b3 sh_5 1 (by decide) rfl k_fl_X9_19 dX9_leastHarm_10 (fun x4 e_x4 i_x4 => ?_)
      refine lv_ishl hx hb dX9_leastHarm_13 ?_
      refine lv_topi (fun x5 e_x5 => ?_)
      have i_x5 := iv_R.all x5
      refine lv_icmp_ge (tgt := 56) hx hb dX9_leastHarm_14 (by decide) (fun c6 => ?_) (fun c6 => ?_)
      · skip
        refine lv_iload_n hx hb dX9_leastHarm_56 rfl (lv_at hl 1 rfl) ?_
        exact iv_iret X hr hlocks hB ⟨rfl, i_x1⟩ dX9_leastHarm_57
      · skip
        have i6_x2 : iv_R 0 2147483646 x2 := (i_x2.cutHi (n := 2147483646) (iv_lt_r (iv_nle c6) i_x5 (by decide)))
        have i7_x5 : iv_R 1 2147483647 x5 := (i_x5.cutLo (n := 1) (iv_lt_l (iv_nle c6) i_x2 (by decide)))
        refine lv_aload_n hx hb dX9_leastHarm_17 rfl (lv_at hl 2 rfl) ?_
        refine lv_iload_n hx hb dX9_leastHarm_18 rfl (lv_at hl 0 rfl) ?_
        refine iv_cVi X k_good k_mf_X9_canMelt k_im_X9_canMelt k_sel_X9_canMelt k_ml_X9_25 ft_X9 hB a_h0 sh_9 (As := [.int x2]) (c_X9_canMelt l D tys base G h0 g_h0 r_h0 a_h0 x2 i6_x2) ⟨rfl, rfl⟩ ⟨Nat.le_of_ble_eq_true rfl, Nat.le_of_ble_eq_true rfl⟩ ⟨Nat.le_of_ble_eq_true rfl, Nat.le_of_ble_eq_true rfl⟩ rfl rfl hl.1 (Nat.le_of_ble_eq_true rfl) dX9_leastHarm_19 (fun x9 G9 H locs hq hB => ?_)
        obtain ⟨rfl, i_x9⟩ := hq
        refine lv_if_eq (tgt := 50) hx hb dX9_leastHarm_22 (by decide) (fun c10 => ?_) (fun c10 => ?_)
        · skip
          have i10_x9 : iv_R 0 0 x9 := (i_x9.cutHi (n := 0) (iv_eq_r c10 q_0).2)
          refine iv_iinc hx hb i6_x2 (lo := 1) (hi := 2147483647) (by decide) dX9_leastHarm_50 hl (k := 0) rfl (by decide) (fun x12 ls e_x12 i_x12 hl => ?_)
          have hl : lv_has ls 4 [(3, .int x12), (2, .int x1), (0, .ref h0), (1, .int x_0)] := hl
          refine lv_goto (tgt := 4) hx hb dX9_leastHarm_53 (by decide) ?_
          exact ih_4 _ _ hB x1 i_x1 x12 (i_x12.wk (by decide)) (iv_mup (c := 1) i_x2 (by decide) (by decide) (by omega) hn) _ (lv_sub hl [0, 1, 2, 3] rfl)
        · skip
          have i12_x9 : iv_R 1 1 x9 := iv_ne_lo c10 i_x9 q_0 (by decide)
          refine lv_aload_n hx hb dX9_leastHarm_25 rfl (lv_at hl 2 rfl) ?_
          refine lv_iload_n hx hb dX9_leastHarm_26 rfl (lv_at hl 0 rfl) ?_
          refine iv_cVi X k_good k_mf_X9_weightOf k_im_X9_weightOf k_sel_X9_weightOf k_ml_X9_29 ft_X9 hB a_h0 sh_9 (As := [.int x2]) (c_X9_weightOf l D tys base G h0 g_h0 r_h0 a_h0 x2 i6_x2) ⟨rfl, rfl⟩ ⟨Nat.le_of_ble_eq_true rfl, Nat.le_of_ble_eq_true rfl⟩ ⟨Nat.le_of_ble_eq_true rfl, Nat.le_of_ble_eq_true rfl⟩ rfl rfl hl.1 (Nat.le_of_ble_eq_true rfl) dX9_leastHarm_27 (fun x14 G9 H locs hq hB => ?_)
          obtain ⟨rfl, i_x14⟩ := hq
          refine lv_iload_n hx hb dX9_leastHarm_30 rfl (lv_at hl 3 rfl) ?_
          refine lv_icmp_lt (tgt := 50) hx hb dX9_leastHarm_31 (by decide) (fun c15 => ?_) (fun c15 => ?_)
          · skip
            have i15_x14 : iv_R (-2147483648) 998 x14 := (i_x14.cutHi (n := 998) (iv_lt_r c15 i_x_0 (by decide)))
            refine iv_iinc hx hb i6_x2 (lo := 1) (hi := 2147483647) (by decide) dX9_leastHarm_50 hl (k := 0) rfl (by decide) (fun x17 ls e_x17 i_x17 hl => ?_)
            have hl : lv_has ls 4 [(3, .int x17), (2, .int x1), (0, .ref h0), (1, .int x_0)] := hl
            refine lv_goto (tgt := 4) hx hb dX9_leastHarm_53 (by decide) ?_
            exact ih_4 _ _ hB x1 i_x1 x17 (i_x17.wk (by decide)) (iv_mup (c := 1) i_x2 (by decide) (by decide) (by omega) hn) _ (lv_sub hl [0, 1, 2, 3] rfl)
          · skip
            have i17_x14 : iv_R 1 2147483647 x14 := (i_x14.cutLo (n := 1) (iv_le_l (iv_nlt c15) i_x_0))
            refine lv_iload_n hx hb dX9_leastHarm_34 rfl (lv_at hl 1 rfl) ?_
            refine lv_iconst (v := (-1)) hx hb dX9_leastHarm_35 (by decide) ?_
            refine lv_icmp_eq (tgt := 48) hx hb dX9_leastHarm_36 (by decide) (fun c19 => ?_) (fun c19 => ?_)
            · skip
              have i19_x1 : iv_R (-1) (-1) x1 := (i_x1.cutHi (n := (-1)) (iv_eq_r c19 q_n1).2)
              refine lv_iload_n hx hb dX9_leastHarm_48 rfl (lv_at hl 0 rfl) ?_
              refine lv_istore_n (lv' := [(2, .int x2), (3, .int x2), (0, .ref h0), (1, .int x_0)]) hx hb dX9_leastHarm_49 rfl hl (by decide) rfl (fun ls hl => ?_)
              refine iv_iinc hx hb i6_x2 (lo := 1) (hi := 2147483647) (by decide) dX9_leastHarm_50 hl (k := 1) rfl (by decide) (fun x21 ls e_x21 i_x21 hl => ?_)
              have hl : lv_has ls 4 [(3, .int x21), (2, .int x2), (0, .ref h0), (1, .int x_0)] := hl
              refine lv_goto (tgt := 4) hx hb dX9_leastHarm_53 (by decide) ?_
              exact ih_4 _ _ hB x2 (i6_x2.wk (by decide)) x21 (i_x21.wk (by decide)) (iv_mup (c := 1) i_x2 (by decide) (by decide) (by omega) hn) _ (lv_sub hl [0, 1, 2, 3] rfl)
            · skip
              have i21_x1 : iv_R 0 2147483647 x1 := iv_ne_lo c19 i_x1 q_n1 (by decide)
              refine lv_aload_n hx hb dX9_leastHarm_39 rfl (lv_at hl 2 rfl) ?_
              refine lv_iload_n hx hb dX9_leastHarm_40 rfl (lv_at hl 0 rfl) ?_
              refine lv_iload_n hx hb dX9_leastHarm_41 rfl (lv_at hl 1 rfl) ?_
              refine iv_cVi X k_good k_mf_X9_isLessHarm k_im_X9_isLessHarm k_sel_X9_isLessHarm k_ml_X9_33 ft_X9 hB a_h0 sh_9 (As := [.int x2, .int x1]) (c_X9_isLessHarm l D tys base G h0 g_h0 r_h0 a_h0 x2 i6_x2 x1 i21_x1) ⟨rfl, rfl⟩ ⟨Nat.le_of_ble_eq_true rfl, Nat.le_of_ble_eq_true rfl⟩ ⟨Nat.le_of_ble_eq_true rfl, Nat.le_of_ble_eq_true rfl⟩ rfl rfl hl.1 (Nat.le_of_ble_eq_true rfl) dX9_leastHarm_42 (fun x23 G9 H locs hq hB => ?_)
              obtain ⟨rfl, i_x23⟩ := hq
              refine lv_if_eq (tgt := 50) hx hb dX9_leastHarm_45 (by decide) (fun c24 => ?_) (fun c24 => ?_)
              · skip
                have i24_x23 : iv_R 0 0 x23 := (i_x23.cutHi (n := 0) (iv_eq_r c24 q_0).2)
                refine iv_iinc hx hb i6_x2 (lo := 1) (hi := 2147483647) (by decide) dX9_leastHarm_50 hl (k := 0) rfl (by decide) (fun x26 ls e_x26 i_x26 hl => ?_)
                have hl : lv_has ls 4 [(3, .int x26), (2, .int x1), (0, .ref h0), (1, .int x_0)] := hl
                refine lv_goto (tgt := 4) hx hb dX9_leastHarm_53 (by decide) ?_
                exact ih_4 _ _ hB x1 (i21_x1.wk (by decide)) x26 (i_x26.wk (by decide)) (iv_mup (c := 1) i_x2 (by decide) (by decide) (by omega) hn) _ (lv_sub hl [0, 1, 2, 3] rfl)
              · skip
                have i26_x23 : iv_R 1 1 x23 := iv_ne_lo c24 i_x23 q_0 (by decide)
                refine lv_iload_n hx hb dX9_leastHarm_48 rfl (lv_at hl 0 rfl) ?_
                refine lv_istore_n (lv' := [(2, .int x2), (3, .int x2), (0, .ref h0), (1, .int x_0)]) hx hb dX9_leastHarm_49 rfl hl (by decide) rfl (fun ls hl => ?_)
                refine iv_iinc hx hb i6_x2 (lo := 1) (hi := 2147483647) (by decide) dX9_leastHarm_50 hl (k := 1) rfl (by decide) (fun x28 ls e_x28 i_x28 hl => ?_)
                have hl : lv_has ls 4 [(3, .int x28), (2, .int x2), (0, .ref h0), (1, .int x_0)] := hl
                refine lv_goto (tgt := 4) hx hb dX9_leastHarm_53 (by decide) ?_
                exact ih_4 _ _ hB x2 (i6_x2.wk (by decide)) x28 (i_x28.wk (by decide)) (iv_mup (c := 1) i_x2 (by decide) (by decide) (by omega) hn) _ (lv_sub hl [0, 1, 2, 3] rfl)
  exact L_4 _ _ _ hB (-1) (q_n1.wk (by decide)) 0 (q_0.wk (by decide)) (Nat.lt_succ_self _) _ (lv_sub hl [0, 1, 2, 3] rfl)
theorem dX11_melts_0 : decode cX11_melts 0 = .ok (.iload_n 1, 1) := by decide +kernel
theorem dX11_melts_1 : decode cX11_melts 1 = .ok (.iconst 1, 1) := by decide +kernel
theorem dX11_melts_2 : decode cX11_melts 2 = .ok (.sipush 999, 3) := by decide +kernel
theorem dX11_melts_5 : decode cX11_melts 5 = .ok (.invokestatic 83, 3) := by decide +kernel
theorem dX11_melts_8 : decode cX11_melts 8 = .ok (.ifCond .ne 5, 3) := by decide +kernel
theorem dX11_melts_11 : decode cX11_melts 11 = .ok (.iconst (-1), 1) := by decide +kernel
theorem dX11_melts_12 : decode cX11_melts 12 = .ok (.ireturn, 1) := by decide +kernel
theorem dX11_melts_13 : decode cX11_melts 13 = .ok (.aload_n 0, 1) := by decide +kernel
theorem dX11_melts_14 : decode cX11_melts 14 = .ok (.getfield 58, 3) := by decide +kernel
theorem dX11_melts_17 : decode cX11_melts 17 = .ok (.iload_n 1, 1) := by decide +kernel
theorem dX11_melts_18 : decode cX11_melts 18 = .ok (.invokevirtual 313, 3) := by decide +kernel
theorem dX11_melts_21 : decode cX11_melts 21 = .ok (.istore_n 3, 1) := by decide +kernel
theorem dX11_melts_22 : decode cX11_melts 22 = .ok (.iload_n 3, 1) := by decide +kernel
theorem dX11_melts_23 : decode cX11_melts 23 = .ok (.iconst (-1), 1) := by decide +kernel
theorem dX11_melts_24 : decode cX11_melts 24 = .ok (.if_icmp .ne 7, 3) := by decide +kernel
theorem dX11_melts_27 : decode cX11_melts 27 = .ok (.iconst (-1), 1) := by decide +kernel
theorem dX11_melts_28 : decode cX11_melts 28 = .ok (.goto 16, 3) := by decide +kernel
theorem dX11_melts_31 : decode cX11_melts 31 = .ok (.iload_n 2, 1) := by decide +kernel
theorem dX11_melts_32 : decode cX11_melts 32 = .ok (.aload_n 0, 1) := by decide +kernel
theorem dX11_melts_33 : decode cX11_melts 33 = .ok (.getfield 58, 3) := by decide +kernel
theorem dX11_melts_36 : decode cX11_melts 36 = .ok (.iload_n 3, 1) := by decide +kernel
theorem dX11_melts_37 : decode cX11_melts 37 = .ok (.invokevirtual 316, 3) := by decide +kernel
theorem dX11_melts_40 : decode cX11_melts 40 = .ok (.iload_n 3, 1) := by decide +kernel
theorem dX11_melts_41 : decode cX11_melts 41 = .ok (.invokestatic 282, 3) := by decide +kernel
theorem dX11_melts_44 : decode cX11_melts 44 = .ok (.ireturn, 1) := by decide +kernel
set_option maxHeartbeats 4000000 in
set_option maxRecDepth 100000 in
theorem c_X11_melts (l : Launch) (D : va_G) (tys : List (ClassId × FieldType)) (base : Nat) (G : iv_G) (h0 : Nat) (g_h0 : Nat → Int32) (r_h0 : Nat → Nat) (a_h0 : G h0 = some (11, g_h0, r_h0)) (x_0 : Int32) (i_x_0 : iv_R (-2147483648) 2147483647 x_0) (x_1 : Int32) (i_x_1 : iv_R (-2147483648) 2147483647 x_1) : Met l yX11_melts (Cond.code yX11_melts cX11_melts 4 (some .int) :: iv_W0) ({ frames := 3, cells := 0, slots := 0, locals := 70 }) (iv_Pc iv_sh D classes tys base G [.ref h0, .int x_0, .int x_1]) (iv_Qi iv_sh D classes tys base (fun v G' => G = G' ∧ iv_R (-2147483648) 2147483647 v)) 0 0 (iv_A base) := by
  refine iv_head (by decide) (Nat.le_of_ble_eq_true rfl) ?_
  intro p e s m args below meth c ls X hr hlocks hname hB hl
  have X := X
  have hx := X.1.1
  have hb := X.1.2.1
  have hl : lv_has ls 4 [(0, .ref h0), (1, .int x_0), (2, .int x_1)] := hl
  refine lv_iload_n hx hb dX11_melts_0 rfl (lv_at hl 1 rfl) ?_
  refine lv_iconst (v := 1) hx hb dX11_melts_1 (by decide) ?_
  refine lv_sipush (v := 999) hx hb dX11_melts_2 (by decide) ?_
  refine iv_cSi X k_good k_mf_X11_isWithin k_st_X11_isWithin k_ml_X11_83 hB (As := [.int x_0, .int 1, .int 999]) (c_X11_isWithin l D tys base G x_0 i_x_0 1 (q_1.wk (by decide)) 999 (q_999.wk (by decide))) ⟨rfl, rfl⟩ ⟨Nat.le_of_ble_eq_true rfl, Nat.le_of_ble_eq_true rfl⟩ ⟨Nat.le_of_ble_eq_true rfl, Nat.le_of_ble_eq_true rfl⟩ rfl rfl hl.1 (Nat.le_of_ble_eq_true rfl) dX11_melts_5 (fun x1 G9 H locs hq hB => ?_)
  obtain ⟨rfl, i_x1, hp2⟩ := hq
  have k3 : ¬ x1 = 0 → iv_R 1 999 x_0 := fun h => ⟨iv_max i_x_0.1 (Int.le_trans q_1.1 (hp2.1 h).1) (by decide), iv_min i_x_0.2 (Int.le_trans (hp2.1 h).2 q_999.2) (by decide)⟩
  refine lv_if_ne (tgt := 13) hx hb dX11_melts_8 (by decide) (fun c4 => ?_) (fun c4 => ?_)
  · skip
    have i4_x1 : iv_R 1 1 x1 := iv_ne_lo c4 i_x1 q_0 (by decide)
    have i5_x_0 : iv_R 1 999 x_0 := ((i_x_0.cutLo (n := 1) (k3 c4).1).cutHi (n := 999) (k3 c4).2)
    refine lv_aload_n hx hb dX11_melts_13 rfl (lv_at hl 0 rfl) ?_
    refine iv_getr X ft_X11 hB a_h0 sh_11 9 (by decide) rfl k_fl_X11_58 dX11_melts_14 (fun b7 g_b7 r_b7 e_b7 a_b7 => ?_)
    refine lv_iload_n hx hb dX11_melts_17 rfl (lv_at hl 1 rfl) ?_
    refine iv_cVi X k_good k_mf_X9_leastHarm k_im_X9_leastHarm k_sel_X9_leastHarm k_ml_X11_313 ft_X9 hB a_b7 sh_9 (As := [.int x_0]) (c_X9_leastHarm l D tys base G b7 g_b7 r_b7 a_b7 x_0 i5_x_0) ⟨rfl, rfl⟩ ⟨Nat.le_of_ble_eq_true rfl, Nat.le_of_ble_eq_true rfl⟩ ⟨Nat.le_of_ble_eq_true rfl, Nat.le_of_ble_eq_true rfl⟩ rfl rfl hl.1 (Nat.le_of_ble_eq_true rfl) dX11_melts_18 (fun x8 G9 H locs hq hB => ?_)
    obtain ⟨rfl, i_x8⟩ := hq
    refine lv_istore_n (lv' := [(3, .int x8), (0, .ref h0), (1, .int x_0), (2, .int x_1)]) hx hb dX11_melts_21 rfl hl (by decide) rfl (fun ls hl => ?_)
    refine lv_iload_n hx hb dX11_melts_22 rfl (lv_at hl 0 rfl) ?_
    refine lv_iconst (v := (-1)) hx hb dX11_melts_23 (by decide) ?_
    refine lv_icmp_ne (tgt := 31) hx hb dX11_melts_24 (by decide) (fun c9 => ?_) (fun c9 => ?_)
    · skip
      have i9_x8 : iv_R 0 2147483647 x8 := iv_ne_lo c9 i_x8 q_n1 (by decide)
      refine lv_iload_n hx hb dX11_melts_31 rfl (lv_at hl 3 rfl) ?_
      refine lv_aload_n hx hb dX11_melts_32 rfl (lv_at hl 1 rfl) ?_
      refine iv_getr0 X ft_X11 hB a_h0 sh_11 9 (by decide) rfl k_fl_X11_58 dX11_melts_33 e_b7 ?_
      refine lv_iload_n hx hb dX11_melts_36 rfl (lv_at hl 0 rfl) ?_
      refine iv_cVi X k_good k_mf_X9_hopeOf k_im_X9_hopeOf k_sel_X9_hopeOf k_ml_X11_316 ft_X9 hB a_b7 sh_9 (As := [.int x8]) (c_X9_hopeOf l D tys base G b7 g_b7 r_b7 a_b7 x8 i9_x8) ⟨rfl, rfl⟩ ⟨Nat.le_of_ble_eq_true rfl, Nat.le_of_ble_eq_true rfl⟩ ⟨Nat.le_of_ble_eq_true rfl, Nat.le_of_ble_eq_true rfl⟩ rfl rfl hl.1 (Nat.le_of_ble_eq_true rfl) dX11_melts_37 (fun x11 G9 H locs hq hB => ?_)
      obtain ⟨rfl, i_x11⟩ := hq
      refine lv_iload_n hx hb dX11_melts_40 rfl (lv_at hl 0 rfl) ?_
      refine iv_cSi X k_good k_mf_X11_chosen k_st_X11_chosen k_ml_X11_282 hB (As := [.int x_1, .int x11, .int x8]) (c_X11_chosen l D tys base G x_1 i_x_1 x11 i_x11 x8 (i9_x8.wk (by decide))) ⟨rfl, rfl⟩ ⟨Nat.le_of_ble_eq_true rfl, Nat.le_of_ble_eq_true rfl⟩ ⟨Nat.le_of_ble_eq_true rfl, Nat.le_of_ble_eq_true rfl⟩ rfl rfl hl.1 (Nat.le_of_ble_eq_true rfl) dX11_melts_41 (fun x12 G9 H locs hq hB => ?_)
      obtain ⟨rfl, i_x12⟩ := hq
      exact iv_iret X hr hlocks hB ⟨rfl, i_x12⟩ dX11_melts_44
    · skip
      have i12_x8 : iv_R (-1) (-1) x8 := (i_x8.cutHi (n := (-1)) (iv_eq_r c9 q_n1).2)
      refine lv_iconst (v := (-1)) hx hb dX11_melts_27 (by decide) ?_
      refine lv_goto (tgt := 44) hx hb dX11_melts_28 (by decide) ?_
      exact iv_iret X hr hlocks hB ⟨rfl, (q_n1.wk (by decide))⟩ dX11_melts_44
  · skip
    have i13_x1 : iv_R 0 0 x1 := (i_x1.cutHi (n := 0) (iv_eq_r c4 q_0).2)
    refine lv_iconst (v := (-1)) hx hb dX11_melts_11 (by decide) ?_
    exact iv_iret X hr hlocks hB ⟨rfl, (q_n1.wk (by decide))⟩ dX11_melts_12
theorem dX6_keep_0 : decode cX6_keep 0 = .ok (.aload_n 0, 1) := by decide +kernel
theorem dX6_keep_1 : decode cX6_keep 1 = .ok (.aload_n 0, 1) := by decide +kernel
theorem dX6_keep_2 : decode cX6_keep 2 = .ok (.getfield 20, 3) := by decide +kernel
theorem dX6_keep_5 : decode cX6_keep 5 = .ok (.iconst 1, 1) := by decide +kernel
theorem dX6_keep_6 : decode cX6_keep 6 = .ok (.iadd, 1) := by decide +kernel
theorem dX6_keep_7 : decode cX6_keep 7 = .ok (.bipush 6, 2) := by decide +kernel
theorem dX6_keep_9 : decode cX6_keep 9 = .ok (.irem, 1) := by decide +kernel
theorem dX6_keep_10 : decode cX6_keep 10 = .ok (.putfield 20, 3) := by decide +kernel
theorem dX6_keep_13 : decode cX6_keep 13 = .ok (.aload_n 0, 1) := by decide +kernel
theorem dX6_keep_14 : decode cX6_keep 14 = .ok (.bipush 6, 2) := by decide +kernel
theorem dX6_keep_16 : decode cX6_keep 16 = .ok (.aload_n 0, 1) := by decide +kernel
theorem dX6_keep_17 : decode cX6_keep 17 = .ok (.getfield 16, 3) := by decide +kernel
theorem dX6_keep_20 : decode cX6_keep 20 = .ok (.iconst 1, 1) := by decide +kernel
theorem dX6_keep_21 : decode cX6_keep 21 = .ok (.iadd, 1) := by decide +kernel
theorem dX6_keep_22 : decode cX6_keep 22 = .ok (.invokestatic 23, 3) := by decide +kernel
theorem dX6_keep_25 : decode cX6_keep 25 = .ok (.putfield 16, 3) := by decide +kernel
theorem dX6_keep_28 : decode cX6_keep 28 = .ok (.aload_n 0, 1) := by decide +kernel
theorem dX6_keep_29 : decode cX6_keep 29 = .ok (.getfield 13, 3) := by decide +kernel
theorem dX6_keep_32 : decode cX6_keep 32 = .ok (.aload_n 0, 1) := by decide +kernel
theorem dX6_keep_33 : decode cX6_keep 33 = .ok (.getfield 20, 3) := by decide +kernel
theorem dX6_keep_36 : decode cX6_keep 36 = .ok (.aaload, 1) := by decide +kernel
theorem dX6_keep_37 : decode cX6_keep 37 = .ok (.astore_n 2, 1) := by decide +kernel
theorem dX6_keep_38 : decode cX6_keep 38 = .ok (.iconst 0, 1) := by decide +kernel
theorem dX6_keep_39 : decode cX6_keep 39 = .ok (.istore_n 3, 1) := by decide +kernel
theorem dX6_keep_40 : decode cX6_keep 40 = .ok (.iload_n 3, 1) := by decide +kernel
theorem dX6_keep_41 : decode cX6_keep 41 = .ok (.bipush 10, 2) := by decide +kernel
theorem dX6_keep_43 : decode cX6_keep 43 = .ok (.if_icmp .ge 63, 3) := by decide +kernel
theorem dX6_keep_46 : decode cX6_keep 46 = .ok (.aload_n 1, 1) := by decide +kernel
theorem dX6_keep_47 : decode cX6_keep 47 = .ok (.getfield 29, 3) := by decide +kernel
theorem dX6_keep_50 : decode cX6_keep 50 = .ok (.iload_n 3, 1) := by decide +kernel
theorem dX6_keep_51 : decode cX6_keep 51 = .ok (.aaload, 1) := by decide +kernel
theorem dX6_keep_52 : decode cX6_keep 52 = .ok (.astore 4, 2) := by decide +kernel
theorem dX6_keep_54 : decode cX6_keep 54 = .ok (.aload_n 2, 1) := by decide +kernel
theorem dX6_keep_55 : decode cX6_keep 55 = .ok (.iload_n 3, 1) := by decide +kernel
theorem dX6_keep_56 : decode cX6_keep 56 = .ok (.iconst 4, 1) := by decide +kernel
theorem dX6_keep_57 : decode cX6_keep 57 = .ok (.imul, 1) := by decide +kernel
theorem dX6_keep_58 : decode cX6_keep 58 = .ok (.aload 4, 2) := by decide +kernel
theorem dX6_keep_60 : decode cX6_keep 60 = .ok (.getfield 35, 3) := by decide +kernel
theorem dX6_keep_63 : decode cX6_keep 63 = .ok (.iastore, 1) := by decide +kernel
theorem dX6_keep_64 : decode cX6_keep 64 = .ok (.aload_n 2, 1) := by decide +kernel
theorem dX6_keep_65 : decode cX6_keep 65 = .ok (.iload_n 3, 1) := by decide +kernel
theorem dX6_keep_66 : decode cX6_keep 66 = .ok (.iconst 4, 1) := by decide +kernel
theorem dX6_keep_67 : decode cX6_keep 67 = .ok (.imul, 1) := by decide +kernel
theorem dX6_keep_68 : decode cX6_keep 68 = .ok (.iconst 1, 1) := by decide +kernel
theorem dX6_keep_69 : decode cX6_keep 69 = .ok (.iadd, 1) := by decide +kernel
theorem dX6_keep_70 : decode cX6_keep 70 = .ok (.aload 4, 2) := by decide +kernel
theorem dX6_keep_72 : decode cX6_keep 72 = .ok (.getfield 40, 3) := by decide +kernel
theorem dX6_keep_75 : decode cX6_keep 75 = .ok (.iastore, 1) := by decide +kernel
theorem dX6_keep_76 : decode cX6_keep 76 = .ok (.aload_n 2, 1) := by decide +kernel
theorem dX6_keep_77 : decode cX6_keep 77 = .ok (.iload_n 3, 1) := by decide +kernel
theorem dX6_keep_78 : decode cX6_keep 78 = .ok (.iconst 4, 1) := by decide +kernel
theorem dX6_keep_79 : decode cX6_keep 79 = .ok (.imul, 1) := by decide +kernel
theorem dX6_keep_80 : decode cX6_keep 80 = .ok (.iconst 2, 1) := by decide +kernel
theorem dX6_keep_81 : decode cX6_keep 81 = .ok (.iadd, 1) := by decide +kernel
theorem dX6_keep_82 : decode cX6_keep 82 = .ok (.aload 4, 2) := by decide +kernel
theorem dX6_keep_84 : decode cX6_keep 84 = .ok (.getfield 43, 3) := by decide +kernel
theorem dX6_keep_87 : decode cX6_keep 87 = .ok (.iastore, 1) := by decide +kernel
theorem dX6_keep_88 : decode cX6_keep 88 = .ok (.aload_n 2, 1) := by decide +kernel
theorem dX6_keep_89 : decode cX6_keep 89 = .ok (.iload_n 3, 1) := by decide +kernel
theorem dX6_keep_90 : decode cX6_keep 90 = .ok (.iconst 4, 1) := by decide +kernel
theorem dX6_keep_91 : decode cX6_keep 91 = .ok (.imul, 1) := by decide +kernel
theorem dX6_keep_92 : decode cX6_keep 92 = .ok (.iconst 3, 1) := by decide +kernel
theorem dX6_keep_93 : decode cX6_keep 93 = .ok (.iadd, 1) := by decide +kernel
theorem dX6_keep_94 : decode cX6_keep 94 = .ok (.aload 4, 2) := by decide +kernel
theorem dX6_keep_96 : decode cX6_keep 96 = .ok (.getfield 46, 3) := by decide +kernel
theorem dX6_keep_99 : decode cX6_keep 99 = .ok (.iastore, 1) := by decide +kernel
theorem dX6_keep_100 : decode cX6_keep 100 = .ok (.iinc 3 1, 3) := by decide +kernel
theorem dX6_keep_103 : decode cX6_keep 103 = .ok (.goto (-63), 3) := by decide +kernel
theorem dX6_keep_106 : decode cX6_keep 106 = .ok (.iconst 0, 1) := by decide +kernel
theorem dX6_keep_107 : decode cX6_keep 107 = .ok (.istore_n 3, 1) := by decide +kernel
theorem dX6_keep_108 : decode cX6_keep 108 = .ok (.iload_n 3, 1) := by decide +kernel
theorem dX6_keep_109 : decode cX6_keep 109 = .ok (.bipush 20, 2) := by decide +kernel
theorem dX6_keep_111 : decode cX6_keep 111 = .ok (.if_icmp .ge 24, 3) := by decide +kernel
theorem dX6_keep_114 : decode cX6_keep 114 = .ok (.aload_n 2, 1) := by decide +kernel
theorem dX6_keep_115 : decode cX6_keep 115 = .ok (.bipush 40, 2) := by decide +kernel
theorem dX6_keep_117 : decode cX6_keep 117 = .ok (.iload_n 3, 1) := by decide +kernel
theorem dX6_keep_118 : decode cX6_keep 118 = .ok (.iadd, 1) := by decide +kernel
theorem dX6_keep_119 : decode cX6_keep 119 = .ok (.aload_n 1, 1) := by decide +kernel
theorem dX6_keep_120 : decode cX6_keep 120 = .ok (.getfield 49, 3) := by decide +kernel
theorem dX6_keep_123 : decode cX6_keep 123 = .ok (.iload_n 3, 1) := by decide +kernel
theorem dX6_keep_124 : decode cX6_keep 124 = .ok (.iconst 1, 1) := by decide +kernel
theorem dX6_keep_125 : decode cX6_keep 125 = .ok (.invokevirtual 53, 3) := by decide +kernel
theorem dX6_keep_128 : decode cX6_keep 128 = .ok (.iastore, 1) := by decide +kernel
theorem dX6_keep_129 : decode cX6_keep 129 = .ok (.iinc 3 1, 3) := by decide +kernel
theorem dX6_keep_132 : decode cX6_keep 132 = .ok (.goto (-24), 3) := by decide +kernel
theorem dX6_keep_135 : decode cX6_keep 135 = .ok (.aload_n 2, 1) := by decide +kernel
theorem dX6_keep_136 : decode cX6_keep 136 = .ok (.bipush 60, 2) := by decide +kernel
theorem dX6_keep_138 : decode cX6_keep 138 = .ok (.aload_n 1, 1) := by decide +kernel
theorem dX6_keep_139 : decode cX6_keep 139 = .ok (.getfield 49, 3) := by decide +kernel
theorem dX6_keep_142 : decode cX6_keep 142 = .ok (.getfield 58, 3) := by decide +kernel
theorem dX6_keep_145 : decode cX6_keep 145 = .ok (.iastore, 1) := by decide +kernel
theorem dX6_keep_146 : decode cX6_keep 146 = .ok (.aload_n 2, 1) := by decide +kernel
theorem dX6_keep_147 : decode cX6_keep 147 = .ok (.bipush 61, 2) := by decide +kernel
theorem dX6_keep_149 : decode cX6_keep 149 = .ok (.aload_n 1, 1) := by decide +kernel
theorem dX6_keep_150 : decode cX6_keep 150 = .ok (.getfield 61, 3) := by decide +kernel
theorem dX6_keep_153 : decode cX6_keep 153 = .ok (.getfield 58, 3) := by decide +kernel
theorem dX6_keep_156 : decode cX6_keep 156 = .ok (.iastore, 1) := by decide +kernel
theorem dX6_keep_157 : decode cX6_keep 157 = .ok (.aload_n 2, 1) := by decide +kernel
theorem dX6_keep_158 : decode cX6_keep 158 = .ok (.bipush 62, 2) := by decide +kernel
theorem dX6_keep_160 : decode cX6_keep 160 = .ok (.aload_n 1, 1) := by decide +kernel
theorem dX6_keep_161 : decode cX6_keep 161 = .ok (.getfield 64, 3) := by decide +kernel
theorem dX6_keep_164 : decode cX6_keep 164 = .ok (.iastore, 1) := by decide +kernel
theorem dX6_keep_165 : decode cX6_keep 165 = .ok (.aload_n 2, 1) := by decide +kernel
theorem dX6_keep_166 : decode cX6_keep 166 = .ok (.bipush 63, 2) := by decide +kernel
theorem dX6_keep_168 : decode cX6_keep 168 = .ok (.aload_n 1, 1) := by decide +kernel
theorem dX6_keep_169 : decode cX6_keep 169 = .ok (.getfield 67, 3) := by decide +kernel
theorem dX6_keep_172 : decode cX6_keep 172 = .ok (.iastore, 1) := by decide +kernel
theorem dX6_keep_173 : decode cX6_keep 173 = .ok (.aload_n 2, 1) := by decide +kernel
theorem dX6_keep_174 : decode cX6_keep 174 = .ok (.bipush 64, 2) := by decide +kernel
theorem dX6_keep_176 : decode cX6_keep 176 = .ok (.aload_n 1, 1) := by decide +kernel
theorem dX6_keep_177 : decode cX6_keep 177 = .ok (.getfield 70, 3) := by decide +kernel
theorem dX6_keep_180 : decode cX6_keep 180 = .ok (.iastore, 1) := by decide +kernel
theorem dX6_keep_181 : decode cX6_keep 181 = .ok (.return_, 1) := by decide +kernel
set_option maxHeartbeats 4000000 in
set_option maxRecDepth 100000 in
theorem c_X6_keep (l : Launch) (D : va_G) (tys : List (ClassId × FieldType)) (base : Nat) (G : iv_G) (h0 : Nat) (g_h0 : Nat → Int32) (r_h0 : Nat → Nat) (a_h0 : G h0 = some (6, g_h0, r_h0)) (h1 : Nat) (g_h1 : Nat → Int32) (r_h1 : Nat → Nat) (a_h1 : G h1 = some (5, g_h1, r_h1)) : Met l yX6_keep (Cond.code yX6_keep cX6_keep 5 none :: iv_W0) ({ frames := 2, cells := 0, slots := 0, locals := 44 }) (iv_Pc iv_sh D classes tys base G [.ref h0, .ref h1]) (iv_Qv iv_sh D classes tys base (fun G' => iv_Md [6, 27] G G')) 0 0 (iv_A base) := by
  refine iv_head (by decide) (Nat.le_of_ble_eq_true rfl) ?_
  intro p e s m args below meth c ls X hr hlocks hname hB hl
  have X := X
  have hx := X.1.1
  have hb := X.1.2.1
  have hM : iv_Md [6, 27] G G := iv_Md.rf
  have hl : lv_has ls 5 [(0, .ref h0), (1, .ref h1)] := hl
  refine lv_aload_n hx hb dX6_keep_0 rfl (lv_at hl 0 rfl) ?_
  refine lv_aload_n hx hb dX6_keep_1 rfl (lv_at hl 0 rfl) ?_
  refine iv_geti X ft_X6 hB a_h0 sh_6 1 (by decide) rfl k_fl_X6_20 dX6_keep_2 (fun x1 e_x1 i_x1 => ?_)
  refine lv_iconst (v := 1) hx hb dX6_keep_5 (by decide) ?_
  refine iv_iadd hx hb i_x1 q_1 (lo := 1) (hi := 6) (by decide) dX6_keep_6 (fun x2 e_x2 i_x2 => ?_)
  refine lv_bipush (v := 6) hx hb dX6_keep_7 (by decide) ?_
  refine iv_iremp hx hb i_x2 q_6 (lo := 0) (hi := 5) (by decide) dX6_keep_9 (fun x3 e_x3 i_x3 => ?_)
  refine iv_puti X ft_X6 hB a_h0 sh_6 1 (by decide) rfl rfl k_fl_X6_20 rfl i_x3 rfl rfl dX6_keep_10 (fun H locs hB => ?_)
  have hm := iv_Md.put (x := x3) a_h0 (j := 1) (by decide) (by decide)
  have h9 := iv_up_eq (G := G) (a := h0) (k := (6, upd g_h0 1 x3, r_h0))
  generalize iv_up G h0 _ = G4 at hB hm h9
  have hM := hM.stp hm (by decide)
  generalize hgn_g5 : upd g_h0 _ _ = g5 at h9
  have a_h1 := hm.at a_h1 (by decide)
  have a_h0 := h9
  have e9_g5 : x3 = g5 1 := by rw [← hgn_g5]; simp [upd]
  refine lv_aload_n hx hb dX6_keep_13 rfl (lv_at hl 0 rfl) ?_
  refine lv_bipush (v := 6) hx hb dX6_keep_14 (by decide) ?_
  refine lv_aload_n hx hb dX6_keep_16 rfl (lv_at hl 0 rfl) ?_
  refine iv_geti X ft_X6 hB a_h0 sh_6 2 (by decide) rfl k_fl_X6_16 dX6_keep_17 (fun x6 e_x6 i_x6 => ?_)
  refine lv_iconst (v := 1) hx hb dX6_keep_20 (by decide) ?_
  refine lv_iadd hx hb dX6_keep_21 ?_
  refine lv_topi (fun x7 e_x7 => ?_)
  have i_x7 := iv_R.all x7
  refine iv_mmin X hl.1 k_mm_X6_23 ⟨Nat.le_of_ble_eq_true rfl, Nat.le_of_ble_eq_true rfl⟩ ⟨Nat.le_of_ble_eq_true rfl, Nat.le_of_ble_eq_true rfl⟩ q_6 i_x7 (lo := (-2147483648)) (hi := 6) (by decide) dX6_keep_22 (fun x8 e_x8 i_x8 => ?_)
  refine iv_puti X ft_X6 hB a_h0 sh_6 2 (by decide) rfl rfl k_fl_X6_16 rfl (i_x8.wk (by decide)) rfl rfl dX6_keep_25 (fun H locs hB => ?_)
  have hm := iv_Md.put (x := x8) a_h0 (j := 2) (by decide) (by decide)
  have h9 := iv_up_eq (G := G4) (a := h0) (k := (6, upd g5 2 x8, r_h0))
  generalize iv_up G4 h0 _ = G9 at hB hm h9
  have hM := hM.stp hm (by decide)
  generalize hgn_g10 : upd g5 _ _ = g10 at h9
  have a_h1 := hm.at a_h1 (by decide)
  have a_h0 := h9
  have e_x3_g10 : x3 = g10 1 := by rw [← hgn_g10]; exact e9_g5
  have e9_g10 : x8 = g10 2 := by rw [← hgn_g10]; simp [upd]
  refine lv_aload_n hx hb dX6_keep_28 rfl (lv_at hl 0 rfl) ?_
  refine iv_getr X ft_X6 hB a_h0 sh_6 0 (by decide) rfl k_fl_X6_13 dX6_keep_29 (fun b11 g_b11 r_b11 e_b11 a_b11 => ?_)
  refine lv_aload_n hx hb dX6_keep_32 rfl (lv_at hl 0 rfl) ?_
  refine iv_geti0 X ft_X6 hB a_h0 sh_6 1 (by decide) rfl k_fl_X6_20 dX6_keep_33 e_x3_g10 ?_
  refine iv_aald X hB a_b11 sh_41 (iv_in i_x3 (by decide)) dX6_keep_36 (fun b12 g_b12 r_b12 e_b12 a_b12 => ?_)
  refine lv_astore_n (lv' := [(2, .ref b12), (0, .ref h0), (1, .ref h1)]) hx hb dX6_keep_37 rfl hl (by decide) rfl (fun ls hl => ?_)
  refine lv_iconst (v := 0) hx hb dX6_keep_38 (by decide) ?_
  refine lv_istore_n (lv' := [(3, .int 0), (2, .ref b12), (0, .ref h0), (1, .ref h1)]) hx hb dX6_keep_39 rfl hl (by decide) rfl (fun ls hl => ?_)
  have L_40 : ∀ (n_40 : Nat) (G18 : iv_G) (hM : iv_Md [6, 27] G G18) (H : Heap) (locs : List Loc) (hB : iv_B iv_sh D classes tys base G18 s.heap H locs) (g14 : Nat → Int32) (r15 : Nat → Nat) (a_h1 : G18 h1 = some (5, g14, r15)) (g16 : Nat → Int32) (r17 : Nat → Nat) (a_b12 : G18 b12 = some (27, g16, r17)) (x13 : Int32) (i_x13 : iv_R 0 10 x13) (hn : (11 - x13.toInt).toNat < n_40) (ls : Array Slot) (hl : lv_has ls 5 [(3, .int x13), (2, .ref b12), (1, .ref h1)]), W p l e ({ frames := 2, cells := 0, slots := 0, locals := 44 } : Room) s m args below meth c H locs 0 0 (MQ below (iv_Qv iv_sh D classes tys base (fun G' => iv_Md [6, 27] G G')) args s 0 0 (iv_A base)) (F0 m 40 ls []) := by
    intro n_40
    induction n_40 with
    | zero => intro G18 hM H locs hB g14 r15 a_h1 g16 r17 a_b12 x13 i_x13 hn ls hl; exact absurd hn (Nat.not_lt_zero _)
    | succ n_40 ih_40 =>
      intro G18 hM H locs hB g14 r15 a_h1 g16 r17 a_b12 x13 i_x13 hn ls hl
      refine lv_iload_n hx hb dX6_keep_40 rfl (lv_at hl 0 rfl) ?_
      refine lv_bipush (v := 10) hx hb dX6_keep_41 (by decide) ?_
      refine lv_icmp_ge (tgt := 106) hx hb dX6_keep_43 (by decide) (fun c19 => ?_) (fun c19 => ?_)
      · skip
        have i19_x13 : iv_R 10 10 x13 := (i_x13.cutLo (n := 10) (iv_le_l c19 q_10))
        refine lv_iconst (v := 0) hx hb dX6_keep_106 (by decide) ?_
        refine lv_istore_n (lv' := [(3, .int 0), (2, .ref b12), (1, .ref h1)]) hx hb dX6_keep_107 rfl hl (by decide) rfl (fun ls hl => ?_)
        have L_108 : ∀ (n_108 : Nat) (G26 : iv_G) (hM : iv_Md [6, 27] G G26) (H : Heap) (locs : List Loc) (hB : iv_B iv_sh D classes tys base G26 s.heap H locs) (g22 : Nat → Int32) (r23 : Nat → Nat) (a_h1 : G26 h1 = some (5, g22, r23)) (g24 : Nat → Int32) (r25 : Nat → Nat) (a_b12 : G26 b12 = some (27, g24, r25)) (x21 : Int32) (i_x21 : iv_R 0 20 x21) (hn : (21 - x21.toInt).toNat < n_108) (ls : Array Slot) (hl : lv_has ls 5 [(3, .int x21), (2, .ref b12), (1, .ref h1)]), W p l e ({ frames := 2, cells := 0, slots := 0, locals := 44 } : Room) s m args below meth c H locs 0 0 (MQ below (iv_Qv iv_sh D classes tys base (fun G' => iv_Md [6, 27] G G')) args s 0 0 (iv_A base)) (F0 m 108 ls []) := by
          intro n_108
          induction n_108 with
          | zero => intro G26 hM H locs hB g22 r23 a_h1 g24 r25 a_b12 x21 i_x21 hn ls hl; exact absurd hn (Nat.not_lt_zero _)
          | succ n_108 ih_108 =>
            intro G26 hM H locs hB g22 r23 a_h1 g24 r25 a_b12 x21 i_x21 hn ls hl
            refine lv_iload_n hx hb dX6_keep_108 rfl (lv_at hl 0 rfl) ?_
            refine lv_bipush (v := 20) hx hb dX6_keep_109 (by decide) ?_
            refine lv_icmp_ge (tgt := 135) hx hb dX6_keep_111 (by decide) (fun c27 => ?_) (fun c27 => ?_)
            · skip
              have i27_x21 : iv_R 20 20 x21 := (i_x21.cutLo (n := 20) (iv_le_l c27 q_20))
              refine lv_aload_n hx hb dX6_keep_135 rfl (lv_at hl 1 rfl) ?_
              refine lv_bipush (v := 60) hx hb dX6_keep_136 (by decide) ?_
              refine lv_aload_n hx hb dX6_keep_138 rfl (lv_at hl 2 rfl) ?_
              refine iv_getr X ft_X5 hB a_h1 sh_5 8 (by decide) rfl k_fl_X6_49 dX6_keep_139 (fun b29 g_b29 r_b29 e_b29 a_b29 => ?_)
              refine iv_geti X ft_X8 hB a_b29 sh_8 2 (by decide) rfl k_fl_X6_58 dX6_keep_142 (fun x30 e_x30 i_x30 => ?_)
              refine iv_ast X hB a_b12 sh_27 (iv_in q_60 (by decide)) (i_x30.wk (by decide)) dX6_keep_145 (fun H locs hB => ?_)
              have hm := iv_Md.ast (j := 60.toNatClampNeg) (x := x30) a_b12 rfl (by decide)
              have h9 := iv_up_eq (G := G26) (a := b12) (k := (27, upd g24 60.toNatClampNeg x30, r25))
              generalize iv_up G26 b12 _ = G31 at hB hm h9
              have hM := hM.stp hm (by decide)
              generalize hgn_g32 : upd g24 _ _ = g32 at h9
              have a_h1 := hm.at a_h1 (by decide)
              have a_b12 := h9
              refine lv_aload_n hx hb dX6_keep_146 rfl (lv_at hl 1 rfl) ?_
              refine lv_bipush (v := 61) hx hb dX6_keep_147 (by decide) ?_
              refine lv_aload_n hx hb dX6_keep_149 rfl (lv_at hl 2 rfl) ?_
              refine iv_getr X ft_X5 hB a_h1 sh_5 9 (by decide) rfl k_fl_X6_61 dX6_keep_150 (fun b33 g_b33 r_b33 e_b33 a_b33 => ?_)
              refine iv_geti X ft_X8 hB a_b33 sh_13 2 (by decide) rfl k_fl_X6_58 dX6_keep_153 (fun x34 e_x34 i_x34 => ?_)
              refine iv_ast X hB a_b12 sh_27 (iv_in q_61 (by decide)) (i_x34.wk (by decide)) dX6_keep_156 (fun H locs hB => ?_)
              have hm := iv_Md.ast (j := 61.toNatClampNeg) (x := x34) a_b12 rfl (by decide)
              have h9 := iv_up_eq (G := G31) (a := b12) (k := (27, upd g32 61.toNatClampNeg x34, r25))
              generalize iv_up G31 b12 _ = G35 at hB hm h9
              have hM := hM.stp hm (by decide)
              generalize hgn_g36 : upd g32 _ _ = g36 at h9
              have a_h1 := hm.at a_h1 (by decide)
              have a_b12 := h9
              refine lv_aload_n hx hb dX6_keep_157 rfl (lv_at hl 1 rfl) ?_
              refine lv_bipush (v := 62) hx hb dX6_keep_158 (by decide) ?_
              refine lv_aload_n hx hb dX6_keep_160 rfl (lv_at hl 2 rfl) ?_
              refine iv_geti X ft_X5 hB a_h1 sh_5 6 (by decide) rfl k_fl_X6_64 dX6_keep_161 (fun x37 e_x37 i_x37 => ?_)
              refine iv_ast X hB a_b12 sh_27 (iv_in q_62 (by decide)) i_x37 dX6_keep_164 (fun H locs hB => ?_)
              have hm := iv_Md.ast (j := 62.toNatClampNeg) (x := x37) a_b12 rfl (by decide)
              have h9 := iv_up_eq (G := G35) (a := b12) (k := (27, upd g36 62.toNatClampNeg x37, r25))
              generalize iv_up G35 b12 _ = G38 at hB hm h9
              have hM := hM.stp hm (by decide)
              generalize hgn_g39 : upd g36 _ _ = g39 at h9
              have a_h1 := hm.at a_h1 (by decide)
              have a_b12 := h9
              refine lv_aload_n hx hb dX6_keep_165 rfl (lv_at hl 1 rfl) ?_
              refine lv_bipush (v := 63) hx hb dX6_keep_166 (by decide) ?_
              refine lv_aload_n hx hb dX6_keep_168 rfl (lv_at hl 2 rfl) ?_
              refine iv_geti X ft_X5 hB a_h1 sh_5 4 (by decide) rfl k_fl_X6_67 dX6_keep_169 (fun x40 e_x40 i_x40 => ?_)
              refine iv_ast X hB a_b12 sh_27 (iv_in q_63 (by decide)) i_x40 dX6_keep_172 (fun H locs hB => ?_)
              have hm := iv_Md.ast (j := 63.toNatClampNeg) (x := x40) a_b12 rfl (by decide)
              have h9 := iv_up_eq (G := G38) (a := b12) (k := (27, upd g39 63.toNatClampNeg x40, r25))
              generalize iv_up G38 b12 _ = G41 at hB hm h9
              have hM := hM.stp hm (by decide)
              generalize hgn_g42 : upd g39 _ _ = g42 at h9
              have a_h1 := hm.at a_h1 (by decide)
              have a_b12 := h9
              refine lv_aload_n hx hb dX6_keep_173 rfl (lv_at hl 1 rfl) ?_
              refine lv_bipush (v := 64) hx hb dX6_keep_174 (by decide) ?_
              refine lv_aload_n hx hb dX6_keep_176 rfl (lv_at hl 2 rfl) ?_
              refine iv_geti X ft_X5 hB a_h1 sh_5 7 (by decide) rfl k_fl_X6_70 dX6_keep_177 (fun x43 e_x43 i_x43 => ?_)
              refine iv_ast X hB a_b12 sh_27 (iv_in q_64 (by decide)) i_x43 dX6_keep_180 (fun H locs hB => ?_)
              have hm := iv_Md.ast (j := 64.toNatClampNeg) (x := x43) a_b12 rfl (by decide)
              have h9 := iv_up_eq (G := G41) (a := b12) (k := (27, upd g42 64.toNatClampNeg x43, r25))
              generalize iv_up G41 b12 _ = G44 at hB hm h9
              have hM := hM.stp hm (by decide)
              generalize hgn_g45 : upd g42 _ _ = g45 at h9
              have a_h1 := hm.at a_h1 (by decide)
              have a_b12 := h9
              exact iv_vret X hr hlocks hB hM dX6_keep_181
            · skip
              have i45_x21 : iv_R 0 19 x21 := (i_x21.cutHi (n := 19) (iv_lt_r (iv_nle c27) q_20 (by decide)))
              refine lv_aload_n hx hb dX6_keep_114 rfl (lv_at hl 1 rfl) ?_
              refine lv_bipush (v := 40) hx hb dX6_keep_115 (by decide) ?_
              refine lv_iload_n hx hb dX6_keep_117 rfl (lv_at hl 0 rfl) ?_
              refine iv_iadd hx hb q_40 i45_x21 (lo := 40) (hi := 59) (by decide) dX6_keep_118 (fun x47 e_x47 i_x47 => ?_)
              refine lv_aload_n hx hb dX6_keep_119 rfl (lv_at hl 2 rfl) ?_
              refine iv_getr X ft_X5 hB a_h1 sh_5 8 (by decide) rfl k_fl_X6_49 dX6_keep_120 (fun b48 g_b48 r_b48 e_b48 a_b48 => ?_)
              refine lv_iload_n hx hb dX6_keep_123 rfl (lv_at hl 0 rfl) ?_
              refine lv_iconst (v := 1) hx hb dX6_keep_124 (by decide) ?_
              refine iv_cVi X k_good k_mf_X8_at k_im_X8_at k_sel_X8_at k_ml_X6_53 ft_X8 hB a_b48 sh_8 (As := [.int x21, .int 1]) (c_X8_at_8 l D tys base G26 b48 g_b48 r_b48 a_b48 x21 i45_x21 1 (q_1.wk (by decide))) ⟨rfl, rfl⟩ ⟨Nat.le_of_ble_eq_true rfl, Nat.le_of_ble_eq_true rfl⟩ ⟨Nat.le_of_ble_eq_true rfl, Nat.le_of_ble_eq_true rfl⟩ rfl rfl hl.1 (Nat.le_of_ble_eq_true rfl) dX6_keep_125 (fun x49 G9 H locs hq hB => ?_)
              obtain ⟨rfl, i_x49⟩ := hq
              refine iv_ast X hB a_b12 sh_27 (iv_in i_x47 (by decide)) i_x49 dX6_keep_128 (fun H locs hB => ?_)
              have hm := iv_Md.ast (j := x47.toNatClampNeg) (x := x49) a_b12 rfl (by decide)
              have h9 := iv_up_eq (G := G26) (a := b12) (k := (27, upd g24 x47.toNatClampNeg x49, r25))
              generalize iv_up G26 b12 _ = G50 at hB hm h9
              have hM := hM.stp hm (by decide)
              generalize hgn_g51 : upd g24 _ _ = g51 at h9
              have a_h1 := hm.at a_h1 (by decide)
              have a_b12 := h9
              refine iv_iinc hx hb i45_x21 (lo := 1) (hi := 20) (by decide) dX6_keep_129 hl (k := 0) rfl (by decide) (fun x52 ls e_x52 i_x52 hl => ?_)
              have hl : lv_has ls 5 [(3, .int x52), (2, .ref b12), (1, .ref h1)] := hl
              refine lv_goto (tgt := 108) hx hb dX6_keep_132 (by decide) ?_
              exact ih_108 G50 hM _ _ hB g22 r23 a_h1 g51 r25 a_b12 x52 (i_x52.wk (by decide)) (iv_mup (c := 1) i_x21 (by decide) (by decide) (by omega) hn) _ (lv_sub hl [0, 1, 2] rfl)
        exact L_108 _ G18 hM _ _ hB g14 r15 a_h1 g16 r17 a_b12 0 (q_0.wk (by decide)) (Nat.lt_succ_self _) _ (lv_sub hl [0, 1, 2] rfl)
      · skip
        have i52_x13 : iv_R 0 9 x13 := (i_x13.cutHi (n := 9) (iv_lt_r (iv_nle c19) q_10 (by decide)))
        refine lv_aload_n hx hb dX6_keep_46 rfl (lv_at hl 2 rfl) ?_
        refine iv_getr X ft_X5 hB a_h1 sh_5 0 (by decide) rfl k_fl_X6_29 dX6_keep_47 (fun b54 g_b54 r_b54 e_b54 a_b54 => ?_)
        refine lv_iload_n hx hb dX6_keep_50 rfl (lv_at hl 0 rfl) ?_
        refine iv_aald X hB a_b54 sh_40 (iv_in i52_x13 (by decide)) dX6_keep_51 (fun b55 g_b55 r_b55 e_b55 a_b55 => ?_)
        refine lv_astore (lv' := [(4, .ref b55), (3, .int x13), (2, .ref b12), (1, .ref h1)]) hx hb dX6_keep_52 hl (by decide) rfl (fun ls hl => ?_)
        refine lv_aload_n hx hb dX6_keep_54 rfl (lv_at hl 2 rfl) ?_
        refine lv_iload_n hx hb dX6_keep_55 rfl (lv_at hl 1 rfl) ?_
        refine lv_iconst (v := 4) hx hb dX6_keep_56 (by decide) ?_
        refine iv_imul hx hb i52_x13 q_4 (lo := 0) (hi := 36) (by decide) dX6_keep_57 (fun x56 e_x56 i_x56 => ?_)
        refine lv_aload hx hb dX6_keep_58 (lv_at hl 0 rfl) ?_
        refine iv_geti X ft_X1 hB a_b55 sh_1 3 (by decide) rfl k_fl_X6_35 dX6_keep_60 (fun x57 e_x57 i_x57 => ?_)
        refine iv_ast X hB a_b12 sh_27 (iv_in i_x56 (by decide)) i_x57 dX6_keep_63 (fun H locs hB => ?_)
        have hm := iv_Md.ast (j := x56.toNatClampNeg) (x := x57) a_b12 rfl (by decide)
        have h9 := iv_up_eq (G := G18) (a := b12) (k := (27, upd g16 x56.toNatClampNeg x57, r17))
        generalize iv_up G18 b12 _ = G58 at hB hm h9
        have hM := hM.stp hm (by decide)
        generalize hgn_g59 : upd g16 _ _ = g59 at h9
        have a_h1 := hm.at a_h1 (by decide)
        have a_b55 := hm.at a_b55 (by decide)
        have a_b12 := h9
        refine lv_aload_n hx hb dX6_keep_64 rfl (lv_at hl 2 rfl) ?_
        refine lv_iload_n hx hb dX6_keep_65 rfl (lv_at hl 1 rfl) ?_
        refine lv_iconst (v := 4) hx hb dX6_keep_66 (by decide) ?_
        refine iv_imul hx hb i52_x13 q_4 (lo := 0) (hi := 36) (by decide) dX6_keep_67 (fun x60 e_x60 i_x60 => ?_)
        refine lv_iconst (v := 1) hx hb dX6_keep_68 (by decide) ?_
        refine iv_iadd hx hb i_x60 q_1 (lo := 1) (hi := 37) (by decide) dX6_keep_69 (fun x61 e_x61 i_x61 => ?_)
        refine lv_aload hx hb dX6_keep_70 (lv_at hl 0 rfl) ?_
        refine iv_geti X ft_X1 hB a_b55 sh_1 5 (by decide) rfl k_fl_X6_40 dX6_keep_72 (fun x62 e_x62 i_x62 => ?_)
        refine iv_ast X hB a_b12 sh_27 (iv_in i_x61 (by decide)) i_x62 dX6_keep_75 (fun H locs hB => ?_)
        have hm := iv_Md.ast (j := x61.toNatClampNeg) (x := x62) a_b12 rfl (by decide)
        have h9 := iv_up_eq (G := G58) (a := b12) (k := (27, upd g59 x61.toNatClampNeg x62, r17))
        generalize iv_up G58 b12 _ = G63 at hB hm h9
        have hM := hM.stp hm (by decide)
        generalize hgn_g64 : upd g59 _ _ = g64 at h9
        have a_h1 := hm.at a_h1 (by decide)
        have a_b55 := hm.at a_b55 (by decide)
        have a_b12 := h9
        refine lv_aload_n hx hb dX6_keep_76 rfl (lv_at hl 2 rfl) ?_
        refine lv_iload_n hx hb dX6_keep_77 rfl (lv_at hl 1 rfl) ?_
        refine lv_iconst (v := 4) hx hb dX6_keep_78 (by decide) ?_
        refine iv_imul hx hb i52_x13 q_4 (lo := 0) (hi := 36) (by decide) dX6_keep_79 (fun x65 e_x65 i_x65 => ?_)
        refine lv_iconst (v := 2) hx hb dX6_keep_80 (by decide) ?_
        refine iv_iadd hx hb i_x65 q_2 (lo := 2) (hi := 38) (by decide) dX6_keep_81 (fun x66 e_x66 i_x66 => ?_)
        refine lv_aload hx hb dX6_keep_82 (lv_at hl 0 rfl) ?_
        refine iv_geti X ft_X1 hB a_b55 sh_1 6 (by decide) rfl k_fl_X6_43 dX6_keep_84 (fun x67 e_x67 i_x67 => ?_)
        refine iv_ast X hB a_b12 sh_27 (iv_in i_x66 (by decide)) i_x67 dX6_keep_87 (fun H locs hB => ?_)
        have hm := iv_Md.ast (j := x66.toNatClampNeg) (x := x67) a_b12 rfl (by decide)
        have h9 := iv_up_eq (G := G63) (a := b12) (k := (27, upd g64 x66.toNatClampNeg x67, r17))
        generalize iv_up G63 b12 _ = G68 at hB hm h9
        have hM := hM.stp hm (by decide)
        generalize hgn_g69 : upd g64 _ _ = g69 at h9
        have a_h1 := hm.at a_h1 (by decide)
        have a_b55 := hm.at a_b55 (by decide)
        have a_b12 := h9
        refine lv_aload_n hx hb dX6_keep_88 rfl (lv_at hl 2 rfl) ?_
        refine lv_iload_n hx hb dX6_keep_89 rfl (lv_at hl 1 rfl) ?_
        refine lv_iconst (v := 4) hx hb dX6_keep_90 (by decide) ?_
        refine iv_imul hx hb i52_x13 q_4 (lo := 0) (hi := 36) (by decide) dX6_keep_91 (fun x70 e_x70 i_x70 => ?_)
        refine lv_iconst (v := 3) hx hb dX6_keep_92 (by decide) ?_
        refine iv_iadd hx hb i_x70 q_3 (lo := 3) (hi := 39) (by decide) dX6_keep_93 (fun x71 e_x71 i_x71 => ?_)
        refine lv_aload hx hb dX6_keep_94 (lv_at hl 0 rfl) ?_
        refine iv_geti X ft_X1 hB a_b55 sh_1 7 (by decide) rfl k_fl_X6_46 dX6_keep_96 (fun x72 e_x72 i_x72 => ?_)
        refine iv_ast X hB a_b12 sh_27 (iv_in i_x71 (by decide)) i_x72 dX6_keep_99 (fun H locs hB => ?_)
        have hm := iv_Md.ast (j := x71.toNatClampNeg) (x := x72) a_b12 rfl (by decide)
        have h9 := iv_up_eq (G := G68) (a := b12) (k := (27, upd g69 x71.toNatClampNeg x72, r17))
        generalize iv_up G68 b12 _ = G73 at hB hm h9
        have hM := hM.stp hm (by decide)
        generalize hgn_g74 : upd g69 _ _ = g74 at h9
        have a_h1 := hm.at a_h1 (by decide)
        have a_b55 := hm.at a_b55 (by decide)
        have a_b12 := h9
        refine iv_iinc hx hb i52_x13 (lo := 1) (hi := 10) (by decide) dX6_keep_100 hl (k := 1) rfl (by decide) (fun x75 ls e_x75 i_x75 hl => ?_)
        have hl : lv_has ls 5 [(3, .int x75), (4, .ref b55), (2, .ref b12), (1, .ref h1)] := hl
        refine lv_goto (tgt := 40) hx hb dX6_keep_103 (by decide) ?_
        exact ih_40 G73 hM _ _ hB g14 r15 a_h1 g74 r17 a_b12 x75 (i_x75.wk (by decide)) (iv_mup (c := 1) i_x13 (by decide) (by decide) (by omega) hn) _ (lv_sub hl [0, 2, 3] rfl)
  exact L_40 _ G9 hM _ _ hB g_h1 r_h1 a_h1 g_b12 r_b12 a_b12 0 (q_0.wk (by decide)) (Nat.lt_succ_self _) _ (lv_sub hl [0, 1, 3] rfl)
theorem dX11_muffle_0 : decode cX11_muffle 0 = .ok (.iload_n 2, 1) := by decide +kernel
theorem dX11_muffle_1 : decode cX11_muffle 1 = .ok (.ifCond .eq 7, 3) := by decide +kernel
theorem dX11_muffle_4 : decode cX11_muffle 4 = .ok (.iconst 1, 1) := by decide +kernel
theorem dX11_muffle_5 : decode cX11_muffle 5 = .ok (.goto 4, 3) := by decide +kernel
theorem dX11_muffle_8 : decode cX11_muffle 8 = .ok (.iconst 0, 1) := by decide +kernel
theorem dX11_muffle_9 : decode cX11_muffle 9 = .ok (.istore_n 3, 1) := by decide +kernel
theorem dX11_muffle_10 : decode cX11_muffle 10 = .ok (.aload_n 0, 1) := by decide +kernel
theorem dX11_muffle_11 : decode cX11_muffle 11 = .ok (.getfield 12, 3) := by decide +kernel
theorem dX11_muffle_14 : decode cX11_muffle 14 = .ok (.iload_n 1, 1) := by decide +kernel
theorem dX11_muffle_15 : decode cX11_muffle 15 = .ok (.invokevirtual 119, 3) := by decide +kernel
theorem dX11_muffle_18 : decode cX11_muffle 18 = .ok (.ifCond .eq 35, 3) := by decide +kernel
theorem dX11_muffle_21 : decode cX11_muffle 21 = .ok (.aload_n 0, 1) := by decide +kernel
theorem dX11_muffle_22 : decode cX11_muffle 22 = .ok (.getfield 12, 3) := by decide +kernel
theorem dX11_muffle_25 : decode cX11_muffle 25 = .ok (.getfield 93, 3) := by decide +kernel
theorem dX11_muffle_28 : decode cX11_muffle 28 = .ok (.iload_n 1, 1) := by decide +kernel
theorem dX11_muffle_29 : decode cX11_muffle 29 = .ok (.aaload, 1) := by decide +kernel
theorem dX11_muffle_30 : decode cX11_muffle 30 = .ok (.getfield 131, 3) := by decide +kernel
theorem dX11_muffle_33 : decode cX11_muffle 33 = .ok (.iconst 2, 1) := by decide +kernel
theorem dX11_muffle_34 : decode cX11_muffle 34 = .ok (.if_icmp .eq 19, 3) := by decide +kernel
theorem dX11_muffle_37 : decode cX11_muffle 37 = .ok (.aload_n 0, 1) := by decide +kernel
theorem dX11_muffle_38 : decode cX11_muffle 38 = .ok (.getfield 12, 3) := by decide +kernel
theorem dX11_muffle_41 : decode cX11_muffle 41 = .ok (.getfield 93, 3) := by decide +kernel
theorem dX11_muffle_44 : decode cX11_muffle 44 = .ok (.iload_n 1, 1) := by decide +kernel
theorem dX11_muffle_45 : decode cX11_muffle 45 = .ok (.aaload, 1) := by decide +kernel
theorem dX11_muffle_46 : decode cX11_muffle 46 = .ok (.getfield 149, 3) := by decide +kernel
theorem dX11_muffle_49 : decode cX11_muffle 49 = .ok (.iload_n 3, 1) := by decide +kernel
theorem dX11_muffle_50 : decode cX11_muffle 50 = .ok (.if_icmp .ne 5, 3) := by decide +kernel
theorem dX11_muffle_53 : decode cX11_muffle 53 = .ok (.iconst 0, 1) := by decide +kernel
theorem dX11_muffle_54 : decode cX11_muffle 54 = .ok (.ireturn, 1) := by decide +kernel
theorem dX11_muffle_55 : decode cX11_muffle 55 = .ok (.aload_n 0, 1) := by decide +kernel
theorem dX11_muffle_56 : decode cX11_muffle 56 = .ok (.getfield 22, 3) := by decide +kernel
theorem dX11_muffle_59 : decode cX11_muffle 59 = .ok (.aload_n 0, 1) := by decide +kernel
theorem dX11_muffle_60 : decode cX11_muffle 60 = .ok (.getfield 12, 3) := by decide +kernel
theorem dX11_muffle_63 : decode cX11_muffle 63 = .ok (.invokevirtual 134, 3) := by decide +kernel
theorem dX11_muffle_66 : decode cX11_muffle 66 = .ok (.aload_n 0, 1) := by decide +kernel
theorem dX11_muffle_67 : decode cX11_muffle 67 = .ok (.getfield 12, 3) := by decide +kernel
theorem dX11_muffle_70 : decode cX11_muffle 70 = .ok (.getfield 93, 3) := by decide +kernel
theorem dX11_muffle_73 : decode cX11_muffle 73 = .ok (.iload_n 1, 1) := by decide +kernel
theorem dX11_muffle_74 : decode cX11_muffle 74 = .ok (.aaload, 1) := by decide +kernel
theorem dX11_muffle_75 : decode cX11_muffle 75 = .ok (.iload_n 3, 1) := by decide +kernel
theorem dX11_muffle_76 : decode cX11_muffle 76 = .ok (.putfield 149, 3) := by decide +kernel
theorem dX11_muffle_79 : decode cX11_muffle 79 = .ok (.iconst 1, 1) := by decide +kernel
theorem dX11_muffle_80 : decode cX11_muffle 80 = .ok (.ireturn, 1) := by decide +kernel
set_option maxHeartbeats 4000000 in
set_option maxRecDepth 100000 in
theorem c_X11_muffle (l : Launch) (D : va_G) (tys : List (ClassId × FieldType)) (base : Nat) (G : iv_G) (h0 : Nat) (g_h0 : Nat → Int32) (r_h0 : Nat → Nat) (a_h0 : G h0 = some (11, g_h0, r_h0)) (x_0 : Int32) (i_x_0 : iv_R (-2147483648) 2147483647 x_0) (x_1 : Int32) (i_x_1 : iv_R 0 1 x_1) : Met l yX11_muffle (Cond.code yX11_muffle cX11_muffle 4 (some .boolean) :: iv_W0) ({ frames := 3, cells := 0, slots := 0, locals := 68 }) (iv_Pc iv_sh D classes tys base G [.ref h0, .int x_0, .int x_1]) (iv_Qi iv_sh D classes tys base (fun v G' => iv_Md [1, 6, 27] G G' ∧ iv_R 0 1 v ∧ (¬ v = 0 → iv_R 0 9 x_0))) 0 0 (iv_A base) := by
  refine iv_head (by decide) (Nat.le_of_ble_eq_true rfl) ?_
  intro p e s m args below meth c ls X hr hlocks hname hB hl
  have X := X
  have hx := X.1.1
  have hb := X.1.2.1
  have hM : iv_Md [1, 6, 27] G G := iv_Md.rf
  have hl : lv_has ls 4 [(0, .ref h0), (1, .int x_0), (2, .int x_1)] := hl
  refine lv_iload_n hx hb dX11_muffle_0 rfl (lv_at hl 2 rfl) ?_
  refine lv_if_eq (tgt := 8) hx hb dX11_muffle_1 (by decide) (fun c1 => ?_) (fun c1 => ?_)
  · skip
    have i1_x_1 : iv_R 0 0 x_1 := (i_x_1.cutHi (n := 0) (iv_eq_r c1 q_0).2)
    refine lv_iconst (v := 0) hx hb dX11_muffle_8 (by decide) ?_
    refine lv_istore_n (lv' := [(3, .int 0), (0, .ref h0), (1, .int x_0), (2, .int x_1)]) hx hb dX11_muffle_9 rfl hl (by decide) rfl (fun ls hl => ?_)
    refine lv_aload_n hx hb dX11_muffle_10 rfl (lv_at hl 1 rfl) ?_
    refine iv_getr X ft_X11 hB a_h0 sh_11 0 (by decide) rfl k_fl_X11_12 dX11_muffle_11 (fun b3 g_b3 r_b3 e_b3 a_b3 => ?_)
    refine lv_iload_n hx hb dX11_muffle_14 rfl (lv_at hl 2 rfl) ?_
    refine iv_cVi X k_good k_mf_X5_hasBell k_im_X5_hasBell k_sel_X5_hasBell k_ml_X11_119 ft_X5 hB a_b3 sh_5 (As := [.int x_0]) (c_X5_hasBell l D tys base G b3 g_b3 r_b3 a_b3 x_0 i_x_0) ⟨rfl, rfl⟩ ⟨Nat.le_of_ble_eq_true rfl, Nat.le_of_ble_eq_true rfl⟩ ⟨Nat.le_of_ble_eq_true rfl, Nat.le_of_ble_eq_true rfl⟩ rfl rfl hl.1 (Nat.le_of_ble_eq_true rfl) dX11_muffle_15 (fun x4 G9 H locs hq hB => ?_)
    obtain ⟨rfl, i_x4, hp5⟩ := hq
    refine lv_if_eq (tgt := 53) hx hb dX11_muffle_18 (by decide) (fun c6 => ?_) (fun c6 => ?_)
    · skip
      have i6_x4 : iv_R 0 0 x4 := (i_x4.cutHi (n := 0) (iv_eq_r c6 q_0).2)
      refine lv_iconst (v := 0) hx hb dX11_muffle_53 (by decide) ?_
      exact iv_zret X hr hlocks hB (q_0.wk (by decide)) ⟨hM, (q_0.wk (by decide)), fun h => absurd (iv_z q_0) h⟩ dX11_muffle_54
    · skip
      have i7_x4 : iv_R 1 1 x4 := iv_ne_lo c6 i_x4 q_0 (by decide)
      have i8_x_0 : iv_R 0 9 x_0 := ((i_x_0.cutLo (n := 0) (hp5 c6).1).cutHi (n := 9) (hp5 c6).2)
      refine lv_aload_n hx hb dX11_muffle_21 rfl (lv_at hl 1 rfl) ?_
      refine iv_getr0 X ft_X11 hB a_h0 sh_11 0 (by decide) rfl k_fl_X11_12 dX11_muffle_22 e_b3 ?_
      refine iv_getr X ft_X5 hB a_b3 sh_5 0 (by decide) rfl k_fl_X11_93 dX11_muffle_25 (fun b10 g_b10 r_b10 e_b10 a_b10 => ?_)
      refine lv_iload_n hx hb dX11_muffle_28 rfl (lv_at hl 2 rfl) ?_
      refine iv_aald X hB a_b10 sh_40 (iv_in i8_x_0 (by decide)) dX11_muffle_29 (fun b11 g_b11 r_b11 e_b11 a_b11 => ?_)
      refine iv_geti X ft_X1 hB a_b11 sh_1 6 (by decide) rfl k_fl_X11_131 dX11_muffle_30 (fun x12 e_x12 i_x12 => ?_)
      refine lv_iconst (v := 2) hx hb dX11_muffle_33 (by decide) ?_
      refine lv_icmp_eq (tgt := 53) hx hb dX11_muffle_34 (by decide) (fun c13 => ?_) (fun c13 => ?_)
      · skip
        have i13_x12 : iv_R 2 2 x12 := ((i_x12.cutLo (n := 2) (iv_eq_r c13 q_2).1).cutHi (n := 2) (iv_eq_r c13 q_2).2)
        refine lv_iconst (v := 0) hx hb dX11_muffle_53 (by decide) ?_
        exact iv_zret X hr hlocks hB (q_0.wk (by decide)) ⟨hM, (q_0.wk (by decide)), fun _ => i8_x_0⟩ dX11_muffle_54
      · skip
        refine lv_aload_n hx hb dX11_muffle_37 rfl (lv_at hl 1 rfl) ?_
        refine iv_getr0 X ft_X11 hB a_h0 sh_11 0 (by decide) rfl k_fl_X11_12 dX11_muffle_38 e_b3 ?_
        refine iv_getr0 X ft_X5 hB a_b3 sh_5 0 (by decide) rfl k_fl_X11_93 dX11_muffle_41 e_b10 ?_
        refine lv_iload_n hx hb dX11_muffle_44 rfl (lv_at hl 2 rfl) ?_
        refine iv_aald X hB a_b10 sh_40 (iv_in i8_x_0 (by decide)) dX11_muffle_45 (fun b15 g_b15 r_b15 e_b15 a_b15 => ?_)
        refine iv_geti X ft_X1 hB a_b15 sh_1 5 (by decide) rfl k_fl_X11_149 dX11_muffle_46 (fun x16 e_x16 i_x16 => ?_)
        refine lv_iload_n hx hb dX11_muffle_49 rfl (lv_at hl 0 rfl) ?_
        refine lv_icmp_ne (tgt := 55) hx hb dX11_muffle_50 (by decide) (fun c17 => ?_) (fun c17 => ?_)
        · skip
          refine lv_aload_n hx hb dX11_muffle_55 rfl (lv_at hl 1 rfl) ?_
          refine iv_getr X ft_X11 hB a_h0 sh_11 3 (by decide) rfl k_fl_X11_22 dX11_muffle_56 (fun b18 g_b18 r_b18 e_b18 a_b18 => ?_)
          refine lv_aload_n hx hb dX11_muffle_59 rfl (lv_at hl 1 rfl) ?_
          refine iv_getr0 X ft_X11 hB a_h0 sh_11 0 (by decide) rfl k_fl_X11_12 dX11_muffle_60 e_b3 ?_
          refine iv_cVv X k_good k_mf_X6_keep k_im_X6_keep k_sel_X6_keep k_ml_X11_134 ft_X6 hB a_b18 sh_6 (As := [.ref b3]) (c_X6_keep l D tys base G b18 g_b18 r_b18 a_b18 b3 g_b3 r_b3 a_b3) ⟨rfl, rfl⟩ ⟨Nat.le_of_ble_eq_true rfl, Nat.le_of_ble_eq_true rfl⟩ ⟨Nat.le_of_ble_eq_true rfl, Nat.le_of_ble_eq_true rfl⟩ rfl rfl hl.1 (Nat.le_of_ble_eq_true rfl) dX11_muffle_63 (fun G9 H locs hq hB => ?_)
          have hm := hq
          obtain ⟨G19, hG9⟩ : ∃ g, g = G9 := ⟨_, rfl⟩
          rw [← hG9] at hm hB
          have hM := hM.stp hm (by decide)
          have a_h0 := hm.at a_h0 (by decide)
          refine lv_aload_n hx hb dX11_muffle_66 rfl (lv_at hl 1 rfl) ?_
          refine iv_getr X ft_X11 hB a_h0 sh_11 0 (by decide) rfl k_fl_X11_12 dX11_muffle_67 (fun b20 g_b20 r_b20 e_b20 a_b20 => ?_)
          refine iv_getr X ft_X5 hB a_b20 sh_5 0 (by decide) rfl k_fl_X11_93 dX11_muffle_70 (fun b21 g_b21 r_b21 e_b21 a_b21 => ?_)
          refine lv_iload_n hx hb dX11_muffle_73 rfl (lv_at hl 2 rfl) ?_
          refine iv_aald X hB a_b21 sh_40 (iv_in i8_x_0 (by decide)) dX11_muffle_74 (fun b22 g_b22 r_b22 e_b22 a_b22 => ?_)
          refine lv_iload_n hx hb dX11_muffle_75 rfl (lv_at hl 0 rfl) ?_
          refine iv_puti X ft_X1 hB a_b22 sh_1 5 (by decide) rfl rfl k_fl_X11_149 rfl (q_0.wk (by decide)) rfl rfl dX11_muffle_76 (fun H locs hB => ?_)
          have hm := iv_Md.put (x := 0) a_b22 (j := 5) (by decide) (by decide)
          have h9 := iv_up_eq (G := G19) (a := b22) (k := (1, upd g_b22 5 0, r_b22))
          generalize iv_up G19 b22 _ = G23 at hB hm h9
          have hM := hM.stp hm (by decide)
          have a_h0 := hm.at a_h0 (by decide)
          refine lv_iconst (v := 1) hx hb dX11_muffle_79 (by decide) ?_
          exact iv_zret X hr hlocks hB (q_1.wk (by decide)) ⟨hM, (q_1.wk (by decide)), fun _ => i8_x_0⟩ dX11_muffle_80
        · skip
          have i24_x16 : iv_R 0 0 x16 := ((i_x16.cutLo (n := 0) (iv_eq_r c17 q_0).1).cutHi (n := 0) (iv_eq_r c17 q_0).2)
          refine lv_iconst (v := 0) hx hb dX11_muffle_53 (by decide) ?_
          exact iv_zret X hr hlocks hB (q_0.wk (by decide)) ⟨hM, (q_0.wk (by decide)), fun _ => i8_x_0⟩ dX11_muffle_54
  · skip
    have i25_x_1 : iv_R 1 1 x_1 := iv_ne_lo c1 i_x_1 q_0 (by decide)
    refine lv_iconst (v := 1) hx hb dX11_muffle_4 (by decide) ?_
    refine lv_goto (tgt := 9) hx hb dX11_muffle_5 (by decide) ?_
    refine lv_istore_n (lv' := [(3, .int 1), (0, .ref h0), (1, .int x_0), (2, .int x_1)]) hx hb dX11_muffle_9 rfl hl (by decide) rfl (fun ls hl => ?_)
    refine lv_aload_n hx hb dX11_muffle_10 rfl (lv_at hl 1 rfl) ?_
    refine iv_getr X ft_X11 hB a_h0 sh_11 0 (by decide) rfl k_fl_X11_12 dX11_muffle_11 (fun b27 g_b27 r_b27 e_b27 a_b27 => ?_)
    refine lv_iload_n hx hb dX11_muffle_14 rfl (lv_at hl 2 rfl) ?_
    refine iv_cVi X k_good k_mf_X5_hasBell k_im_X5_hasBell k_sel_X5_hasBell k_ml_X11_119 ft_X5 hB a_b27 sh_5 (As := [.int x_0]) (c_X5_hasBell l D tys base G b27 g_b27 r_b27 a_b27 x_0 i_x_0) ⟨rfl, rfl⟩ ⟨Nat.le_of_ble_eq_true rfl, Nat.le_of_ble_eq_true rfl⟩ ⟨Nat.le_of_ble_eq_true rfl, Nat.le_of_ble_eq_true rfl⟩ rfl rfl hl.1 (Nat.le_of_ble_eq_true rfl) dX11_muffle_15 (fun x28 G9 H locs hq hB => ?_)
    obtain ⟨rfl, i_x28, hp29⟩ := hq
    refine lv_if_eq (tgt := 53) hx hb dX11_muffle_18 (by decide) (fun c30 => ?_) (fun c30 => ?_)
    · skip
      have i30_x28 : iv_R 0 0 x28 := (i_x28.cutHi (n := 0) (iv_eq_r c30 q_0).2)
      refine lv_iconst (v := 0) hx hb dX11_muffle_53 (by decide) ?_
      exact iv_zret X hr hlocks hB (q_0.wk (by decide)) ⟨hM, (q_0.wk (by decide)), fun h => absurd (iv_z q_0) h⟩ dX11_muffle_54
    · skip
      have i31_x28 : iv_R 1 1 x28 := iv_ne_lo c30 i_x28 q_0 (by decide)
      have i32_x_0 : iv_R 0 9 x_0 := ((i_x_0.cutLo (n := 0) (hp29 c30).1).cutHi (n := 9) (hp29 c30).2)
      refine lv_aload_n hx hb dX11_muffle_21 rfl (lv_at hl 1 rfl) ?_
      refine iv_getr0 X ft_X11 hB a_h0 sh_11 0 (by decide) rfl k_fl_X11_12 dX11_muffle_22 e_b27 ?_
      refine iv_getr X ft_X5 hB a_b27 sh_5 0 (by decide) rfl k_fl_X11_93 dX11_muffle_25 (fun b34 g_b34 r_b34 e_b34 a_b34 => ?_)
      refine lv_iload_n hx hb dX11_muffle_28 rfl (lv_at hl 2 rfl) ?_
      refine iv_aald X hB a_b34 sh_40 (iv_in i32_x_0 (by decide)) dX11_muffle_29 (fun b35 g_b35 r_b35 e_b35 a_b35 => ?_)
      refine iv_geti X ft_X1 hB a_b35 sh_1 6 (by decide) rfl k_fl_X11_131 dX11_muffle_30 (fun x36 e_x36 i_x36 => ?_)
      refine lv_iconst (v := 2) hx hb dX11_muffle_33 (by decide) ?_
      refine lv_icmp_eq (tgt := 53) hx hb dX11_muffle_34 (by decide) (fun c37 => ?_) (fun c37 => ?_)
      · skip
        have i37_x36 : iv_R 2 2 x36 := ((i_x36.cutLo (n := 2) (iv_eq_r c37 q_2).1).cutHi (n := 2) (iv_eq_r c37 q_2).2)
        refine lv_iconst (v := 0) hx hb dX11_muffle_53 (by decide) ?_
        exact iv_zret X hr hlocks hB (q_0.wk (by decide)) ⟨hM, (q_0.wk (by decide)), fun _ => i32_x_0⟩ dX11_muffle_54
      · skip
        refine lv_aload_n hx hb dX11_muffle_37 rfl (lv_at hl 1 rfl) ?_
        refine iv_getr0 X ft_X11 hB a_h0 sh_11 0 (by decide) rfl k_fl_X11_12 dX11_muffle_38 e_b27 ?_
        refine iv_getr0 X ft_X5 hB a_b27 sh_5 0 (by decide) rfl k_fl_X11_93 dX11_muffle_41 e_b34 ?_
        refine lv_iload_n hx hb dX11_muffle_44 rfl (lv_at hl 2 rfl) ?_
        refine iv_aald X hB a_b34 sh_40 (iv_in i32_x_0 (by decide)) dX11_muffle_45 (fun b39 g_b39 r_b39 e_b39 a_b39 => ?_)
        refine iv_geti X ft_X1 hB a_b39 sh_1 5 (by decide) rfl k_fl_X11_149 dX11_muffle_46 (fun x40 e_x40 i_x40 => ?_)
        refine lv_iload_n hx hb dX11_muffle_49 rfl (lv_at hl 0 rfl) ?_
        refine lv_icmp_ne (tgt := 55) hx hb dX11_muffle_50 (by decide) (fun c41 => ?_) (fun c41 => ?_)
        · skip
          refine lv_aload_n hx hb dX11_muffle_55 rfl (lv_at hl 1 rfl) ?_
          refine iv_getr X ft_X11 hB a_h0 sh_11 3 (by decide) rfl k_fl_X11_22 dX11_muffle_56 (fun b42 g_b42 r_b42 e_b42 a_b42 => ?_)
          refine lv_aload_n hx hb dX11_muffle_59 rfl (lv_at hl 1 rfl) ?_
          refine iv_getr0 X ft_X11 hB a_h0 sh_11 0 (by decide) rfl k_fl_X11_12 dX11_muffle_60 e_b27 ?_
          refine iv_cVv X k_good k_mf_X6_keep k_im_X6_keep k_sel_X6_keep k_ml_X11_134 ft_X6 hB a_b42 sh_6 (As := [.ref b27]) (c_X6_keep l D tys base G b42 g_b42 r_b42 a_b42 b27 g_b27 r_b27 a_b27) ⟨rfl, rfl⟩ ⟨Nat.le_of_ble_eq_true rfl, Nat.le_of_ble_eq_true rfl⟩ ⟨Nat.le_of_ble_eq_true rfl, Nat.le_of_ble_eq_true rfl⟩ rfl rfl hl.1 (Nat.le_of_ble_eq_true rfl) dX11_muffle_63 (fun G9 H locs hq hB => ?_)
          have hm := hq
          obtain ⟨G43, hG9⟩ : ∃ g, g = G9 := ⟨_, rfl⟩
          rw [← hG9] at hm hB
          have hM := hM.stp hm (by decide)
          have a_h0 := hm.at a_h0 (by decide)
          refine lv_aload_n hx hb dX11_muffle_66 rfl (lv_at hl 1 rfl) ?_
          refine iv_getr X ft_X11 hB a_h0 sh_11 0 (by decide) rfl k_fl_X11_12 dX11_muffle_67 (fun b44 g_b44 r_b44 e_b44 a_b44 => ?_)
          refine iv_getr X ft_X5 hB a_b44 sh_5 0 (by decide) rfl k_fl_X11_93 dX11_muffle_70 (fun b45 g_b45 r_b45 e_b45 a_b45 => ?_)
          refine lv_iload_n hx hb dX11_muffle_73 rfl (lv_at hl 2 rfl) ?_
          refine iv_aald X hB a_b45 sh_40 (iv_in i32_x_0 (by decide)) dX11_muffle_74 (fun b46 g_b46 r_b46 e_b46 a_b46 => ?_)
          refine lv_iload_n hx hb dX11_muffle_75 rfl (lv_at hl 0 rfl) ?_
          refine iv_puti X ft_X1 hB a_b46 sh_1 5 (by decide) rfl rfl k_fl_X11_149 rfl (q_1.wk (by decide)) rfl rfl dX11_muffle_76 (fun H locs hB => ?_)
          have hm := iv_Md.put (x := 1) a_b46 (j := 5) (by decide) (by decide)
          have h9 := iv_up_eq (G := G43) (a := b46) (k := (1, upd g_b46 5 1, r_b46))
          generalize iv_up G43 b46 _ = G47 at hB hm h9
          have hM := hM.stp hm (by decide)
          have a_h0 := hm.at a_h0 (by decide)
          refine lv_iconst (v := 1) hx hb dX11_muffle_79 (by decide) ?_
          exact iv_zret X hr hlocks hB (q_1.wk (by decide)) ⟨hM, (q_1.wk (by decide)), fun _ => i32_x_0⟩ dX11_muffle_80
        · skip
          have i48_x40 : iv_R 1 1 x40 := ((i_x40.cutLo (n := 1) (iv_eq_r c41 q_1).1).cutHi (n := 1) (iv_eq_r c41 q_1).2)
          refine lv_iconst (v := 0) hx hb dX11_muffle_53 (by decide) ?_
          exact iv_zret X hr hlocks hB (q_0.wk (by decide)) ⟨hM, (q_0.wk (by decide)), fun _ => i32_x_0⟩ dX11_muffle_54
theorem dX5_areOctaves_0 : decode cX5_areOctaves 0 = .ok (.aload_n 0, 1) := by decide +kernel
theorem dX5_areOctaves_1 : decode cX5_areOctaves 1 = .ok (.getfield 11, 3) := by decide +kernel
theorem dX5_areOctaves_4 : decode cX5_areOctaves 4 = .ok (.iload_n 1, 1) := by decide +kernel
theorem dX5_areOctaves_5 : decode cX5_areOctaves 5 = .ok (.aaload, 1) := by decide +kernel
theorem dX5_areOctaves_6 : decode cX5_areOctaves 6 = .ok (.getfield 109, 3) := by decide +kernel
theorem dX5_areOctaves_9 : decode cX5_areOctaves 9 = .ok (.aload_n 0, 1) := by decide +kernel
theorem dX5_areOctaves_10 : decode cX5_areOctaves 10 = .ok (.getfield 11, 3) := by decide +kernel
theorem dX5_areOctaves_13 : decode cX5_areOctaves 13 = .ok (.iload_n 2, 1) := by decide +kernel
theorem dX5_areOctaves_14 : decode cX5_areOctaves 14 = .ok (.aaload, 1) := by decide +kernel
theorem dX5_areOctaves_15 : decode cX5_areOctaves 15 = .ok (.getfield 109, 3) := by decide +kernel
theorem dX5_areOctaves_18 : decode cX5_areOctaves 18 = .ok (.isub, 1) := by decide +kernel
theorem dX5_areOctaves_19 : decode cX5_areOctaves 19 = .ok (.invokestatic 112, 3) := by decide +kernel
theorem dX5_areOctaves_22 : decode cX5_areOctaves 22 = .ok (.bipush 12, 2) := by decide +kernel
theorem dX5_areOctaves_24 : decode cX5_areOctaves 24 = .ok (.irem, 1) := by decide +kernel
theorem dX5_areOctaves_25 : decode cX5_areOctaves 25 = .ok (.ifCond .ne 7, 3) := by decide +kernel
theorem dX5_areOctaves_28 : decode cX5_areOctaves 28 = .ok (.iconst 1, 1) := by decide +kernel
theorem dX5_areOctaves_29 : decode cX5_areOctaves 29 = .ok (.goto 4, 3) := by decide +kernel
theorem dX5_areOctaves_32 : decode cX5_areOctaves 32 = .ok (.iconst 0, 1) := by decide +kernel
theorem dX5_areOctaves_33 : decode cX5_areOctaves 33 = .ok (.ireturn, 1) := by decide +kernel
set_option maxHeartbeats 4000000 in
set_option maxRecDepth 100000 in
theorem c_X5_areOctaves (l : Launch) (D : va_G) (tys : List (ClassId × FieldType)) (base : Nat) (G : iv_G) (h0 : Nat) (g_h0 : Nat → Int32) (r_h0 : Nat → Nat) (a_h0 : G h0 = some (5, g_h0, r_h0)) (x_0 : Int32) (i_x_0 : iv_R 0 9 x_0) (x_1 : Int32) (i_x_1 : iv_R 0 9 x_1) : Met l yX5_areOctaves (Cond.code yX5_areOctaves cX5_areOctaves 3 (some .boolean) :: iv_W0) ({ frames := 1, cells := 0, slots := 0, locals := 13 }) (iv_Pc iv_sh D classes tys base G [.ref h0, .int x_0, .int x_1]) (iv_Qi iv_sh D classes tys base (fun v G' => G = G' ∧ iv_R 0 1 v)) 0 0 (iv_A base) := by
  refine iv_head (by decide) (Nat.le_of_ble_eq_true rfl) ?_
  intro p e s m args below meth c ls X hr hlocks hname hB hl
  have X := X
  have hx := X.1.1
  have hb := X.1.2.1
  have hl : lv_has ls 3 [(0, .ref h0), (1, .int x_0), (2, .int x_1)] := hl
  refine lv_aload_n hx hb dX5_areOctaves_0 rfl (lv_at hl 0 rfl) ?_
  refine iv_getr X ft_X5 hB a_h0 sh_5 0 (by decide) rfl k_fl_X5_11 dX5_areOctaves_1 (fun b1 g_b1 r_b1 e_b1 a_b1 => ?_)
  refine lv_iload_n hx hb dX5_areOctaves_4 rfl (lv_at hl 1 rfl) ?_
  refine iv_aald X hB a_b1 sh_40 (iv_in i_x_0 (by decide)) dX5_areOctaves_5 (fun b2 g_b2 r_b2 e_b2 a_b2 => ?_)
  refine iv_geti X ft_X1 hB a_b2 sh_1 1 (by decide) rfl k_fl_X5_109 dX5_areOctaves_6 (fun x3 e_x3 i_x3 => ?_)
  refine lv_aload_n hx hb dX5_areOctaves_9 rfl (lv_at hl 0 rfl) ?_
  refine iv_getr0 X ft_X5 hB a_h0 sh_5 0 (by decide) rfl k_fl_X5_11 dX5_areOctaves_10 e_b1 ?_
  refine lv_iload_n hx hb dX5_areOctaves_13 rfl (lv_at hl 2 rfl) ?_
  refine iv_aald X hB a_b1 sh_40 (iv_in i_x_1 (by decide)) dX5_areOctaves_14 (fun b4 g_b4 r_b4 e_b4 a_b4 => ?_)
  refine iv_geti X ft_X1 hB a_b4 sh_1 1 (by decide) rfl k_fl_X5_109 dX5_areOctaves_15 (fun x5 e_x5 i_x5 => ?_)
  refine lv_isub hx hb dX5_areOctaves_18 ?_
  refine lv_topi (fun x6 e_x6 => ?_)
  have i_x6 := iv_R.all x6
  refine iv_mabs X hl.1 k_mm_X5_112 ⟨Nat.le_of_ble_eq_true rfl, Nat.le_of_ble_eq_true rfl⟩ ⟨Nat.le_of_ble_eq_true rfl, Nat.le_of_ble_eq_true rfl⟩ dX5_areOctaves_19 (fun x7 e_x7 i_x7 => ?_)
  refine lv_bipush (v := 12) hx hb dX5_areOctaves_22 (by decide) ?_
  refine iv_irem hx hb i_x7 q_12 (lo := (-11)) (hi := 11) (by decide) dX5_areOctaves_24 (fun x8 e_x8 i_x8 => ?_)
  refine lv_if_ne (tgt := 32) hx hb dX5_areOctaves_25 (by decide) (fun c9 => ?_) (fun c9 => ?_)
  · skip
    refine lv_iconst (v := 0) hx hb dX5_areOctaves_32 (by decide) ?_
    exact iv_zret X hr hlocks hB (q_0.wk (by decide)) ⟨rfl, (q_0.wk (by decide))⟩ dX5_areOctaves_33
  · skip
    have i9_x8 : iv_R 0 0 x8 := ((i_x8.cutLo (n := 0) (iv_eq_r c9 q_0).1).cutHi (n := 0) (iv_eq_r c9 q_0).2)
    refine lv_iconst (v := 1) hx hb dX5_areOctaves_28 (by decide) ?_
    refine lv_goto (tgt := 33) hx hb dX5_areOctaves_29 (by decide) ?_
    exact iv_zret X hr hlocks hB (q_1.wk (by decide)) ⟨rfl, (q_1.wk (by decide))⟩ dX5_areOctaves_33
theorem dX11_octaves_0 : decode cX11_octaves 0 = .ok (.aload_n 0, 1) := by decide +kernel
theorem dX11_octaves_1 : decode cX11_octaves 1 = .ok (.getfield 12, 3) := by decide +kernel
theorem dX11_octaves_4 : decode cX11_octaves 4 = .ok (.iload_n 1, 1) := by decide +kernel
theorem dX11_octaves_5 : decode cX11_octaves 5 = .ok (.invokevirtual 119, 3) := by decide +kernel
theorem dX11_octaves_8 : decode cX11_octaves 8 = .ok (.ifCond .ne 5, 3) := by decide +kernel
theorem dX11_octaves_11 : decode cX11_octaves 11 = .ok (.iconst (-1), 1) := by decide +kernel
theorem dX11_octaves_12 : decode cX11_octaves 12 = .ok (.ireturn, 1) := by decide +kernel
theorem dX11_octaves_13 : decode cX11_octaves 13 = .ok (.iconst 0, 1) := by decide +kernel
theorem dX11_octaves_14 : decode cX11_octaves 14 = .ok (.istore_n 2, 1) := by decide +kernel
theorem dX11_octaves_15 : decode cX11_octaves 15 = .ok (.iconst 0, 1) := by decide +kernel
theorem dX11_octaves_16 : decode cX11_octaves 16 = .ok (.istore_n 3, 1) := by decide +kernel
theorem dX11_octaves_17 : decode cX11_octaves 17 = .ok (.iload_n 3, 1) := by decide +kernel
theorem dX11_octaves_18 : decode cX11_octaves 18 = .ok (.aload_n 0, 1) := by decide +kernel
theorem dX11_octaves_19 : decode cX11_octaves 19 = .ok (.getfield 12, 3) := by decide +kernel
theorem dX11_octaves_22 : decode cX11_octaves 22 = .ok (.getfield 90, 3) := by decide +kernel
theorem dX11_octaves_25 : decode cX11_octaves 25 = .ok (.if_icmp .ge 48, 3) := by decide +kernel
theorem dX11_octaves_28 : decode cX11_octaves 28 = .ok (.iload_n 3, 1) := by decide +kernel
theorem dX11_octaves_29 : decode cX11_octaves 29 = .ok (.iload_n 1, 1) := by decide +kernel
theorem dX11_octaves_30 : decode cX11_octaves 30 = .ok (.if_icmp .eq 37, 3) := by decide +kernel
theorem dX11_octaves_33 : decode cX11_octaves 33 = .ok (.aload_n 0, 1) := by decide +kernel
theorem dX11_octaves_34 : decode cX11_octaves 34 = .ok (.getfield 12, 3) := by decide +kernel
theorem dX11_octaves_37 : decode cX11_octaves 37 = .ok (.getfield 93, 3) := by decide +kernel
theorem dX11_octaves_40 : decode cX11_octaves 40 = .ok (.iload_n 3, 1) := by decide +kernel
theorem dX11_octaves_41 : decode cX11_octaves 41 = .ok (.aaload, 1) := by decide +kernel
theorem dX11_octaves_42 : decode cX11_octaves 42 = .ok (.getfield 131, 3) := by decide +kernel
theorem dX11_octaves_45 : decode cX11_octaves 45 = .ok (.iconst 2, 1) := by decide +kernel
theorem dX11_octaves_46 : decode cX11_octaves 46 = .ok (.if_icmp .eq 21, 3) := by decide +kernel
theorem dX11_octaves_49 : decode cX11_octaves 49 = .ok (.aload_n 0, 1) := by decide +kernel
theorem dX11_octaves_50 : decode cX11_octaves 50 = .ok (.getfield 12, 3) := by decide +kernel
theorem dX11_octaves_53 : decode cX11_octaves 53 = .ok (.iload_n 1, 1) := by decide +kernel
theorem dX11_octaves_54 : decode cX11_octaves 54 = .ok (.iload_n 3, 1) := by decide +kernel
theorem dX11_octaves_55 : decode cX11_octaves 55 = .ok (.invokevirtual 328, 3) := by decide +kernel
theorem dX11_octaves_58 : decode cX11_octaves 58 = .ok (.ifCond .eq 9, 3) := by decide +kernel
theorem dX11_octaves_61 : decode cX11_octaves 61 = .ok (.iload_n 2, 1) := by decide +kernel
theorem dX11_octaves_62 : decode cX11_octaves 62 = .ok (.iconst 1, 1) := by decide +kernel
theorem dX11_octaves_63 : decode cX11_octaves 63 = .ok (.iload_n 3, 1) := by decide +kernel
theorem dX11_octaves_64 : decode cX11_octaves 64 = .ok (.ishl, 1) := by decide +kernel
theorem dX11_octaves_65 : decode cX11_octaves 65 = .ok (.ior, 1) := by decide +kernel
theorem dX11_octaves_66 : decode cX11_octaves 66 = .ok (.istore_n 2, 1) := by decide +kernel
theorem dX11_octaves_67 : decode cX11_octaves 67 = .ok (.iinc 3 1, 3) := by decide +kernel
theorem dX11_octaves_70 : decode cX11_octaves 70 = .ok (.goto (-53), 3) := by decide +kernel
theorem dX11_octaves_73 : decode cX11_octaves 73 = .ok (.iload_n 2, 1) := by decide +kernel
theorem dX11_octaves_74 : decode cX11_octaves 74 = .ok (.ireturn, 1) := by decide +kernel
set_option maxHeartbeats 4000000 in
set_option maxRecDepth 100000 in
theorem c_X11_octaves (l : Launch) (D : va_G) (tys : List (ClassId × FieldType)) (base : Nat) (G : iv_G) (h0 : Nat) (g_h0 : Nat → Int32) (r_h0 : Nat → Nat) (a_h0 : G h0 = some (11, g_h0, r_h0)) (x_0 : Int32) (i_x_0 : iv_R (-2147483648) 2147483647 x_0) : Met l yX11_octaves (Cond.code yX11_octaves cX11_octaves 4 (some .int) :: iv_W0) ({ frames := 2, cells := 0, slots := 0, locals := 35 }) (iv_Pc iv_sh D classes tys base G [.ref h0, .int x_0]) (iv_Qi iv_sh D classes tys base (fun v G' => G = G' ∧ iv_R (-2147483648) 2147483647 v)) 0 0 (iv_A base) := by
  refine iv_head (by decide) (Nat.le_of_ble_eq_true rfl) ?_
  intro p e s m args below meth c ls X hr hlocks hname hB hl
  have X := X
  have hx := X.1.1
  have hb := X.1.2.1
  have hl : lv_has ls 4 [(0, .ref h0), (1, .int x_0)] := hl
  refine lv_aload_n hx hb dX11_octaves_0 rfl (lv_at hl 0 rfl) ?_
  refine iv_getr X ft_X11 hB a_h0 sh_11 0 (by decide) rfl k_fl_X11_12 dX11_octaves_1 (fun b1 g_b1 r_b1 e_b1 a_b1 => ?_)
  refine lv_iload_n hx hb dX11_octaves_4 rfl (lv_at hl 1 rfl) ?_
  refine iv_cVi X k_good k_mf_X5_hasBell k_im_X5_hasBell k_sel_X5_hasBell k_ml_X11_119 ft_X5 hB a_b1 sh_5 (As := [.int x_0]) (c_X5_hasBell l D tys base G b1 g_b1 r_b1 a_b1 x_0 i_x_0) ⟨rfl, rfl⟩ ⟨Nat.le_of_ble_eq_true rfl, Nat.le_of_ble_eq_true rfl⟩ ⟨Nat.le_of_ble_eq_true rfl, Nat.le_of_ble_eq_true rfl⟩ rfl rfl hl.1 (Nat.le_of_ble_eq_true rfl) dX11_octaves_5 (fun x2 G9 H locs hq hB => ?_)
  obtain ⟨rfl, i_x2, hp3⟩ := hq
  refine lv_if_ne (tgt := 13) hx hb dX11_octaves_8 (by decide) (fun c4 => ?_) (fun c4 => ?_)
  · skip
    have i4_x2 : iv_R 1 1 x2 := iv_ne_lo c4 i_x2 q_0 (by decide)
    have i5_x_0 : iv_R 0 9 x_0 := ((i_x_0.cutLo (n := 0) (hp3 c4).1).cutHi (n := 9) (hp3 c4).2)
    refine lv_iconst (v := 0) hx hb dX11_octaves_13 (by decide) ?_
    refine lv_istore_n (lv' := [(2, .int 0), (0, .ref h0), (1, .int x_0)]) hx hb dX11_octaves_14 rfl hl (by decide) rfl (fun ls hl => ?_)
    refine lv_iconst (v := 0) hx hb dX11_octaves_15 (by decide) ?_
    refine lv_istore_n (lv' := [(3, .int 0), (2, .int 0), (0, .ref h0), (1, .int x_0)]) hx hb dX11_octaves_16 rfl hl (by decide) rfl (fun ls hl => ?_)
    have L_17 : ∀ (n_17 : Nat) (H : Heap) (locs : List Loc) (hB : iv_B iv_sh D classes tys base G s.heap H locs) (x7 : Int32) (i_x7 : iv_R (-2147483648) 2147483647 x7) (x8 : Int32) (i_x8 : iv_R 0 10 x8) (hn : (11 - x8.toInt).toNat < n_17) (ls : Array Slot) (hl : lv_has ls 4 [(3, .int x8), (2, .int x7), (0, .ref h0), (1, .int x_0)]), W p l e ({ frames := 2, cells := 0, slots := 0, locals := 35 } : Room) s m args below meth c H locs 0 0 (MQ below (iv_Qi iv_sh D classes tys base (fun v G' => G = G' ∧ iv_R (-2147483648) 2147483647 v)) args s 0 0 (iv_A base)) (F0 m 17 ls []) := by
      intro n_17
      induction n_17 with
      | zero => intro H locs hB x7 i_x7 x8 i_x8 hn ls hl; exact absurd hn (Nat.not_lt_zero _)
      | succ n_17 ih_17 =>
        intro H locs hB x7 i_x7 x8 i_x8 hn ls hl
        refine lv_iload_n hx hb dX11_octaves_17 rfl (lv_at hl 0 rfl) ?_
        refine lv_aload_n hx hb dX11_octaves_18 rfl (lv_at hl 2 rfl) ?_
        refine iv_getr0 X ft_X11 hB a_h0 sh_11 0 (by decide) rfl k_fl_X11_12 dX11_octaves_19 e_b1 ?_
        refine iv_geti X ft_X5 hB a_b1 sh_5 1 (by decide) rfl k_fl_X11_90 dX11_octaves_22 (fun x9 e_x9 i_x9 => ?_)
        refine lv_icmp_ge (tgt := 73) hx hb dX11_octaves_25 (by decide) (fun c10 => ?_) (fun c10 => ?_)
        · skip
          refine lv_iload_n hx hb dX11_octaves_73 rfl (lv_at hl 1 rfl) ?_
          exact iv_iret X hr hlocks hB ⟨rfl, i_x7⟩ dX11_octaves_74
        · skip
          have i10_x8 : iv_R 0 9 x8 := (i_x8.cutHi (n := 9) (iv_lt_r (iv_nle c10) i_x9 (by decide)))
          have i11_x9 : iv_R 1 10 x9 := (i_x9.cutLo (n := 1) (iv_lt_l (iv_nle c10) i_x8 (by decide)))
          refine lv_iload_n hx hb dX11_octaves_28 rfl (lv_at hl 0 rfl) ?_
          refine lv_iload_n hx hb dX11_octaves_29 rfl (lv_at hl 3 rfl) ?_
          refine lv_icmp_eq (tgt := 67) hx hb dX11_octaves_30 (by decide) (fun c13 => ?_) (fun c13 => ?_)
          · skip
            refine iv_iinc hx hb i10_x8 (lo := 1) (hi := 10) (by decide) dX11_octaves_67 hl (k := 0) rfl (by decide) (fun x14 ls e_x14 i_x14 hl => ?_)
            have hl : lv_has ls 4 [(3, .int x14), (2, .int x7), (0, .ref h0), (1, .int x_0)] := hl
            refine lv_goto (tgt := 17) hx hb dX11_octaves_70 (by decide) ?_
            exact ih_17 _ _ hB x7 i_x7 x14 (i_x14.wk (by decide)) (iv_mup (c := 1) i_x8 (by decide) (by decide) (by omega) hn) _ (lv_sub hl [0, 1, 2, 3] rfl)
          · skip
            refine lv_aload_n hx hb dX11_octaves_33 rfl (lv_at hl 2 rfl) ?_
            refine iv_getr0 X ft_X11 hB a_h0 sh_11 0 (by decide) rfl k_fl_X11_12 dX11_octaves_34 e_b1 ?_
            refine iv_getr X ft_X5 hB a_b1 sh_5 0 (by decide) rfl k_fl_X11_93 dX11_octaves_37 (fun b15 g_b15 r_b15 e_b15 a_b15 => ?_)
            refine lv_iload_n hx hb dX11_octaves_40 rfl (lv_at hl 0 rfl) ?_
            refine iv_aald X hB a_b15 sh_40 (iv_in i10_x8 (by decide)) dX11_octaves_41 (fun b16 g_b16 r_b16 e_b16 a_b16 => ?_)
            refine iv_geti X ft_X1 hB a_b16 sh_1 6 (by decide) rfl k_fl_X11_131 dX11_octaves_42 (fun x17 e_x17 i_x17 => ?_)
            refine lv_iconst (v := 2) hx hb dX11_octaves_45 (by decide) ?_
            refine lv_icmp_eq (tgt := 67) hx hb dX11_octaves_46 (by decide) (fun c18 => ?_) (fun c18 => ?_)
            · skip
              have i18_x17 : iv_R 2 2 x17 := ((i_x17.cutLo (n := 2) (iv_eq_r c18 q_2).1).cutHi (n := 2) (iv_eq_r c18 q_2).2)
              refine iv_iinc hx hb i10_x8 (lo := 1) (hi := 10) (by decide) dX11_octaves_67 hl (k := 0) rfl (by decide) (fun x20 ls e_x20 i_x20 hl => ?_)
              have hl : lv_has ls 4 [(3, .int x20), (2, .int x7), (0, .ref h0), (1, .int x_0)] := hl
              refine lv_goto (tgt := 17) hx hb dX11_octaves_70 (by decide) ?_
              exact ih_17 _ _ hB x7 i_x7 x20 (i_x20.wk (by decide)) (iv_mup (c := 1) i_x8 (by decide) (by decide) (by omega) hn) _ (lv_sub hl [0, 1, 2, 3] rfl)
            · skip
              refine lv_aload_n hx hb dX11_octaves_49 rfl (lv_at hl 2 rfl) ?_
              refine iv_getr0 X ft_X11 hB a_h0 sh_11 0 (by decide) rfl k_fl_X11_12 dX11_octaves_50 e_b1 ?_
              refine lv_iload_n hx hb dX11_octaves_53 rfl (lv_at hl 3 rfl) ?_
              refine lv_iload_n hx hb dX11_octaves_54 rfl (lv_at hl 0 rfl) ?_
              refine iv_cVi X k_good k_mf_X5_areOctaves k_im_X5_areOctaves k_sel_X5_areOctaves k_ml_X11_328 ft_X5 hB a_b1 sh_5 (As := [.int x_0, .int x8]) (c_X5_areOctaves l D tys base G b1 g_b1 r_b1 a_b1 x_0 i5_x_0 x8 i10_x8) ⟨rfl, rfl⟩ ⟨Nat.le_of_ble_eq_true rfl, Nat.le_of_ble_eq_true rfl⟩ ⟨Nat.le_of_ble_eq_true rfl, Nat.le_of_ble_eq_true rfl⟩ rfl rfl hl.1 (Nat.le_of_ble_eq_true rfl) dX11_octaves_55 (fun x21 G9 H locs hq hB => ?_)
              obtain ⟨rfl, i_x21⟩ := hq
              refine lv_if_eq (tgt := 67) hx hb dX11_octaves_58 (by decide) (fun c22 => ?_) (fun c22 => ?_)
              · skip
                have i22_x21 : iv_R 0 0 x21 := (i_x21.cutHi (n := 0) (iv_eq_r c22 q_0).2)
                refine iv_iinc hx hb i10_x8 (lo := 1) (hi := 10) (by decide) dX11_octaves_67 hl (k := 0) rfl (by decide) (fun x24 ls e_x24 i_x24 hl => ?_)
                have hl : lv_has ls 4 [(3, .int x24), (2, .int x7), (0, .ref h0), (1, .int x_0)] := hl
                refine lv_goto (tgt := 17) hx hb dX11_octaves_70 (by decide) ?_
                exact ih_17 _ _ hB x7 i_x7 x24 (i_x24.wk (by decide)) (iv_mup (c := 1) i_x8 (by decide) (by decide) (by omega) hn) _ (lv_sub hl [0, 1, 2, 3] rfl)
              · skip
                have i24_x21 : iv_R 1 1 x21 := iv_ne_lo c22 i_x21 q_0 (by decide)
                refine lv_iload_n hx hb dX11_octaves_61 rfl (lv_at hl 1 rfl) ?_
                refine lv_iconst (v := 1) hx hb dX11_octaves_62 (by decide) ?_
                refine lv_iload_n hx hb dX11_octaves_63 rfl (lv_at hl 0 rfl) ?_
                refine lv_ishl hx hb dX11_octaves_64 ?_
                refine lv_topi (fun x26 e_x26 => ?_)
                have i_x26 := iv_R.all x26
                refine lv_ior hx hb dX11_octaves_65 ?_
                refine lv_topi (fun x27 e_x27 => ?_)
                have i_x27 := iv_R.all x27
                refine lv_istore_n (lv' := [(2, .int x27), (3, .int x8), (0, .ref h0), (1, .int x_0)]) hx hb dX11_octaves_66 rfl hl (by decide) rfl (fun ls hl => ?_)
                refine iv_iinc hx hb i10_x8 (lo := 1) (hi := 10) (by decide) dX11_octaves_67 hl (k := 1) rfl (by decide) (fun x28 ls e_x28 i_x28 hl => ?_)
                have hl : lv_has ls 4 [(3, .int x28), (2, .int x27), (0, .ref h0), (1, .int x_0)] := hl
                refine lv_goto (tgt := 17) hx hb dX11_octaves_70 (by decide) ?_
                exact ih_17 _ _ hB x27 i_x27 x28 (i_x28.wk (by decide)) (iv_mup (c := 1) i_x8 (by decide) (by decide) (by omega) hn) _ (lv_sub hl [0, 1, 2, 3] rfl)
    exact L_17 _ _ _ hB 0 (q_0.wk (by decide)) 0 (q_0.wk (by decide)) (Nat.lt_succ_self _) _ (lv_sub hl [0, 1, 2, 3] rfl)
  · skip
    have i28_x2 : iv_R 0 0 x2 := (i_x2.cutHi (n := 0) (iv_eq_r c4 q_0).2)
    refine lv_iconst (v := (-1)) hx hb dX11_octaves_11 (by decide) ?_
    exact iv_iret X hr hlocks hB ⟨rfl, (q_n1.wk (by decide))⟩ dX11_octaves_12
theorem dX5_isSetOfBells_0 : decode cX5_isSetOfBells 0 = .ok (.iload_n 1, 1) := by decide +kernel
theorem dX5_isSetOfBells_1 : decode cX5_isSetOfBells 1 = .ok (.aload_n 0, 1) := by decide +kernel
theorem dX5_isSetOfBells_2 : decode cX5_isSetOfBells 2 = .ok (.getfield 61, 3) := by decide +kernel
theorem dX5_isSetOfBells_5 : decode cX5_isSetOfBells 5 = .ok (.iushr, 1) := by decide +kernel
theorem dX5_isSetOfBells_6 : decode cX5_isSetOfBells 6 = .ok (.ifCond .ne 7, 3) := by decide +kernel
theorem dX5_isSetOfBells_9 : decode cX5_isSetOfBells 9 = .ok (.iconst 1, 1) := by decide +kernel
theorem dX5_isSetOfBells_10 : decode cX5_isSetOfBells 10 = .ok (.goto 4, 3) := by decide +kernel
theorem dX5_isSetOfBells_13 : decode cX5_isSetOfBells 13 = .ok (.iconst 0, 1) := by decide +kernel
theorem dX5_isSetOfBells_14 : decode cX5_isSetOfBells 14 = .ok (.ireturn, 1) := by decide +kernel
set_option maxHeartbeats 4000000 in
set_option maxRecDepth 100000 in
theorem c_X5_isSetOfBells (l : Launch) (D : va_G) (tys : List (ClassId × FieldType)) (base : Nat) (G : iv_G) (h0 : Nat) (g_h0 : Nat → Int32) (r_h0 : Nat → Nat) (a_h0 : G h0 = some (5, g_h0, r_h0)) (x_0 : Int32) (i_x_0 : iv_R (-2147483648) 2147483647 x_0) : Met l yX5_isSetOfBells (Cond.code yX5_isSetOfBells cX5_isSetOfBells 2 (some .boolean) :: iv_W0) ({ frames := 0, cells := 0, slots := 0, locals := 0 }) (iv_Pc iv_sh D classes tys base G [.ref h0, .int x_0]) (iv_Qi iv_sh D classes tys base (fun v G' => G = G' ∧ iv_R 0 1 v)) 0 0 (iv_A base) := by
  refine iv_head (by decide) (Nat.le_of_ble_eq_true rfl) ?_
  intro p e s m args below meth c ls X hr hlocks hname hB hl
  have X := X
  have hx := X.1.1
  have hb := X.1.2.1
  have hl : lv_has ls 2 [(0, .ref h0), (1, .int x_0)] := hl
  refine lv_iload_n hx hb dX5_isSetOfBells_0 rfl (lv_at hl 1 rfl) ?_
  refine lv_aload_n hx hb dX5_isSetOfBells_1 rfl (lv_at hl 0 rfl) ?_
  refine iv_geti X ft_X5 hB a_h0 sh_5 1 (by decide) rfl k_fl_X5_61 dX5_isSetOfBells_2 (fun x1 e_x1 i_x1 => ?_)
  refine lv_iushr hx hb dX5_isSetOfBells_5 rfl ?_
  refine lv_topi (fun x2 e_x2 => ?_)
  have i_x2 := iv_R.all x2
  refine lv_if_ne (tgt := 13) hx hb dX5_isSetOfBells_6 (by decide) (fun c3 => ?_) (fun c3 => ?_)
  · skip
    refine lv_iconst (v := 0) hx hb dX5_isSetOfBells_13 (by decide) ?_
    exact iv_zret X hr hlocks hB (q_0.wk (by decide)) ⟨rfl, (q_0.wk (by decide))⟩ dX5_isSetOfBells_14
  · skip
    have i3_x2 : iv_R 0 0 x2 := ((i_x2.cutLo (n := 0) (iv_eq_r c3 q_0).1).cutHi (n := 0) (iv_eq_r c3 q_0).2)
    refine lv_iconst (v := 1) hx hb dX5_isSetOfBells_9 (by decide) ?_
    refine lv_goto (tgt := 14) hx hb dX5_isSetOfBells_10 (by decide) ?_
    exact iv_zret X hr hlocks hB (q_1.wk (by decide)) ⟨rfl, (q_1.wk (by decide))⟩ dX5_isSetOfBells_14
theorem dX9_isFreeAt_0 : decode cX9_isFreeAt 0 = .ok (.iload_n 2, 1) := by decide +kernel
theorem dX9_isFreeAt_1 : decode cX9_isFreeAt 1 = .ok (.bipush 47, 2) := by decide +kernel
theorem dX9_isFreeAt_3 : decode cX9_isFreeAt 3 = .ok (.if_icmp .le 5, 3) := by decide +kernel
theorem dX9_isFreeAt_6 : decode cX9_isFreeAt 6 = .ok (.iconst 0, 1) := by decide +kernel
theorem dX9_isFreeAt_7 : decode cX9_isFreeAt 7 = .ok (.ireturn, 1) := by decide +kernel
theorem dX9_isFreeAt_8 : decode cX9_isFreeAt 8 = .ok (.iconst 0, 1) := by decide +kernel
theorem dX9_isFreeAt_9 : decode cX9_isFreeAt 9 = .ok (.istore_n 3, 1) := by decide +kernel
theorem dX9_isFreeAt_10 : decode cX9_isFreeAt 10 = .ok (.iload_n 3, 1) := by decide +kernel
theorem dX9_isFreeAt_11 : decode cX9_isFreeAt 11 = .ok (.aload_n 0, 1) := by decide +kernel
theorem dX9_isFreeAt_12 : decode cX9_isFreeAt 12 = .ok (.getfield 15, 3) := by decide +kernel
theorem dX9_isFreeAt_15 : decode cX9_isFreeAt 15 = .ok (.getfield 19, 3) := by decide +kernel
theorem dX9_isFreeAt_18 : decode cX9_isFreeAt 18 = .ok (.if_icmp .ge 74, 3) := by decide +kernel
theorem dX9_isFreeAt_21 : decode cX9_isFreeAt 21 = .ok (.iload_n 1, 1) := by decide +kernel
theorem dX9_isFreeAt_22 : decode cX9_isFreeAt 22 = .ok (.iload_n 3, 1) := by decide +kernel
theorem dX9_isFreeAt_23 : decode cX9_isFreeAt 23 = .ok (.iushr, 1) := by decide +kernel
theorem dX9_isFreeAt_24 : decode cX9_isFreeAt 24 = .ok (.iconst 1, 1) := by decide +kernel
theorem dX9_isFreeAt_25 : decode cX9_isFreeAt 25 = .ok (.iand, 1) := by decide +kernel
theorem dX9_isFreeAt_26 : decode cX9_isFreeAt 26 = .ok (.ifCond .ne 23, 3) := by decide +kernel
theorem dX9_isFreeAt_29 : decode cX9_isFreeAt 29 = .ok (.aload_n 0, 1) := by decide +kernel
theorem dX9_isFreeAt_30 : decode cX9_isFreeAt 30 = .ok (.getfield 15, 3) := by decide +kernel
theorem dX9_isFreeAt_33 : decode cX9_isFreeAt 33 = .ok (.getfield 45, 3) := by decide +kernel
theorem dX9_isFreeAt_36 : decode cX9_isFreeAt 36 = .ok (.iload_n 3, 1) := by decide +kernel
theorem dX9_isFreeAt_37 : decode cX9_isFreeAt 37 = .ok (.aaload, 1) := by decide +kernel
theorem dX9_isFreeAt_38 : decode cX9_isFreeAt 38 = .ok (.getfield 49, 3) := by decide +kernel
theorem dX9_isFreeAt_41 : decode cX9_isFreeAt 41 = .ok (.iconst 2, 1) := by decide +kernel
theorem dX9_isFreeAt_42 : decode cX9_isFreeAt 42 = .ok (.if_icmp .eq 7, 3) := by decide +kernel
theorem dX9_isFreeAt_45 : decode cX9_isFreeAt 45 = .ok (.iconst 1, 1) := by decide +kernel
theorem dX9_isFreeAt_46 : decode cX9_isFreeAt 46 = .ok (.goto 4, 3) := by decide +kernel
theorem dX9_isFreeAt_49 : decode cX9_isFreeAt 49 = .ok (.iconst 0, 1) := by decide +kernel
theorem dX9_isFreeAt_50 : decode cX9_isFreeAt 50 = .ok (.istore 4, 2) := by decide +kernel
theorem dX9_isFreeAt_52 : decode cX9_isFreeAt 52 = .ok (.iload 4, 2) := by decide +kernel
theorem dX9_isFreeAt_54 : decode cX9_isFreeAt 54 = .ok (.ifCond .eq 32, 3) := by decide +kernel
theorem dX9_isFreeAt_57 : decode cX9_isFreeAt 57 = .ok (.aload_n 0, 1) := by decide +kernel
theorem dX9_isFreeAt_58 : decode cX9_isFreeAt 58 = .ok (.getfield 15, 3) := by decide +kernel
theorem dX9_isFreeAt_61 : decode cX9_isFreeAt 61 = .ok (.getfield 45, 3) := by decide +kernel
theorem dX9_isFreeAt_64 : decode cX9_isFreeAt 64 = .ok (.iload_n 3, 1) := by decide +kernel
theorem dX9_isFreeAt_65 : decode cX9_isFreeAt 65 = .ok (.aaload, 1) := by decide +kernel
theorem dX9_isFreeAt_66 : decode cX9_isFreeAt 66 = .ok (.getfield 63, 3) := by decide +kernel
theorem dX9_isFreeAt_69 : decode cX9_isFreeAt 69 = .ok (.iload_n 2, 1) := by decide +kernel
theorem dX9_isFreeAt_70 : decode cX9_isFreeAt 70 = .ok (.isub, 1) := by decide +kernel
theorem dX9_isFreeAt_71 : decode cX9_isFreeAt 71 = .ok (.invokestatic 69, 3) := by decide +kernel
theorem dX9_isFreeAt_74 : decode cX9_isFreeAt 74 = .ok (.aload_n 0, 1) := by decide +kernel
theorem dX9_isFreeAt_75 : decode cX9_isFreeAt 75 = .ok (.getfield 15, 3) := by decide +kernel
theorem dX9_isFreeAt_78 : decode cX9_isFreeAt 78 = .ok (.getfield 74, 3) := by decide +kernel
theorem dX9_isFreeAt_81 : decode cX9_isFreeAt 81 = .ok (.if_icmp .ge 5, 3) := by decide +kernel
theorem dX9_isFreeAt_84 : decode cX9_isFreeAt 84 = .ok (.iconst 0, 1) := by decide +kernel
theorem dX9_isFreeAt_85 : decode cX9_isFreeAt 85 = .ok (.ireturn, 1) := by decide +kernel
theorem dX9_isFreeAt_86 : decode cX9_isFreeAt 86 = .ok (.iinc 3 1, 3) := by decide +kernel
theorem dX9_isFreeAt_89 : decode cX9_isFreeAt 89 = .ok (.goto (-79), 3) := by decide +kernel
theorem dX9_isFreeAt_92 : decode cX9_isFreeAt 92 = .ok (.iconst 1, 1) := by decide +kernel
theorem dX9_isFreeAt_93 : decode cX9_isFreeAt 93 = .ok (.ireturn, 1) := by decide +kernel
set_option maxHeartbeats 4000000 in
set_option maxRecDepth 100000 in
theorem c_X9_isFreeAt (l : Launch) (D : va_G) (tys : List (ClassId × FieldType)) (base : Nat) (G : iv_G) (h0 : Nat) (g_h0 : Nat → Int32) (r_h0 : Nat → Nat) (a_h0 : G h0 = some (9, g_h0, r_h0)) (x_0 : Int32) (i_x_0 : iv_R (-2147483648) 2147483647 x_0) (x_1 : Int32) (i_x_1 : iv_R (-2147483648) 2147483647 x_1) : Met l yX9_isFreeAt (Cond.code yX9_isFreeAt cX9_isFreeAt 5 (some .boolean) :: iv_W0) ({ frames := 1, cells := 0, slots := 0, locals := 13 }) (iv_Pc iv_sh D classes tys base G [.ref h0, .int x_0, .int x_1]) (iv_Qi iv_sh D classes tys base (fun v G' => G = G' ∧ iv_R 0 1 v ∧ (¬ v = 0 → iv_R (-2147483648) 47 x_1))) 0 0 (iv_A base) := by
  refine iv_head (by decide) (Nat.le_of_ble_eq_true rfl) ?_
  intro p e s m args below meth c ls X hr hlocks hname hB hl
  have X := X
  have hx := X.1.1
  have hb := X.1.2.1
  have hl : lv_has ls 5 [(0, .ref h0), (1, .int x_0), (2, .int x_1)] := hl
  refine lv_iload_n hx hb dX9_isFreeAt_0 rfl (lv_at hl 2 rfl) ?_
  refine lv_bipush (v := 47) hx hb dX9_isFreeAt_1 (by decide) ?_
  refine lv_icmp_le (tgt := 8) hx hb dX9_isFreeAt_3 (by decide) (fun c1 => ?_) (fun c1 => ?_)
  · skip
    have i1_x_1 : iv_R (-2147483648) 47 x_1 := (i_x_1.cutHi (n := 47) (iv_le_r c1 q_47))
    refine lv_iconst (v := 0) hx hb dX9_isFreeAt_8 (by decide) ?_
    refine lv_istore_n (lv' := [(3, .int 0), (0, .ref h0), (1, .int x_0), (2, .int x_1)]) hx hb dX9_isFreeAt_9 rfl hl (by decide) rfl (fun ls hl => ?_)
    have L_10 : ∀ (n_10 : Nat) (H : Heap) (locs : List Loc) (hB : iv_B iv_sh D classes tys base G s.heap H locs) (x3 : Int32) (i_x3 : iv_R 0 10 x3) (hn : (11 - x3.toInt).toNat < n_10) (ls : Array Slot) (hl : lv_has ls 5 [(3, .int x3), (0, .ref h0), (1, .int x_0), (2, .int x_1)]), W p l e ({ frames := 1, cells := 0, slots := 0, locals := 13 } : Room) s m args below meth c H locs 0 0 (MQ below (iv_Qi iv_sh D classes tys base (fun v G' => G = G' ∧ iv_R 0 1 v ∧ (¬ v = 0 → iv_R (-2147483648) 47 x_1))) args s 0 0 (iv_A base)) (F0 m 10 ls []) := by
      intro n_10
      induction n_10 with
      | zero => intro H locs hB x3 i_x3 hn ls hl; exact absurd hn (Nat.not_lt_zero _)
      | succ n_10 ih_10 =>
        intro H locs hB x3 i_x3 hn ls hl
        refine lv_iload_n hx hb dX9_isFreeAt_10 rfl (lv_at hl 0 rfl) ?_
        refine lv_aload_n hx hb dX9_isFreeAt_11 rfl (lv_at hl 1 rfl) ?_
        refine iv_getr X ft_X9 hB a_h0 sh_9 0 (by decide) rfl k_fl_X9_15 dX9_isFreeAt_12 (fun b4 g_b4 r_b4 e_b4 a_b4 => ?_)
        refine iv_geti X ft_X5 hB a_b4 sh_5 1 (by decide) rfl k_fl_X9_19 dX9_isFreeAt_15 (fun x5 e_x5 i_x5 => ?_)
        refine lv_icmp_ge (tgt := 92) hx hb dX9_isFreeAt_18 (by decide) (fun c6 => ?_) (fun c6 => ?_)
        · skip
          refine lv_iconst (v := 1) hx hb dX9_isFreeAt_92 (by decide) ?_
          exact iv_zret X hr hlocks hB (q_1.wk (by decide)) ⟨rfl, (q_1.wk (by decide)), fun _ => i1_x_1⟩ dX9_isFreeAt_93
        · skip
          have i6_x3 : iv_R 0 9 x3 := (i_x3.cutHi (n := 9) (iv_lt_r (iv_nle c6) i_x5 (by decide)))
          have i7_x5 : iv_R 1 10 x5 := (i_x5.cutLo (n := 1) (iv_lt_l (iv_nle c6) i_x3 (by decide)))
          refine lv_iload_n hx hb dX9_isFreeAt_21 rfl (lv_at hl 2 rfl) ?_
          refine lv_iload_n hx hb dX9_isFreeAt_22 rfl (lv_at hl 0 rfl) ?_
          refine lv_iushr hx hb dX9_isFreeAt_23 rfl ?_
          refine lv_topi (fun x9 e_x9 => ?_)
          have i_x9 := iv_R.all x9
          refine lv_iconst (v := 1) hx hb dX9_isFreeAt_24 (by decide) ?_
          refine iv_iand_r hx hb q_1 (by decide) dX9_isFreeAt_25 (fun x10 e_x10 i_x10 => ?_)
          refine lv_if_ne (tgt := 49) hx hb dX9_isFreeAt_26 (by decide) (fun c11 => ?_) (fun c11 => ?_)
          · skip
            have i11_x10 : iv_R 1 1 x10 := iv_ne_lo c11 i_x10 q_0 (by decide)
            refine lv_iconst (v := 0) hx hb dX9_isFreeAt_49 (by decide) ?_
            refine lv_istore (lv' := [(4, .int 0), (3, .int x3), (0, .ref h0), (1, .int x_0), (2, .int x_1)]) hx hb dX9_isFreeAt_50 hl (by decide) rfl (fun ls hl => ?_)
            refine lv_iload hx hb dX9_isFreeAt_52 (lv_at hl 0 rfl) ?_
            refine lv_if_eq (tgt := 86) hx hb dX9_isFreeAt_54 (by decide) (fun c13 => ?_) (fun c13 => ?_)
            · skip
              refine iv_iinc hx hb i6_x3 (lo := 1) (hi := 10) (by decide) dX9_isFreeAt_86 hl (k := 1) rfl (by decide) (fun x14 ls e_x14 i_x14 hl => ?_)
              have hl : lv_has ls 5 [(3, .int x14), (4, .int 0), (0, .ref h0), (1, .int x_0), (2, .int x_1)] := hl
              refine lv_goto (tgt := 10) hx hb dX9_isFreeAt_89 (by decide) ?_
              exact ih_10 _ _ hB x14 (i_x14.wk (by decide)) (iv_mup (c := 1) i_x3 (by decide) (by decide) (by omega) hn) _ (lv_sub hl [0, 2, 3, 4] rfl)
            · skip
              exact absurd rfl c13
          · skip
            have i14_x10 : iv_R 0 0 x10 := (i_x10.cutHi (n := 0) (iv_eq_r c11 q_0).2)
            refine lv_aload_n hx hb dX9_isFreeAt_29 rfl (lv_at hl 1 rfl) ?_
            refine iv_getr0 X ft_X9 hB a_h0 sh_9 0 (by decide) rfl k_fl_X9_15 dX9_isFreeAt_30 e_b4 ?_
            refine iv_getr X ft_X5 hB a_b4 sh_5 0 (by decide) rfl k_fl_X9_45 dX9_isFreeAt_33 (fun b16 g_b16 r_b16 e_b16 a_b16 => ?_)
            refine lv_iload_n hx hb dX9_isFreeAt_36 rfl (lv_at hl 0 rfl) ?_
            refine iv_aald X hB a_b16 sh_40 (iv_in i6_x3 (by decide)) dX9_isFreeAt_37 (fun b17 g_b17 r_b17 e_b17 a_b17 => ?_)
            refine iv_geti X ft_X1 hB a_b17 sh_1 6 (by decide) rfl k_fl_X9_49 dX9_isFreeAt_38 (fun x18 e_x18 i_x18 => ?_)
            refine lv_iconst (v := 2) hx hb dX9_isFreeAt_41 (by decide) ?_
            refine lv_icmp_eq (tgt := 49) hx hb dX9_isFreeAt_42 (by decide) (fun c19 => ?_) (fun c19 => ?_)
            · skip
              have i19_x18 : iv_R 2 2 x18 := ((i_x18.cutLo (n := 2) (iv_eq_r c19 q_2).1).cutHi (n := 2) (iv_eq_r c19 q_2).2)
              refine lv_iconst (v := 0) hx hb dX9_isFreeAt_49 (by decide) ?_
              refine lv_istore (lv' := [(4, .int 0), (3, .int x3), (0, .ref h0), (1, .int x_0), (2, .int x_1)]) hx hb dX9_isFreeAt_50 hl (by decide) rfl (fun ls hl => ?_)
              refine lv_iload hx hb dX9_isFreeAt_52 (lv_at hl 0 rfl) ?_
              refine lv_if_eq (tgt := 86) hx hb dX9_isFreeAt_54 (by decide) (fun c21 => ?_) (fun c21 => ?_)
              · skip
                refine iv_iinc hx hb i6_x3 (lo := 1) (hi := 10) (by decide) dX9_isFreeAt_86 hl (k := 1) rfl (by decide) (fun x22 ls e_x22 i_x22 hl => ?_)
                have hl : lv_has ls 5 [(3, .int x22), (4, .int 0), (0, .ref h0), (1, .int x_0), (2, .int x_1)] := hl
                refine lv_goto (tgt := 10) hx hb dX9_isFreeAt_89 (by decide) ?_
                exact ih_10 _ _ hB x22 (i_x22.wk (by decide)) (iv_mup (c := 1) i_x3 (by decide) (by decide) (by omega) hn) _ (lv_sub hl [0, 2, 3, 4] rfl)
              · skip
                exact absurd rfl c21
            · skip
              refine lv_iconst (v := 1) hx hb dX9_isFreeAt_45 (by decide) ?_
              refine lv_goto (tgt := 50) hx hb dX9_isFreeAt_46 (by decide) ?_
              refine lv_istore (lv' := [(4, .int 1), (3, .int x3), (0, .ref h0), (1, .int x_0), (2, .int x_1)]) hx hb dX9_isFreeAt_50 hl (by decide) rfl (fun ls hl => ?_)
              refine lv_iload hx hb dX9_isFreeAt_52 (lv_at hl 0 rfl) ?_
              refine lv_if_eq (tgt := 86) hx hb dX9_isFreeAt_54 (by decide) (fun c23 => ?_) (fun c23 => ?_)
              · skip
                exact (q_1.cutHi (n := 0) (iv_eq_r c23 q_0).2).no (by decide)
              · skip
                refine lv_aload_n hx hb dX9_isFreeAt_57 rfl (lv_at hl 2 rfl) ?_
                refine iv_getr0 X ft_X9 hB a_h0 sh_9 0 (by decide) rfl k_fl_X9_15 dX9_isFreeAt_58 e_b4 ?_
                refine iv_getr0 X ft_X5 hB a_b4 sh_5 0 (by decide) rfl k_fl_X9_45 dX9_isFreeAt_61 e_b16 ?_
                refine lv_iload_n hx hb dX9_isFreeAt_64 rfl (lv_at hl 1 rfl) ?_
                refine iv_aald X hB a_b16 sh_40 (iv_in i6_x3 (by decide)) dX9_isFreeAt_65 (fun b24 g_b24 r_b24 e_b24 a_b24 => ?_)
                refine iv_geti X ft_X1 hB a_b24 sh_1 1 (by decide) rfl k_fl_X9_63 dX9_isFreeAt_66 (fun x25 e_x25 i_x25 => ?_)
                refine lv_iload_n hx hb dX9_isFreeAt_69 rfl (lv_at hl 4 rfl) ?_
                refine lv_isub hx hb dX9_isFreeAt_70 ?_
                refine lv_topi (fun x26 e_x26 => ?_)
                have i_x26 := iv_R.all x26
                refine iv_mabs X hl.1 k_mm_X9_69 ⟨Nat.le_of_ble_eq_true rfl, Nat.le_of_ble_eq_true rfl⟩ ⟨Nat.le_of_ble_eq_true rfl, Nat.le_of_ble_eq_true rfl⟩ dX9_isFreeAt_71 (fun x27 e_x27 i_x27 => ?_)
                refine lv_aload_n hx hb dX9_isFreeAt_74 rfl (lv_at hl 2 rfl) ?_
                refine iv_getr0 X ft_X9 hB a_h0 sh_9 0 (by decide) rfl k_fl_X9_15 dX9_isFreeAt_75 e_b4 ?_
                refine iv_geti X ft_X5 hB a_b4 sh_5 3 (by decide) rfl k_fl_X9_74 dX9_isFreeAt_78 (fun x28 e_x28 i_x28 => ?_)
                refine lv_icmp_ge (tgt := 86) hx hb dX9_isFreeAt_81 (by decide) (fun c29 => ?_) (fun c29 => ?_)
                · skip
                  refine iv_iinc hx hb i6_x3 (lo := 1) (hi := 10) (by decide) dX9_isFreeAt_86 hl (k := 1) rfl (by decide) (fun x30 ls e_x30 i_x30 hl => ?_)
                  have hl : lv_has ls 5 [(3, .int x30), (4, .int 1), (0, .ref h0), (1, .int x_0), (2, .int x_1)] := hl
                  refine lv_goto (tgt := 10) hx hb dX9_isFreeAt_89 (by decide) ?_
                  exact ih_10 _ _ hB x30 (i_x30.wk (by decide)) (iv_mup (c := 1) i_x3 (by decide) (by decide) (by omega) hn) _ (lv_sub hl [0, 2, 3, 4] rfl)
                · skip
                  have i30_x27 : iv_R (-2147483648) 2147483646 x27 := (i_x27.cutHi (n := 2147483646) (iv_lt_r (iv_nle c29) i_x28 (by decide)))
                  have i31_x28 : iv_R (-2147483647) 2147483647 x28 := (i_x28.cutLo (n := (-2147483647)) (iv_lt_l (iv_nle c29) i_x27 (by decide)))
                  refine lv_iconst (v := 0) hx hb dX9_isFreeAt_84 (by decide) ?_
                  exact iv_zret X hr hlocks hB (q_0.wk (by decide)) ⟨rfl, (q_0.wk (by decide)), fun _ => i1_x_1⟩ dX9_isFreeAt_85
    exact L_10 _ _ _ hB 0 (q_0.wk (by decide)) (Nat.lt_succ_self _) _ (lv_sub hl [0, 1, 2, 3] rfl)
  · skip
    have i32_x_1 : iv_R 48 2147483647 x_1 := (i_x_1.cutLo (n := 48) (iv_lt_l (iv_nle c1) q_47 (by decide)))
    refine lv_iconst (v := 0) hx hb dX9_isFreeAt_6 (by decide) ?_
    exact iv_zret X hr hlocks hB (q_0.wk (by decide)) ⟨rfl, (q_0.wk (by decide)), fun h => absurd (iv_z q_0) h⟩ dX9_isFreeAt_7
theorem dX9_canRaise_0 : decode cX9_canRaise 0 = .ok (.iconst 0, 1) := by decide +kernel
theorem dX9_canRaise_1 : decode cX9_canRaise 1 = .ok (.istore_n 3, 1) := by decide +kernel
theorem dX9_canRaise_2 : decode cX9_canRaise 2 = .ok (.iload_n 3, 1) := by decide +kernel
theorem dX9_canRaise_3 : decode cX9_canRaise 3 = .ok (.aload_n 0, 1) := by decide +kernel
theorem dX9_canRaise_4 : decode cX9_canRaise 4 = .ok (.getfield 15, 3) := by decide +kernel
theorem dX9_canRaise_7 : decode cX9_canRaise 7 = .ok (.getfield 19, 3) := by decide +kernel
theorem dX9_canRaise_10 : decode cX9_canRaise 10 = .ok (.if_icmp .ge 42, 3) := by decide +kernel
theorem dX9_canRaise_13 : decode cX9_canRaise 13 = .ok (.iload_n 1, 1) := by decide +kernel
theorem dX9_canRaise_14 : decode cX9_canRaise 14 = .ok (.iload_n 3, 1) := by decide +kernel
theorem dX9_canRaise_15 : decode cX9_canRaise 15 = .ok (.iushr, 1) := by decide +kernel
theorem dX9_canRaise_16 : decode cX9_canRaise 16 = .ok (.iconst 1, 1) := by decide +kernel
theorem dX9_canRaise_17 : decode cX9_canRaise 17 = .ok (.iand, 1) := by decide +kernel
theorem dX9_canRaise_18 : decode cX9_canRaise 18 = .ok (.iconst 1, 1) := by decide +kernel
theorem dX9_canRaise_19 : decode cX9_canRaise 19 = .ok (.if_icmp .ne 27, 3) := by decide +kernel
theorem dX9_canRaise_22 : decode cX9_canRaise 22 = .ok (.aload_n 0, 1) := by decide +kernel
theorem dX9_canRaise_23 : decode cX9_canRaise 23 = .ok (.iload_n 1, 1) := by decide +kernel
theorem dX9_canRaise_24 : decode cX9_canRaise 24 = .ok (.aload_n 0, 1) := by decide +kernel
theorem dX9_canRaise_25 : decode cX9_canRaise 25 = .ok (.getfield 15, 3) := by decide +kernel
theorem dX9_canRaise_28 : decode cX9_canRaise 28 = .ok (.getfield 45, 3) := by decide +kernel
theorem dX9_canRaise_31 : decode cX9_canRaise 31 = .ok (.iload_n 3, 1) := by decide +kernel
theorem dX9_canRaise_32 : decode cX9_canRaise 32 = .ok (.aaload, 1) := by decide +kernel
theorem dX9_canRaise_33 : decode cX9_canRaise 33 = .ok (.getfield 63, 3) := by decide +kernel
theorem dX9_canRaise_36 : decode cX9_canRaise 36 = .ok (.iload_n 2, 1) := by decide +kernel
theorem dX9_canRaise_37 : decode cX9_canRaise 37 = .ok (.iadd, 1) := by decide +kernel
theorem dX9_canRaise_38 : decode cX9_canRaise 38 = .ok (.invokevirtual 66, 3) := by decide +kernel
theorem dX9_canRaise_41 : decode cX9_canRaise 41 = .ok (.ifCond .ne 5, 3) := by decide +kernel
theorem dX9_canRaise_44 : decode cX9_canRaise 44 = .ok (.iconst 0, 1) := by decide +kernel
theorem dX9_canRaise_45 : decode cX9_canRaise 45 = .ok (.ireturn, 1) := by decide +kernel
theorem dX9_canRaise_46 : decode cX9_canRaise 46 = .ok (.iinc 3 1, 3) := by decide +kernel
theorem dX9_canRaise_49 : decode cX9_canRaise 49 = .ok (.goto (-47), 3) := by decide +kernel
theorem dX9_canRaise_52 : decode cX9_canRaise 52 = .ok (.iconst 1, 1) := by decide +kernel
theorem dX9_canRaise_53 : decode cX9_canRaise 53 = .ok (.ireturn, 1) := by decide +kernel
set_option maxHeartbeats 4000000 in
set_option maxRecDepth 100000 in
theorem c_X9_canRaise (l : Launch) (D : va_G) (tys : List (ClassId × FieldType)) (base : Nat) (G : iv_G) (h0 : Nat) (g_h0 : Nat → Int32) (r_h0 : Nat → Nat) (a_h0 : G h0 = some (9, g_h0, r_h0)) (x_0 : Int32) (i_x_0 : iv_R (-2147483648) 2147483647 x_0) (x_1 : Int32) (i_x_1 : iv_R 0 47 x_1) : Met l yX9_canRaise (Cond.code yX9_canRaise cX9_canRaise 4 (some .boolean) :: iv_W0) ({ frames := 2, cells := 0, slots := 0, locals := 37 }) (iv_Pc iv_sh D classes tys base G [.ref h0, .int x_0, .int x_1]) (iv_Qi iv_sh D classes tys base (fun v G' => G = G' ∧ iv_R 0 1 v)) 0 0 (iv_A base) := by
  refine iv_head (by decide) (Nat.le_of_ble_eq_true rfl) ?_
  intro p e s m args below meth c ls X hr hlocks hname hB hl
  have X := X
  have hx := X.1.1
  have hb := X.1.2.1
  have hl : lv_has ls 4 [(0, .ref h0), (1, .int x_0), (2, .int x_1)] := hl
  refine lv_iconst (v := 0) hx hb dX9_canRaise_0 (by decide) ?_
  refine lv_istore_n (lv' := [(3, .int 0), (0, .ref h0), (1, .int x_0), (2, .int x_1)]) hx hb dX9_canRaise_1 rfl hl (by decide) rfl (fun ls hl => ?_)
  have L_2 : ∀ (n_2 : Nat) (H : Heap) (locs : List Loc) (hB : iv_B iv_sh D classes tys base G s.heap H locs) (x1 : Int32) (i_x1 : iv_R 0 10 x1) (hn : (11 - x1.toInt).toNat < n_2) (ls : Array Slot) (hl : lv_has ls 4 [(3, .int x1), (0, .ref h0), (1, .int x_0), (2, .int x_1)]), W p l e ({ frames := 2, cells := 0, slots := 0, locals := 37 } : Room) s m args below meth c H locs 0 0 (MQ below (iv_Qi iv_sh D classes tys base (fun v G' => G = G' ∧ iv_R 0 1 v)) args s 0 0 (iv_A base)) (F0 m 2 ls []) := by
    intro n_2
    induction n_2 with
    | zero => intro H locs hB x1 i_x1 hn ls hl; exact absurd hn (Nat.not_lt_zero _)
    | succ n_2 ih_2 =>
      intro H locs hB x1 i_x1 hn ls hl
      refine lv_iload_n hx hb dX9_canRaise_2 rfl (lv_at hl 0 rfl) ?_
      refine lv_aload_n hx hb dX9_canRaise_3 rfl (lv_at hl 1 rfl) ?_
      refine iv_getr X ft_X9 hB a_h0 sh_9 0 (by decide) rfl k_fl_X9_15 dX9_canRaise_4 (fun b2 g_b2 r_b2 e_b2 a_b2 => ?_)
      refine iv_geti X ft_X5 hB a_b2 sh_5 1 (by decide) rfl k_fl_X9_19 dX9_canRaise_7 (fun x3 e_x3 i_x3 => ?_)
      refine lv_icmp_ge (tgt := 52) hx hb dX9_canRaise_10 (by decide) (fun c4 => ?_) (fun c4 => ?_)
      · skip
        refine lv_iconst (v := 1) hx hb dX9_canRaise_52 (by decide) ?_
        exact iv_zret X hr hlocks hB (q_1.wk (by decide)) ⟨rfl, (q_1.wk (by decide))⟩ dX9_canRaise_53
      · skip
        have i4_x1 : iv_R 0 9 x1 := (i_x1.cutHi (n := 9) (iv_lt_r (iv_nle c4) i_x3 (by decide)))
        have i5_x3 : iv_R 1 10 x3 := (i_x3.cutLo (n := 1) (iv_lt_l (iv_nle c4) i_x1 (by decide)))
        refine lv_iload_n hx hb dX9_canRaise_13 rfl (lv_at hl 2 rfl) ?_
        refine lv_iload_n hx hb dX9_canRaise_14 rfl (lv_at hl 0 rfl) ?_
        refine lv_iushr hx hb dX9_canRaise_15 rfl ?_
        refine lv_topi (fun x7 e_x7 => ?_)
        have i_x7 := iv_R.all x7
        refine lv_iconst (v := 1) hx hb dX9_canRaise_16 (by decide) ?_
        refine iv_iand_r hx hb q_1 (by decide) dX9_canRaise_17 (fun x8 e_x8 i_x8 => ?_)
        refine lv_iconst (v := 1) hx hb dX9_canRaise_18 (by decide) ?_
        refine lv_icmp_ne (tgt := 46) hx hb dX9_canRaise_19 (by decide) (fun c9 => ?_) (fun c9 => ?_)
        · skip
          have i9_x8 : iv_R 0 0 x8 := iv_ne_hi c9 i_x8 q_1 (by decide)
          refine iv_iinc hx hb i4_x1 (lo := 1) (hi := 10) (by decide) dX9_canRaise_46 hl (k := 0) rfl (by decide) (fun x11 ls e_x11 i_x11 hl => ?_)
          have hl : lv_has ls 4 [(3, .int x11), (0, .ref h0), (1, .int x_0), (2, .int x_1)] := hl
          refine lv_goto (tgt := 2) hx hb dX9_canRaise_49 (by decide) ?_
          exact ih_2 _ _ hB x11 (i_x11.wk (by decide)) (iv_mup (c := 1) i_x1 (by decide) (by decide) (by omega) hn) _ (lv_sub hl [0, 1, 2, 3] rfl)
        · skip
          have i11_x8 : iv_R 1 1 x8 := (i_x8.cutLo (n := 1) (iv_eq_r c9 q_1).1)
          refine lv_aload_n hx hb dX9_canRaise_22 rfl (lv_at hl 1 rfl) ?_
          refine lv_iload_n hx hb dX9_canRaise_23 rfl (lv_at hl 2 rfl) ?_
          refine lv_aload_n hx hb dX9_canRaise_24 rfl (lv_at hl 1 rfl) ?_
          refine iv_getr0 X ft_X9 hB a_h0 sh_9 0 (by decide) rfl k_fl_X9_15 dX9_canRaise_25 e_b2 ?_
          refine iv_getr X ft_X5 hB a_b2 sh_5 0 (by decide) rfl k_fl_X9_45 dX9_canRaise_28 (fun b13 g_b13 r_b13 e_b13 a_b13 => ?_)
          refine lv_iload_n hx hb dX9_canRaise_31 rfl (lv_at hl 0 rfl) ?_
          refine iv_aald X hB a_b13 sh_40 (iv_in i4_x1 (by decide)) dX9_canRaise_32 (fun b14 g_b14 r_b14 e_b14 a_b14 => ?_)
          refine iv_geti X ft_X1 hB a_b14 sh_1 1 (by decide) rfl k_fl_X9_63 dX9_canRaise_33 (fun x15 e_x15 i_x15 => ?_)
          refine lv_iload_n hx hb dX9_canRaise_36 rfl (lv_at hl 3 rfl) ?_
          refine lv_iadd hx hb dX9_canRaise_37 ?_
          refine lv_topi (fun x16 e_x16 => ?_)
          have i_x16 := iv_R.all x16
          refine iv_cVi X k_good k_mf_X9_isFreeAt k_im_X9_isFreeAt k_sel_X9_isFreeAt k_ml_X9_66 ft_X9 hB a_h0 sh_9 (As := [.int x_0, .int x16]) (c_X9_isFreeAt l D tys base G h0 g_h0 r_h0 a_h0 x_0 i_x_0 x16 i_x16) ⟨rfl, rfl⟩ ⟨Nat.le_of_ble_eq_true rfl, Nat.le_of_ble_eq_true rfl⟩ ⟨Nat.le_of_ble_eq_true rfl, Nat.le_of_ble_eq_true rfl⟩ rfl rfl hl.1 (Nat.le_of_ble_eq_true rfl) dX9_canRaise_38 (fun x17 G9 H locs hq hB => ?_)
          obtain ⟨rfl, i_x17, hp18⟩ := hq
          refine lv_if_ne (tgt := 46) hx hb dX9_canRaise_41 (by decide) (fun c19 => ?_) (fun c19 => ?_)
          · skip
            have i19_x17 : iv_R 1 1 x17 := iv_ne_lo c19 i_x17 q_0 (by decide)
            have i20_x16 : iv_R (-2147483648) 47 x16 := (i_x16.cutHi (n := 47) (hp18 c19).2)
            refine iv_iinc hx hb i4_x1 (lo := 1) (hi := 10) (by decide) dX9_canRaise_46 hl (k := 0) rfl (by decide) (fun x22 ls e_x22 i_x22 hl => ?_)
            have hl : lv_has ls 4 [(3, .int x22), (0, .ref h0), (1, .int x_0), (2, .int x_1)] := hl
            refine lv_goto (tgt := 2) hx hb dX9_canRaise_49 (by decide) ?_
            exact ih_2 _ _ hB x22 (i_x22.wk (by decide)) (iv_mup (c := 1) i_x1 (by decide) (by decide) (by omega) hn) _ (lv_sub hl [0, 1, 2, 3] rfl)
          · skip
            have i22_x17 : iv_R 0 0 x17 := (i_x17.cutHi (n := 0) (iv_eq_r c19 q_0).2)
            refine lv_iconst (v := 0) hx hb dX9_canRaise_44 (by decide) ?_
            exact iv_zret X hr hlocks hB (q_0.wk (by decide)) ⟨rfl, (q_0.wk (by decide))⟩ dX9_canRaise_45
  exact L_2 _ _ _ hB 0 (q_0.wk (by decide)) (Nat.lt_succ_self _) _ (lv_sub hl [0, 1, 2, 3] rfl)
theorem dX11_raised_0 : decode cX11_raised 0 = .ok (.iload_n 1, 1) := by decide +kernel
theorem dX11_raised_1 : decode cX11_raised 1 = .ok (.ifCond .eq 14, 3) := by decide +kernel
theorem dX11_raised_4 : decode cX11_raised 4 = .ok (.aload_n 0, 1) := by decide +kernel
theorem dX11_raised_5 : decode cX11_raised 5 = .ok (.getfield 12, 3) := by decide +kernel
theorem dX11_raised_8 : decode cX11_raised 8 = .ok (.iload_n 1, 1) := by decide +kernel
theorem dX11_raised_9 : decode cX11_raised 9 = .ok (.invokevirtual 322, 3) := by decide +kernel
theorem dX11_raised_12 : decode cX11_raised 12 = .ok (.ifCond .ne 5, 3) := by decide +kernel
theorem dX11_raised_15 : decode cX11_raised 15 = .ok (.iconst (-1), 1) := by decide +kernel
theorem dX11_raised_16 : decode cX11_raised 16 = .ok (.ireturn, 1) := by decide +kernel
theorem dX11_raised_17 : decode cX11_raised 17 = .ok (.bipush 47, 2) := by decide +kernel
theorem dX11_raised_19 : decode cX11_raised 19 = .ok (.istore_n 2, 1) := by decide +kernel
theorem dX11_raised_20 : decode cX11_raised 20 = .ok (.iload_n 2, 1) := by decide +kernel
theorem dX11_raised_21 : decode cX11_raised 21 = .ok (.ifCond .lt 23, 3) := by decide +kernel
theorem dX11_raised_24 : decode cX11_raised 24 = .ok (.aload_n 0, 1) := by decide +kernel
theorem dX11_raised_25 : decode cX11_raised 25 = .ok (.getfield 58, 3) := by decide +kernel
theorem dX11_raised_28 : decode cX11_raised 28 = .ok (.iload_n 1, 1) := by decide +kernel
theorem dX11_raised_29 : decode cX11_raised 29 = .ok (.iload_n 2, 1) := by decide +kernel
theorem dX11_raised_30 : decode cX11_raised 30 = .ok (.invokevirtual 325, 3) := by decide +kernel
theorem dX11_raised_33 : decode cX11_raised 33 = .ok (.ifCond .eq 5, 3) := by decide +kernel
theorem dX11_raised_36 : decode cX11_raised 36 = .ok (.iload_n 2, 1) := by decide +kernel
theorem dX11_raised_37 : decode cX11_raised 37 = .ok (.ireturn, 1) := by decide +kernel
theorem dX11_raised_38 : decode cX11_raised 38 = .ok (.iinc 2 (-1), 3) := by decide +kernel
theorem dX11_raised_41 : decode cX11_raised 41 = .ok (.goto (-21), 3) := by decide +kernel
theorem dX11_raised_44 : decode cX11_raised 44 = .ok (.iconst (-1), 1) := by decide +kernel
theorem dX11_raised_45 : decode cX11_raised 45 = .ok (.ireturn, 1) := by decide +kernel
set_option maxHeartbeats 4000000 in
set_option maxRecDepth 100000 in
theorem c_X11_raised (l : Launch) (D : va_G) (tys : List (ClassId × FieldType)) (base : Nat) (G : iv_G) (h0 : Nat) (g_h0 : Nat → Int32) (r_h0 : Nat → Nat) (a_h0 : G h0 = some (11, g_h0, r_h0)) (x_0 : Int32) (i_x_0 : iv_R (-2147483648) 2147483647 x_0) : Met l yX11_raised (Cond.code yX11_raised cX11_raised 3 (some .int) :: iv_W0) ({ frames := 3, cells := 0, slots := 0, locals := 60 }) (iv_Pc iv_sh D classes tys base G [.ref h0, .int x_0]) (iv_Qi iv_sh D classes tys base (fun v G' => G = G' ∧ iv_R (-1) 47 v)) 0 0 (iv_A base) := by
  refine iv_head (by decide) (Nat.le_of_ble_eq_true rfl) ?_
  intro p e s m args below meth c ls X hr hlocks hname hB hl
  have X := X
  have hx := X.1.1
  have hb := X.1.2.1
  have hl : lv_has ls 3 [(0, .ref h0), (1, .int x_0)] := hl
  refine lv_iload_n hx hb dX11_raised_0 rfl (lv_at hl 1 rfl) ?_
  refine lv_if_eq (tgt := 15) hx hb dX11_raised_1 (by decide) (fun c1 => ?_) (fun c1 => ?_)
  · skip
    have i1_x_0 : iv_R 0 0 x_0 := ((i_x_0.cutLo (n := 0) (iv_eq_r c1 q_0).1).cutHi (n := 0) (iv_eq_r c1 q_0).2)
    refine lv_iconst (v := (-1)) hx hb dX11_raised_15 (by decide) ?_
    exact iv_iret X hr hlocks hB ⟨rfl, (q_n1.wk (by decide))⟩ dX11_raised_16
  · skip
    refine lv_aload_n hx hb dX11_raised_4 rfl (lv_at hl 0 rfl) ?_
    refine iv_getr X ft_X11 hB a_h0 sh_11 0 (by decide) rfl k_fl_X11_12 dX11_raised_5 (fun b3 g_b3 r_b3 e_b3 a_b3 => ?_)
    refine lv_iload_n hx hb dX11_raised_8 rfl (lv_at hl 1 rfl) ?_
    refine iv_cVi X k_good k_mf_X5_isSetOfBells k_im_X5_isSetOfBells k_sel_X5_isSetOfBells k_ml_X11_322 ft_X5 hB a_b3 sh_5 (As := [.int x_0]) (c_X5_isSetOfBells l D tys base G b3 g_b3 r_b3 a_b3 x_0 i_x_0) ⟨rfl, rfl⟩ ⟨Nat.le_of_ble_eq_true rfl, Nat.le_of_ble_eq_true rfl⟩ ⟨Nat.le_of_ble_eq_true rfl, Nat.le_of_ble_eq_true rfl⟩ rfl rfl hl.1 (Nat.le_of_ble_eq_true rfl) dX11_raised_9 (fun x4 G9 H locs hq hB => ?_)
    obtain ⟨rfl, i_x4⟩ := hq
    refine lv_if_ne (tgt := 17) hx hb dX11_raised_12 (by decide) (fun c5 => ?_) (fun c5 => ?_)
    · skip
      have i5_x4 : iv_R 1 1 x4 := iv_ne_lo c5 i_x4 q_0 (by decide)
      refine lv_bipush (v := 47) hx hb dX11_raised_17 (by decide) ?_
      refine lv_istore_n (lv' := [(2, .int 47), (0, .ref h0), (1, .int x_0)]) hx hb dX11_raised_19 rfl hl (by decide) rfl (fun ls hl => ?_)
      have L_20 : ∀ (n_20 : Nat) (H : Heap) (locs : List Loc) (hB : iv_B iv_sh D classes tys base G s.heap H locs) (x7 : Int32) (i_x7 : iv_R (-1) 47 x7) (hn : (x7.toInt - (-2)).toNat < n_20) (ls : Array Slot) (hl : lv_has ls 3 [(2, .int x7), (0, .ref h0), (1, .int x_0)]), W p l e ({ frames := 3, cells := 0, slots := 0, locals := 60 } : Room) s m args below meth c H locs 0 0 (MQ below (iv_Qi iv_sh D classes tys base (fun v G' => G = G' ∧ iv_R (-1) 47 v)) args s 0 0 (iv_A base)) (F0 m 20 ls []) := by
        intro n_20
        induction n_20 with
        | zero => intro H locs hB x7 i_x7 hn ls hl; exact absurd hn (Nat.not_lt_zero _)
        | succ n_20 ih_20 =>
          intro H locs hB x7 i_x7 hn ls hl
          refine lv_iload_n hx hb dX11_raised_20 rfl (lv_at hl 0 rfl) ?_
          refine lv_if_lt (tgt := 44) hx hb dX11_raised_21 (by decide) (fun c8 => ?_) (fun c8 => ?_)
          · skip
            have i8_x7 : iv_R (-1) (-1) x7 := (i_x7.cutHi (n := (-1)) (iv_lt_r c8 q_0 (by decide)))
            refine lv_iconst (v := (-1)) hx hb dX11_raised_44 (by decide) ?_
            exact iv_iret X hr hlocks hB ⟨rfl, (q_n1.wk (by decide))⟩ dX11_raised_45
          · skip
            have i9_x7 : iv_R 0 47 x7 := (i_x7.cutLo (n := 0) (iv_le_l (iv_nlt c8) q_0))
            refine lv_aload_n hx hb dX11_raised_24 rfl (lv_at hl 1 rfl) ?_
            refine iv_getr X ft_X11 hB a_h0 sh_11 9 (by decide) rfl k_fl_X11_58 dX11_raised_25 (fun b11 g_b11 r_b11 e_b11 a_b11 => ?_)
            refine lv_iload_n hx hb dX11_raised_28 rfl (lv_at hl 2 rfl) ?_
            refine lv_iload_n hx hb dX11_raised_29 rfl (lv_at hl 0 rfl) ?_
            refine iv_cVi X k_good k_mf_X9_canRaise k_im_X9_canRaise k_sel_X9_canRaise k_ml_X11_325 ft_X9 hB a_b11 sh_9 (As := [.int x_0, .int x7]) (c_X9_canRaise l D tys base G b11 g_b11 r_b11 a_b11 x_0 i_x_0 x7 i9_x7) ⟨rfl, rfl⟩ ⟨Nat.le_of_ble_eq_true rfl, Nat.le_of_ble_eq_true rfl⟩ ⟨Nat.le_of_ble_eq_true rfl, Nat.le_of_ble_eq_true rfl⟩ rfl rfl hl.1 (Nat.le_of_ble_eq_true rfl) dX11_raised_30 (fun x12 G9 H locs hq hB => ?_)
            obtain ⟨rfl, i_x12⟩ := hq
            refine lv_if_eq (tgt := 38) hx hb dX11_raised_33 (by decide) (fun c13 => ?_) (fun c13 => ?_)
            · skip
              have i13_x12 : iv_R 0 0 x12 := (i_x12.cutHi (n := 0) (iv_eq_r c13 q_0).2)
              refine iv_iinc hx hb i9_x7 (lo := (-1)) (hi := 46) (by decide) dX11_raised_38 hl (k := 0) rfl (by decide) (fun x15 ls e_x15 i_x15 hl => ?_)
              have hl : lv_has ls 3 [(2, .int x15), (0, .ref h0), (1, .int x_0)] := hl
              refine lv_goto (tgt := 20) hx hb dX11_raised_41 (by decide) ?_
              exact ih_20 _ _ hB x15 (i_x15.wk (by decide)) (iv_mdn (c := 1) i_x7 (by decide) (by decide) (by omega) hn) _ (lv_sub hl [0, 1, 2] rfl)
            · skip
              have i15_x12 : iv_R 1 1 x12 := iv_ne_lo c13 i_x12 q_0 (by decide)
              refine lv_iload_n hx hb dX11_raised_36 rfl (lv_at hl 0 rfl) ?_
              exact iv_iret X hr hlocks hB ⟨rfl, (i9_x7.wk (by decide))⟩ dX11_raised_37
      exact L_20 _ _ _ hB 47 (q_47.wk (by decide)) (Nat.lt_succ_self _) _ (lv_sub hl [0, 1, 2] rfl)
    · skip
      have i16_x4 : iv_R 0 0 x4 := (i_x4.cutHi (n := 0) (iv_eq_r c5 q_0).2)
      refine lv_iconst (v := (-1)) hx hb dX11_raised_15 (by decide) ?_
      exact iv_iret X hr hlocks hB ⟨rfl, (q_n1.wk (by decide))⟩ dX11_raised_16
theorem dX9_isWrong_0 : decode cX9_isWrong 0 = .ok (.iload_n 1, 1) := by decide +kernel
theorem dX9_isWrong_1 : decode cX9_isWrong 1 = .ok (.iconst 0, 1) := by decide +kernel
theorem dX9_isWrong_2 : decode cX9_isWrong 2 = .ok (.bipush 19, 2) := by decide +kernel
theorem dX9_isWrong_4 : decode cX9_isWrong 4 = .ok (.invokestatic 118, 3) := by decide +kernel
theorem dX9_isWrong_7 : decode cX9_isWrong 7 = .ok (.ifCond .eq 28, 3) := by decide +kernel
theorem dX9_isWrong_10 : decode cX9_isWrong 10 = .ok (.aload_n 0, 1) := by decide +kernel
theorem dX9_isWrong_11 : decode cX9_isWrong 11 = .ok (.getfield 9, 3) := by decide +kernel
theorem dX9_isWrong_14 : decode cX9_isWrong 14 = .ok (.iload_n 1, 1) := by decide +kernel
theorem dX9_isWrong_15 : decode cX9_isWrong 15 = .ok (.iaload, 1) := by decide +kernel
theorem dX9_isWrong_16 : decode cX9_isWrong 16 = .ok (.aload_n 0, 1) := by decide +kernel
theorem dX9_isWrong_17 : decode cX9_isWrong 17 = .ok (.getfield 15, 3) := by decide +kernel
theorem dX9_isWrong_20 : decode cX9_isWrong 20 = .ok (.getfield 109, 3) := by decide +kernel
theorem dX9_isWrong_23 : decode cX9_isWrong 23 = .ok (.iload_n 1, 1) := by decide +kernel
theorem dX9_isWrong_24 : decode cX9_isWrong 24 = .ok (.iconst 0, 1) := by decide +kernel
theorem dX9_isWrong_25 : decode cX9_isWrong 25 = .ok (.invokevirtual 89, 3) := by decide +kernel
theorem dX9_isWrong_28 : decode cX9_isWrong 28 = .ok (.if_icmp .eq 7, 3) := by decide +kernel
theorem dX9_isWrong_31 : decode cX9_isWrong 31 = .ok (.iconst 1, 1) := by decide +kernel
theorem dX9_isWrong_32 : decode cX9_isWrong 32 = .ok (.goto 4, 3) := by decide +kernel
theorem dX9_isWrong_35 : decode cX9_isWrong 35 = .ok (.iconst 0, 1) := by decide +kernel
theorem dX9_isWrong_36 : decode cX9_isWrong 36 = .ok (.ireturn, 1) := by decide +kernel
set_option maxHeartbeats 4000000 in
set_option maxRecDepth 100000 in
theorem c_X9_isWrong (l : Launch) (D : va_G) (tys : List (ClassId × FieldType)) (base : Nat) (G : iv_G) (h0 : Nat) (g_h0 : Nat → Int32) (r_h0 : Nat → Nat) (a_h0 : G h0 = some (9, g_h0, r_h0)) (x_0 : Int32) (i_x_0 : iv_R 0 19 x_0) : Met l yX9_isWrong (Cond.code yX9_isWrong cX9_isWrong 2 (some .boolean) :: iv_W0) ({ frames := 2, cells := 0, slots := 0, locals := 44 }) (iv_Pc iv_sh D classes tys base G [.ref h0, .int x_0]) (iv_Qi iv_sh D classes tys base (fun v G' => G = G' ∧ iv_R 0 1 v)) 0 0 (iv_A base) := by
  refine iv_head (by decide) (Nat.le_of_ble_eq_true rfl) ?_
  intro p e s m args below meth c ls X hr hlocks hname hB hl
  have X := X
  have hx := X.1.1
  have hb := X.1.2.1
  have hl : lv_has ls 2 [(0, .ref h0), (1, .int x_0)] := hl
  refine lv_iload_n hx hb dX9_isWrong_0 rfl (lv_at hl 1 rfl) ?_
  refine lv_iconst (v := 0) hx hb dX9_isWrong_1 (by decide) ?_
  refine lv_bipush (v := 19) hx hb dX9_isWrong_2 (by decide) ?_
  refine iv_cSNi X k_good k_mf_X11_isWithin k_st_X11_isWithin (k_mn_X9_118 X.2.2) hB (As := [.int x_0, .int 0, .int 19]) (c_X11_isWithin l D tys base G x_0 (i_x_0.wk (by decide)) 0 (q_0.wk (by decide)) 19 (q_19.wk (by decide))) ⟨rfl, rfl⟩ ⟨Nat.le_of_ble_eq_true rfl, Nat.le_of_ble_eq_true rfl⟩ ⟨Nat.le_of_ble_eq_true rfl, Nat.le_of_ble_eq_true rfl⟩ rfl rfl hl.1 (Nat.le_of_ble_eq_true rfl) dX9_isWrong_4 (fun x1 G9 H locs hq hB => ?_)
  obtain ⟨rfl, i_x1, hp2⟩ := hq
  have k3 : ¬ x1 = 0 → iv_R 0 19 x_0 := fun h => ⟨iv_max i_x_0.1 (Int.le_trans q_0.1 (hp2.1 h).1) (by decide), iv_min i_x_0.2 (Int.le_trans (hp2.1 h).2 q_19.2) (by decide)⟩
  refine lv_if_eq (tgt := 35) hx hb dX9_isWrong_7 (by decide) (fun c4 => ?_) (fun c4 => ?_)
  · skip
    have i4_x1 : iv_R 0 0 x1 := (i_x1.cutHi (n := 0) (iv_eq_r c4 q_0).2)
    refine lv_iconst (v := 0) hx hb dX9_isWrong_35 (by decide) ?_
    exact iv_zret X hr hlocks hB (q_0.wk (by decide)) ⟨rfl, (q_0.wk (by decide))⟩ dX9_isWrong_36
  · skip
    have i5_x1 : iv_R 1 1 x1 := iv_ne_lo c4 i_x1 q_0 (by decide)
    refine lv_aload_n hx hb dX9_isWrong_10 rfl (lv_at hl 0 rfl) ?_
    refine iv_getr X ft_X9 hB a_h0 sh_9 1 (by decide) rfl k_fl_X9_9 dX9_isWrong_11 (fun b7 g_b7 r_b7 e_b7 a_b7 => ?_)
    refine lv_iload_n hx hb dX9_isWrong_14 rfl (lv_at hl 1 rfl) ?_
    refine iv_ald X hB a_b7 sh_39 (iv_in i_x_0 (by decide)) dX9_isWrong_15 (fun x8 e_x8 i_x8 => ?_)
    refine lv_aload_n hx hb dX9_isWrong_16 rfl (lv_at hl 0 rfl) ?_
    refine iv_getr X ft_X9 hB a_h0 sh_9 0 (by decide) rfl k_fl_X9_15 dX9_isWrong_17 (fun b9 g_b9 r_b9 e_b9 a_b9 => ?_)
    refine iv_getr X ft_X5 hB a_b9 sh_5 8 (by decide) rfl k_fl_X9_109 dX9_isWrong_20 (fun b10 g_b10 r_b10 e_b10 a_b10 => ?_)
    refine lv_iload_n hx hb dX9_isWrong_23 rfl (lv_at hl 1 rfl) ?_
    refine lv_iconst (v := 0) hx hb dX9_isWrong_24 (by decide) ?_
    refine iv_cVi X k_good k_mf_X8_at k_im_X8_at k_sel_X8_at k_ml_X9_89 ft_X8 hB a_b10 sh_8 (As := [.int x_0, .int 0]) (c_X8_at_8 l D tys base G b10 g_b10 r_b10 a_b10 x_0 i_x_0 0 (q_0.wk (by decide))) ⟨rfl, rfl⟩ ⟨Nat.le_of_ble_eq_true rfl, Nat.le_of_ble_eq_true rfl⟩ ⟨Nat.le_of_ble_eq_true rfl, Nat.le_of_ble_eq_true rfl⟩ rfl rfl hl.1 (Nat.le_of_ble_eq_true rfl) dX9_isWrong_25 (fun x11 G9 H locs hq hB => ?_)
    obtain ⟨rfl, i_x11⟩ := hq
    refine lv_icmp_eq (tgt := 35) hx hb dX9_isWrong_28 (by decide) (fun c12 => ?_) (fun c12 => ?_)
    · skip
      refine lv_iconst (v := 0) hx hb dX9_isWrong_35 (by decide) ?_
      exact iv_zret X hr hlocks hB (q_0.wk (by decide)) ⟨rfl, (q_0.wk (by decide))⟩ dX9_isWrong_36
    · skip
      refine lv_iconst (v := 1) hx hb dX9_isWrong_31 (by decide) ?_
      refine lv_goto (tgt := 36) hx hb dX9_isWrong_32 (by decide) ?_
      exact iv_zret X hr hlocks hB (q_1.wk (by decide)) ⟨rfl, (q_1.wk (by decide))⟩ dX9_isWrong_36
theorem dX9_partnerOf_0 : decode cX9_partnerOf 0 = .ok (.iconst (-1), 1) := by decide +kernel
theorem dX9_partnerOf_1 : decode cX9_partnerOf 1 = .ok (.istore_n 2, 1) := by decide +kernel
theorem dX9_partnerOf_2 : decode cX9_partnerOf 2 = .ok (.iconst 0, 1) := by decide +kernel
theorem dX9_partnerOf_3 : decode cX9_partnerOf 3 = .ok (.istore_n 3, 1) := by decide +kernel
theorem dX9_partnerOf_4 : decode cX9_partnerOf 4 = .ok (.iload_n 3, 1) := by decide +kernel
theorem dX9_partnerOf_5 : decode cX9_partnerOf 5 = .ok (.aload_n 0, 1) := by decide +kernel
theorem dX9_partnerOf_6 : decode cX9_partnerOf 6 = .ok (.getfield 15, 3) := by decide +kernel
theorem dX9_partnerOf_9 : decode cX9_partnerOf 9 = .ok (.getfield 109, 3) := by decide +kernel
theorem dX9_partnerOf_12 : decode cX9_partnerOf 12 = .ok (.getfield 84, 3) := by decide +kernel
theorem dX9_partnerOf_15 : decode cX9_partnerOf 15 = .ok (.if_icmp .ge 68, 3) := by decide +kernel
theorem dX9_partnerOf_18 : decode cX9_partnerOf 18 = .ok (.aload_n 0, 1) := by decide +kernel
theorem dX9_partnerOf_19 : decode cX9_partnerOf 19 = .ok (.iload_n 3, 1) := by decide +kernel
theorem dX9_partnerOf_20 : decode cX9_partnerOf 20 = .ok (.invokevirtual 112, 3) := by decide +kernel
theorem dX9_partnerOf_23 : decode cX9_partnerOf 23 = .ok (.ifCond .eq 54, 3) := by decide +kernel
theorem dX9_partnerOf_26 : decode cX9_partnerOf 26 = .ok (.aload_n 0, 1) := by decide +kernel
theorem dX9_partnerOf_27 : decode cX9_partnerOf 27 = .ok (.getfield 9, 3) := by decide +kernel
theorem dX9_partnerOf_30 : decode cX9_partnerOf 30 = .ok (.iload_n 3, 1) := by decide +kernel
theorem dX9_partnerOf_31 : decode cX9_partnerOf 31 = .ok (.iaload, 1) := by decide +kernel
theorem dX9_partnerOf_32 : decode cX9_partnerOf 32 = .ok (.aload_n 0, 1) := by decide +kernel
theorem dX9_partnerOf_33 : decode cX9_partnerOf 33 = .ok (.getfield 15, 3) := by decide +kernel
theorem dX9_partnerOf_36 : decode cX9_partnerOf 36 = .ok (.getfield 109, 3) := by decide +kernel
theorem dX9_partnerOf_39 : decode cX9_partnerOf 39 = .ok (.iload_n 1, 1) := by decide +kernel
theorem dX9_partnerOf_40 : decode cX9_partnerOf 40 = .ok (.iconst 0, 1) := by decide +kernel
theorem dX9_partnerOf_41 : decode cX9_partnerOf 41 = .ok (.invokevirtual 89, 3) := by decide +kernel
theorem dX9_partnerOf_44 : decode cX9_partnerOf 44 = .ok (.if_icmp .ne 33, 3) := by decide +kernel
theorem dX9_partnerOf_47 : decode cX9_partnerOf 47 = .ok (.aload_n 0, 1) := by decide +kernel
theorem dX9_partnerOf_48 : decode cX9_partnerOf 48 = .ok (.getfield 15, 3) := by decide +kernel
theorem dX9_partnerOf_51 : decode cX9_partnerOf 51 = .ok (.getfield 109, 3) := by decide +kernel
theorem dX9_partnerOf_54 : decode cX9_partnerOf 54 = .ok (.iload_n 3, 1) := by decide +kernel
theorem dX9_partnerOf_55 : decode cX9_partnerOf 55 = .ok (.iconst 0, 1) := by decide +kernel
theorem dX9_partnerOf_56 : decode cX9_partnerOf 56 = .ok (.invokevirtual 89, 3) := by decide +kernel
theorem dX9_partnerOf_59 : decode cX9_partnerOf 59 = .ok (.aload_n 0, 1) := by decide +kernel
theorem dX9_partnerOf_60 : decode cX9_partnerOf 60 = .ok (.getfield 9, 3) := by decide +kernel
theorem dX9_partnerOf_63 : decode cX9_partnerOf 63 = .ok (.iload_n 1, 1) := by decide +kernel
theorem dX9_partnerOf_64 : decode cX9_partnerOf 64 = .ok (.iaload, 1) := by decide +kernel
theorem dX9_partnerOf_65 : decode cX9_partnerOf 65 = .ok (.if_icmp .ne 5, 3) := by decide +kernel
theorem dX9_partnerOf_68 : decode cX9_partnerOf 68 = .ok (.iload_n 3, 1) := by decide +kernel
theorem dX9_partnerOf_69 : decode cX9_partnerOf 69 = .ok (.ireturn, 1) := by decide +kernel
theorem dX9_partnerOf_70 : decode cX9_partnerOf 70 = .ok (.iload_n 2, 1) := by decide +kernel
theorem dX9_partnerOf_71 : decode cX9_partnerOf 71 = .ok (.iconst (-1), 1) := by decide +kernel
theorem dX9_partnerOf_72 : decode cX9_partnerOf 72 = .ok (.if_icmp .ne 5, 3) := by decide +kernel
theorem dX9_partnerOf_75 : decode cX9_partnerOf 75 = .ok (.iload_n 3, 1) := by decide +kernel
theorem dX9_partnerOf_76 : decode cX9_partnerOf 76 = .ok (.istore_n 2, 1) := by decide +kernel
theorem dX9_partnerOf_77 : decode cX9_partnerOf 77 = .ok (.iinc 3 1, 3) := by decide +kernel
theorem dX9_partnerOf_80 : decode cX9_partnerOf 80 = .ok (.goto (-76), 3) := by decide +kernel
theorem dX9_partnerOf_83 : decode cX9_partnerOf 83 = .ok (.iload_n 2, 1) := by decide +kernel
theorem dX9_partnerOf_84 : decode cX9_partnerOf 84 = .ok (.ireturn, 1) := by decide +kernel
set_option maxHeartbeats 4000000 in
set_option maxRecDepth 100000 in
theorem c_X9_partnerOf (l : Launch) (D : va_G) (tys : List (ClassId × FieldType)) (base : Nat) (G : iv_G) (h0 : Nat) (g_h0 : Nat → Int32) (r_h0 : Nat → Nat) (a_h0 : G h0 = some (9, g_h0, r_h0)) (x_0 : Int32) (i_x_0 : iv_R 0 19 x_0) : Met l yX9_partnerOf (Cond.code yX9_partnerOf cX9_partnerOf 4 (some .int) :: iv_W0) ({ frames := 3, cells := 0, slots := 0, locals := 65 }) (iv_Pc iv_sh D classes tys base G [.ref h0, .int x_0]) (iv_Qi iv_sh D classes tys base (fun v G' => G = G' ∧ iv_R (-1) 19 v)) 0 0 (iv_A base) := by
  refine iv_head (by decide) (Nat.le_of_ble_eq_true rfl) ?_
  intro p e s m args below meth c ls X hr hlocks hname hB hl
  have X := X
  have hx := X.1.1
  have hb := X.1.2.1
  have hl : lv_has ls 4 [(0, .ref h0), (1, .int x_0)] := hl
  refine lv_iconst (v := (-1)) hx hb dX9_partnerOf_0 (by decide) ?_
  refine lv_istore_n (lv' := [(2, .int (-1)), (0, .ref h0), (1, .int x_0)]) hx hb dX9_partnerOf_1 rfl hl (by decide) rfl (fun ls hl => ?_)
  refine lv_iconst (v := 0) hx hb dX9_partnerOf_2 (by decide) ?_
  refine lv_istore_n (lv' := [(3, .int 0), (2, .int (-1)), (0, .ref h0), (1, .int x_0)]) hx hb dX9_partnerOf_3 rfl hl (by decide) rfl (fun ls hl => ?_)
  have L_4 : ∀ (n_4 : Nat) (H : Heap) (locs : List Loc) (hB : iv_B iv_sh D classes tys base G s.heap H locs) (x1 : Int32) (i_x1 : iv_R (-1) 19 x1) (x2 : Int32) (i_x2 : iv_R 0 20 x2) (hn : (21 - x2.toInt).toNat < n_4) (ls : Array Slot) (hl : lv_has ls 4 [(3, .int x2), (2, .int x1), (0, .ref h0), (1, .int x_0)]), W p l e ({ frames := 3, cells := 0, slots := 0, locals := 65 } : Room) s m args below meth c H locs 0 0 (MQ below (iv_Qi iv_sh D classes tys base (fun v G' => G = G' ∧ iv_R (-1) 19 v)) args s 0 0 (iv_A base)) (F0 m 4 ls []) := by
    intro n_4
    induction n_4 with
    | zero => intro H locs hB x1 i_x1 x2 i_x2 hn ls hl; exact absurd hn (Nat.not_lt_zero _)
    | succ n_4 ih_4 =>
      intro H locs hB x1 i_x1 x2 i_x2 hn ls hl
      refine lv_iload_n hx hb dX9_partnerOf_4 rfl (lv_at hl 0 rfl) ?_
      refine lv_aload_n hx hb dX9_partnerOf_5 rfl (lv_at hl 2 rfl) ?_
      refine iv_getr X ft_X9 hB a_h0 sh_9 0 (by decide) rfl k_fl_X9_15 dX9_partnerOf_6 (fun b3 g_b3 r_b3 e_b3 a_b3 => ?_)
      refine iv_getr X ft_X5 hB a_b3 sh_5 8 (by decide) rfl k_fl_X9_109 dX9_partnerOf_9 (fun b4 g_b4 r_b4 e_b4 a_b4 => ?_)
      refine iv_geti X ft_X8 hB a_b4 sh_8 2 (by decide) rfl k_fl_X9_84 dX9_partnerOf_12 (fun x5 e_x5 i_x5 => ?_)
      refine lv_icmp_ge (tgt := 83) hx hb dX9_partnerOf_15 (by decide) (fun c6 => ?_) (fun c6 => ?_)
      · skip
        refine lv_iload_n hx hb dX9_partnerOf_83 rfl (lv_at hl 1 rfl) ?_
        exact iv_iret X hr hlocks hB ⟨rfl, i_x1⟩ dX9_partnerOf_84
      · skip
        have i6_x2 : iv_R 0 19 x2 := (i_x2.cutHi (n := 19) (iv_lt_r (iv_nle c6) i_x5 (by decide)))
        have i7_x5 : iv_R 1 20 x5 := (i_x5.cutLo (n := 1) (iv_lt_l (iv_nle c6) i_x2 (by decide)))
        refine lv_aload_n hx hb dX9_partnerOf_18 rfl (lv_at hl 2 rfl) ?_
        refine lv_iload_n hx hb dX9_partnerOf_19 rfl (lv_at hl 0 rfl) ?_
        refine iv_cVi X k_good k_mf_X9_isWrong k_im_X9_isWrong k_sel_X9_isWrong k_ml_X9_112 ft_X9 hB a_h0 sh_9 (As := [.int x2]) (c_X9_isWrong l D tys base G h0 g_h0 r_h0 a_h0 x2 i6_x2) ⟨rfl, rfl⟩ ⟨Nat.le_of_ble_eq_true rfl, Nat.le_of_ble_eq_true rfl⟩ ⟨Nat.le_of_ble_eq_true rfl, Nat.le_of_ble_eq_true rfl⟩ rfl rfl hl.1 (Nat.le_of_ble_eq_true rfl) dX9_partnerOf_20 (fun x9 G9 H locs hq hB => ?_)
        obtain ⟨rfl, i_x9⟩ := hq
        refine lv_if_eq (tgt := 77) hx hb dX9_partnerOf_23 (by decide) (fun c10 => ?_) (fun c10 => ?_)
        · skip
          have i10_x9 : iv_R 0 0 x9 := (i_x9.cutHi (n := 0) (iv_eq_r c10 q_0).2)
          refine iv_iinc hx hb i6_x2 (lo := 1) (hi := 20) (by decide) dX9_partnerOf_77 hl (k := 0) rfl (by decide) (fun x12 ls e_x12 i_x12 hl => ?_)
          have hl : lv_has ls 4 [(3, .int x12), (2, .int x1), (0, .ref h0), (1, .int x_0)] := hl
          refine lv_goto (tgt := 4) hx hb dX9_partnerOf_80 (by decide) ?_
          exact ih_4 _ _ hB x1 i_x1 x12 (i_x12.wk (by decide)) (iv_mup (c := 1) i_x2 (by decide) (by decide) (by omega) hn) _ (lv_sub hl [0, 1, 2, 3] rfl)
        · skip
          have i12_x9 : iv_R 1 1 x9 := iv_ne_lo c10 i_x9 q_0 (by decide)
          refine lv_aload_n hx hb dX9_partnerOf_26 rfl (lv_at hl 2 rfl) ?_
          refine iv_getr X ft_X9 hB a_h0 sh_9 1 (by decide) rfl k_fl_X9_9 dX9_partnerOf_27 (fun b14 g_b14 r_b14 e_b14 a_b14 => ?_)
          refine lv_iload_n hx hb dX9_partnerOf_30 rfl (lv_at hl 0 rfl) ?_
          refine iv_ald X hB a_b14 sh_39 (iv_in i6_x2 (by decide)) dX9_partnerOf_31 (fun x15 e_x15 i_x15 => ?_)
          refine lv_aload_n hx hb dX9_partnerOf_32 rfl (lv_at hl 2 rfl) ?_
          refine iv_getr0 X ft_X9 hB a_h0 sh_9 0 (by decide) rfl k_fl_X9_15 dX9_partnerOf_33 e_b3 ?_
          refine iv_getr0 X ft_X5 hB a_b3 sh_5 8 (by decide) rfl k_fl_X9_109 dX9_partnerOf_36 e_b4 ?_
          refine lv_iload_n hx hb dX9_partnerOf_39 rfl (lv_at hl 3 rfl) ?_
          refine lv_iconst (v := 0) hx hb dX9_partnerOf_40 (by decide) ?_
          refine iv_cVi X k_good k_mf_X8_at k_im_X8_at k_sel_X8_at k_ml_X9_89 ft_X8 hB a_b4 sh_8 (As := [.int x_0, .int 0]) (c_X8_at_8 l D tys base G b4 g_b4 r_b4 a_b4 x_0 i_x_0 0 (q_0.wk (by decide))) ⟨rfl, rfl⟩ ⟨Nat.le_of_ble_eq_true rfl, Nat.le_of_ble_eq_true rfl⟩ ⟨Nat.le_of_ble_eq_true rfl, Nat.le_of_ble_eq_true rfl⟩ rfl rfl hl.1 (Nat.le_of_ble_eq_true rfl) dX9_partnerOf_41 (fun x16 G9 H locs hq hB => ?_)
          obtain ⟨rfl, i_x16⟩ := hq
          refine lv_icmp_ne (tgt := 77) hx hb dX9_partnerOf_44 (by decide) (fun c17 => ?_) (fun c17 => ?_)
          · skip
            refine iv_iinc hx hb i6_x2 (lo := 1) (hi := 20) (by decide) dX9_partnerOf_77 hl (k := 0) rfl (by decide) (fun x18 ls e_x18 i_x18 hl => ?_)
            have hl : lv_has ls 4 [(3, .int x18), (2, .int x1), (0, .ref h0), (1, .int x_0)] := hl
            refine lv_goto (tgt := 4) hx hb dX9_partnerOf_80 (by decide) ?_
            exact ih_4 _ _ hB x1 i_x1 x18 (i_x18.wk (by decide)) (iv_mup (c := 1) i_x2 (by decide) (by decide) (by omega) hn) _ (lv_sub hl [0, 1, 2, 3] rfl)
          · skip
            refine lv_aload_n hx hb dX9_partnerOf_47 rfl (lv_at hl 2 rfl) ?_
            refine iv_getr0 X ft_X9 hB a_h0 sh_9 0 (by decide) rfl k_fl_X9_15 dX9_partnerOf_48 e_b3 ?_
            refine iv_getr0 X ft_X5 hB a_b3 sh_5 8 (by decide) rfl k_fl_X9_109 dX9_partnerOf_51 e_b4 ?_
            refine lv_iload_n hx hb dX9_partnerOf_54 rfl (lv_at hl 0 rfl) ?_
            refine lv_iconst (v := 0) hx hb dX9_partnerOf_55 (by decide) ?_
            refine iv_cVi X k_good k_mf_X8_at k_im_X8_at k_sel_X8_at k_ml_X9_89 ft_X8 hB a_b4 sh_8 (As := [.int x2, .int 0]) (c_X8_at_8 l D tys base G b4 g_b4 r_b4 a_b4 x2 i6_x2 0 (q_0.wk (by decide))) ⟨rfl, rfl⟩ ⟨Nat.le_of_ble_eq_true rfl, Nat.le_of_ble_eq_true rfl⟩ ⟨Nat.le_of_ble_eq_true rfl, Nat.le_of_ble_eq_true rfl⟩ rfl rfl hl.1 (Nat.le_of_ble_eq_true rfl) dX9_partnerOf_56 (fun x19 G9 H locs hq hB => ?_)
            obtain ⟨rfl, i_x19⟩ := hq
            refine lv_aload_n hx hb dX9_partnerOf_59 rfl (lv_at hl 2 rfl) ?_
            refine iv_getr0 X ft_X9 hB a_h0 sh_9 1 (by decide) rfl k_fl_X9_9 dX9_partnerOf_60 e_b14 ?_
            refine lv_iload_n hx hb dX9_partnerOf_63 rfl (lv_at hl 3 rfl) ?_
            refine iv_ald X hB a_b14 sh_39 (iv_in i_x_0 (by decide)) dX9_partnerOf_64 (fun x20 e_x20 i_x20 => ?_)
            refine lv_icmp_ne (tgt := 70) hx hb dX9_partnerOf_65 (by decide) (fun c21 => ?_) (fun c21 => ?_)
            · skip
              refine lv_iload_n hx hb dX9_partnerOf_70 rfl (lv_at hl 1 rfl) ?_
              refine lv_iconst (v := (-1)) hx hb dX9_partnerOf_71 (by decide) ?_
              refine lv_icmp_ne (tgt := 77) hx hb dX9_partnerOf_72 (by decide) (fun c22 => ?_) (fun c22 => ?_)
              · skip
                have i22_x1 : iv_R 0 19 x1 := iv_ne_lo c22 i_x1 q_n1 (by decide)
                refine iv_iinc hx hb i6_x2 (lo := 1) (hi := 20) (by decide) dX9_partnerOf_77 hl (k := 0) rfl (by decide) (fun x24 ls e_x24 i_x24 hl => ?_)
                have hl : lv_has ls 4 [(3, .int x24), (2, .int x1), (0, .ref h0), (1, .int x_0)] := hl
                refine lv_goto (tgt := 4) hx hb dX9_partnerOf_80 (by decide) ?_
                exact ih_4 _ _ hB x1 (i22_x1.wk (by decide)) x24 (i_x24.wk (by decide)) (iv_mup (c := 1) i_x2 (by decide) (by decide) (by omega) hn) _ (lv_sub hl [0, 1, 2, 3] rfl)
              · skip
                have i24_x1 : iv_R (-1) (-1) x1 := (i_x1.cutHi (n := (-1)) (iv_eq_r c22 q_n1).2)
                refine lv_iload_n hx hb dX9_partnerOf_75 rfl (lv_at hl 0 rfl) ?_
                refine lv_istore_n (lv' := [(2, .int x2), (3, .int x2), (0, .ref h0), (1, .int x_0)]) hx hb dX9_partnerOf_76 rfl hl (by decide) rfl (fun ls hl => ?_)
                refine iv_iinc hx hb i6_x2 (lo := 1) (hi := 20) (by decide) dX9_partnerOf_77 hl (k := 1) rfl (by decide) (fun x26 ls e_x26 i_x26 hl => ?_)
                have hl : lv_has ls 4 [(3, .int x26), (2, .int x2), (0, .ref h0), (1, .int x_0)] := hl
                refine lv_goto (tgt := 4) hx hb dX9_partnerOf_80 (by decide) ?_
                exact ih_4 _ _ hB x2 (i6_x2.wk (by decide)) x26 (i_x26.wk (by decide)) (iv_mup (c := 1) i_x2 (by decide) (by decide) (by omega) hn) _ (lv_sub hl [0, 1, 2, 3] rfl)
            · skip
              refine lv_iload_n hx hb dX9_partnerOf_68 rfl (lv_at hl 0 rfl) ?_
              exact iv_iret X hr hlocks hB ⟨rfl, (i6_x2.wk (by decide))⟩ dX9_partnerOf_69
  exact L_4 _ _ _ hB (-1) (q_n1.wk (by decide)) 0 (q_0.wk (by decide)) (Nat.lt_succ_self _) _ (lv_sub hl [0, 1, 2, 3] rfl)
theorem dX9_rememberCame_0 : decode cX9_rememberCame 0 = .ok (.iconst 0, 1) := by decide +kernel
theorem dX9_rememberCame_1 : decode cX9_rememberCame 1 = .ok (.istore_n 1, 1) := by decide +kernel
theorem dX9_rememberCame_2 : decode cX9_rememberCame 2 = .ok (.iload_n 1, 1) := by decide +kernel
theorem dX9_rememberCame_3 : decode cX9_rememberCame 3 = .ok (.aload_n 0, 1) := by decide +kernel
theorem dX9_rememberCame_4 : decode cX9_rememberCame 4 = .ok (.getfield 15, 3) := by decide +kernel
theorem dX9_rememberCame_7 : decode cX9_rememberCame 7 = .ok (.getfield 109, 3) := by decide +kernel
theorem dX9_rememberCame_10 : decode cX9_rememberCame 10 = .ok (.getfield 84, 3) := by decide +kernel
theorem dX9_rememberCame_13 : decode cX9_rememberCame 13 = .ok (.if_icmp .ge 33, 3) := by decide +kernel
theorem dX9_rememberCame_16 : decode cX9_rememberCame 16 = .ok (.iload_n 1, 1) := by decide +kernel
theorem dX9_rememberCame_17 : decode cX9_rememberCame 17 = .ok (.bipush 20, 2) := by decide +kernel
theorem dX9_rememberCame_19 : decode cX9_rememberCame 19 = .ok (.if_icmp .ge 27, 3) := by decide +kernel
theorem dX9_rememberCame_22 : decode cX9_rememberCame 22 = .ok (.aload_n 0, 1) := by decide +kernel
theorem dX9_rememberCame_23 : decode cX9_rememberCame 23 = .ok (.getfield 9, 3) := by decide +kernel
theorem dX9_rememberCame_26 : decode cX9_rememberCame 26 = .ok (.iload_n 1, 1) := by decide +kernel
theorem dX9_rememberCame_27 : decode cX9_rememberCame 27 = .ok (.aload_n 0, 1) := by decide +kernel
theorem dX9_rememberCame_28 : decode cX9_rememberCame 28 = .ok (.getfield 15, 3) := by decide +kernel
theorem dX9_rememberCame_31 : decode cX9_rememberCame 31 = .ok (.getfield 109, 3) := by decide +kernel
theorem dX9_rememberCame_34 : decode cX9_rememberCame 34 = .ok (.iload_n 1, 1) := by decide +kernel
theorem dX9_rememberCame_35 : decode cX9_rememberCame 35 = .ok (.iconst 1, 1) := by decide +kernel
theorem dX9_rememberCame_36 : decode cX9_rememberCame 36 = .ok (.invokevirtual 89, 3) := by decide +kernel
theorem dX9_rememberCame_39 : decode cX9_rememberCame 39 = .ok (.iastore, 1) := by decide +kernel
theorem dX9_rememberCame_40 : decode cX9_rememberCame 40 = .ok (.iinc 1 1, 3) := by decide +kernel
theorem dX9_rememberCame_43 : decode cX9_rememberCame 43 = .ok (.goto (-41), 3) := by decide +kernel
theorem dX9_rememberCame_46 : decode cX9_rememberCame 46 = .ok (.return_, 1) := by decide +kernel
set_option maxHeartbeats 4000000 in
set_option maxRecDepth 100000 in
theorem c_X9_rememberCame (l : Launch) (D : va_G) (tys : List (ClassId × FieldType)) (base : Nat) (G : iv_G) (h0 : Nat) (g_h0 : Nat → Int32) (r_h0 : Nat → Nat) (a_h0 : G h0 = some (9, g_h0, r_h0)) : Met l yX9_rememberCame (Cond.code yX9_rememberCame cX9_rememberCame 2 none :: iv_W0) ({ frames := 2, cells := 0, slots := 0, locals := 44 }) (iv_Pc iv_sh D classes tys base G [.ref h0]) (iv_Qv iv_sh D classes tys base (fun G' => iv_Md [39] G G')) 0 0 (iv_A base) := by
  refine iv_head (by decide) (Nat.le_of_ble_eq_true rfl) ?_
  intro p e s m args below meth c ls X hr hlocks hname hB hl
  have X := X
  have hx := X.1.1
  have hb := X.1.2.1
  have hM : iv_Md [39] G G := iv_Md.rf
  have hl : lv_has ls 2 [(0, .ref h0)] := hl
  refine lv_iconst (v := 0) hx hb dX9_rememberCame_0 (by decide) ?_
  refine lv_istore_n (lv' := [(1, .int 0), (0, .ref h0)]) hx hb dX9_rememberCame_1 rfl hl (by decide) rfl (fun ls hl => ?_)
  have L_2 : ∀ (n_2 : Nat) (G4 : iv_G) (hM : iv_Md [39] G G4) (H : Heap) (locs : List Loc) (hB : iv_B iv_sh D classes tys base G4 s.heap H locs) (g2 : Nat → Int32) (r3 : Nat → Nat) (a_h0 : G4 h0 = some (9, g2, r3)) (x1 : Int32) (i_x1 : iv_R 0 20 x1) (hn : (21 - x1.toInt).toNat < n_2) (ls : Array Slot) (hl : lv_has ls 2 [(1, .int x1), (0, .ref h0)]), W p l e ({ frames := 2, cells := 0, slots := 0, locals := 44 } : Room) s m args below meth c H locs 0 0 (MQ below (iv_Qv iv_sh D classes tys base (fun G' => iv_Md [39] G G')) args s 0 0 (iv_A base)) (F0 m 2 ls []) := by
    intro n_2
    induction n_2 with
    | zero => intro G4 hM H locs hB g2 r3 a_h0 x1 i_x1 hn ls hl; exact absurd hn (Nat.not_lt_zero _)
    | succ n_2 ih_2 =>
      intro G4 hM H locs hB g2 r3 a_h0 x1 i_x1 hn ls hl
      refine lv_iload_n hx hb dX9_rememberCame_2 rfl (lv_at hl 0 rfl) ?_
      refine lv_aload_n hx hb dX9_rememberCame_3 rfl (lv_at hl 1 rfl) ?_
      refine iv_getr X ft_X9 hB a_h0 sh_9 0 (by decide) rfl k_fl_X9_15 dX9_rememberCame_4 (fun b5 g_b5 r_b5 e_b5 a_b5 => ?_)
      refine iv_getr X ft_X5 hB a_b5 sh_5 8 (by decide) rfl k_fl_X9_109 dX9_rememberCame_7 (fun b6 g_b6 r_b6 e_b6 a_b6 => ?_)
      refine iv_geti X ft_X8 hB a_b6 sh_8 2 (by decide) rfl k_fl_X9_84 dX9_rememberCame_10 (fun x7 e_x7 i_x7 => ?_)
      refine lv_icmp_ge (tgt := 46) hx hb dX9_rememberCame_13 (by decide) (fun c8 => ?_) (fun c8 => ?_)
      · skip
        exact iv_vret X hr hlocks hB hM dX9_rememberCame_46
      · skip
        have i8_x1 : iv_R 0 19 x1 := (i_x1.cutHi (n := 19) (iv_lt_r (iv_nle c8) i_x7 (by decide)))
        have i9_x7 : iv_R 1 20 x7 := (i_x7.cutLo (n := 1) (iv_lt_l (iv_nle c8) i_x1 (by decide)))
        refine lv_iload_n hx hb dX9_rememberCame_16 rfl (lv_at hl 0 rfl) ?_
        refine lv_bipush (v := 20) hx hb dX9_rememberCame_17 (by decide) ?_
        refine lv_icmp_ge (tgt := 46) hx hb dX9_rememberCame_19 (by decide) (fun c11 => ?_) (fun c11 => ?_)
        · skip
          exact (q_20.cutHi (n := 19) (iv_le_r c11 i8_x1)).no (by decide)
        · skip
          refine lv_aload_n hx hb dX9_rememberCame_22 rfl (lv_at hl 1 rfl) ?_
          refine iv_getr X ft_X9 hB a_h0 sh_9 1 (by decide) rfl k_fl_X9_9 dX9_rememberCame_23 (fun b12 g_b12 r_b12 e_b12 a_b12 => ?_)
          refine lv_iload_n hx hb dX9_rememberCame_26 rfl (lv_at hl 0 rfl) ?_
          refine lv_aload_n hx hb dX9_rememberCame_27 rfl (lv_at hl 1 rfl) ?_
          refine iv_getr0 X ft_X9 hB a_h0 sh_9 0 (by decide) rfl k_fl_X9_15 dX9_rememberCame_28 e_b5 ?_
          refine iv_getr0 X ft_X5 hB a_b5 sh_5 8 (by decide) rfl k_fl_X9_109 dX9_rememberCame_31 e_b6 ?_
          refine lv_iload_n hx hb dX9_rememberCame_34 rfl (lv_at hl 0 rfl) ?_
          refine lv_iconst (v := 1) hx hb dX9_rememberCame_35 (by decide) ?_
          refine iv_cVi X k_good k_mf_X8_at k_im_X8_at k_sel_X8_at k_ml_X9_89 ft_X8 hB a_b6 sh_8 (As := [.int x1, .int 1]) (c_X8_at_8 l D tys base G4 b6 g_b6 r_b6 a_b6 x1 i8_x1 1 (q_1.wk (by decide))) ⟨rfl, rfl⟩ ⟨Nat.le_of_ble_eq_true rfl, Nat.le_of_ble_eq_true rfl⟩ ⟨Nat.le_of_ble_eq_true rfl, Nat.le_of_ble_eq_true rfl⟩ rfl rfl hl.1 (Nat.le_of_ble_eq_true rfl) dX9_rememberCame_36 (fun x13 G9 H locs hq hB => ?_)
          obtain ⟨rfl, i_x13⟩ := hq
          refine iv_ast X hB a_b12 sh_39 (iv_in i8_x1 (by decide)) i_x13 dX9_rememberCame_39 (fun H locs hB => ?_)
          have hm := iv_Md.ast (j := x1.toNatClampNeg) (x := x13) a_b12 rfl (by decide)
          have h9 := iv_up_eq (G := G4) (a := b12) (k := (39, upd g_b12 x1.toNatClampNeg x13, r_b12))
          generalize iv_up G4 b12 _ = G14 at hB hm h9
          have hM := hM.stp hm (by decide)
          have a_h0 := hm.at a_h0 (by decide)
          refine iv_iinc hx hb i8_x1 (lo := 1) (hi := 20) (by decide) dX9_rememberCame_40 hl (k := 0) rfl (by decide) (fun x16 ls e_x16 i_x16 hl => ?_)
          have hl : lv_has ls 2 [(1, .int x16), (0, .ref h0)] := hl
          refine lv_goto (tgt := 2) hx hb dX9_rememberCame_43 (by decide) ?_
          exact ih_2 G14 hM _ _ hB g2 r3 a_h0 x16 (i_x16.wk (by decide)) (iv_mup (c := 1) i_x1 (by decide) (by decide) (by omega) hn) _ (lv_sub hl [0, 1] rfl)
  exact L_2 _ G hM _ _ hB g_h0 r_h0 a_h0 0 (q_0.wk (by decide)) (Nat.lt_succ_self _) _ (lv_sub hl [0, 1] rfl)
theorem dX9_swapsToRight_0 : decode cX9_swapsToRight 0 = .ok (.aload_n 0, 1) := by decide +kernel
theorem dX9_swapsToRight_1 : decode cX9_swapsToRight 1 = .ok (.invokevirtual 99, 3) := by decide +kernel
theorem dX9_swapsToRight_4 : decode cX9_swapsToRight 4 = .ok (.iconst 0, 1) := by decide +kernel
theorem dX9_swapsToRight_5 : decode cX9_swapsToRight 5 = .ok (.istore_n 1, 1) := by decide +kernel
theorem dX9_swapsToRight_6 : decode cX9_swapsToRight 6 = .ok (.iconst 0, 1) := by decide +kernel
theorem dX9_swapsToRight_7 : decode cX9_swapsToRight 7 = .ok (.istore_n 2, 1) := by decide +kernel
theorem dX9_swapsToRight_8 : decode cX9_swapsToRight 8 = .ok (.iload_n 2, 1) := by decide +kernel
theorem dX9_swapsToRight_9 : decode cX9_swapsToRight 9 = .ok (.aload_n 0, 1) := by decide +kernel
theorem dX9_swapsToRight_10 : decode cX9_swapsToRight 10 = .ok (.getfield 15, 3) := by decide +kernel
theorem dX9_swapsToRight_13 : decode cX9_swapsToRight 13 = .ok (.getfield 109, 3) := by decide +kernel
theorem dX9_swapsToRight_16 : decode cX9_swapsToRight 16 = .ok (.getfield 84, 3) := by decide +kernel
theorem dX9_swapsToRight_19 : decode cX9_swapsToRight 19 = .ok (.if_icmp .ge 63, 3) := by decide +kernel
theorem dX9_swapsToRight_22 : decode cX9_swapsToRight 22 = .ok (.aload_n 0, 1) := by decide +kernel
theorem dX9_swapsToRight_23 : decode cX9_swapsToRight 23 = .ok (.iload_n 2, 1) := by decide +kernel
theorem dX9_swapsToRight_24 : decode cX9_swapsToRight 24 = .ok (.invokevirtual 112, 3) := by decide +kernel
theorem dX9_swapsToRight_27 : decode cX9_swapsToRight 27 = .ok (.ifCond .eq 11, 3) := by decide +kernel
theorem dX9_swapsToRight_30 : decode cX9_swapsToRight 30 = .ok (.aload_n 0, 1) := by decide +kernel
theorem dX9_swapsToRight_31 : decode cX9_swapsToRight 31 = .ok (.iload_n 2, 1) := by decide +kernel
theorem dX9_swapsToRight_32 : decode cX9_swapsToRight 32 = .ok (.invokevirtual 115, 3) := by decide +kernel
theorem dX9_swapsToRight_35 : decode cX9_swapsToRight 35 = .ok (.goto 4, 3) := by decide +kernel
theorem dX9_swapsToRight_38 : decode cX9_swapsToRight 38 = .ok (.iconst (-1), 1) := by decide +kernel
theorem dX9_swapsToRight_39 : decode cX9_swapsToRight 39 = .ok (.istore_n 3, 1) := by decide +kernel
theorem dX9_swapsToRight_40 : decode cX9_swapsToRight 40 = .ok (.iload_n 3, 1) := by decide +kernel
theorem dX9_swapsToRight_41 : decode cX9_swapsToRight 41 = .ok (.iconst (-1), 1) := by decide +kernel
theorem dX9_swapsToRight_42 : decode cX9_swapsToRight 42 = .ok (.if_icmp .eq 34, 3) := by decide +kernel
theorem dX9_swapsToRight_45 : decode cX9_swapsToRight 45 = .ok (.aload_n 0, 1) := by decide +kernel
theorem dX9_swapsToRight_46 : decode cX9_swapsToRight 46 = .ok (.getfield 9, 3) := by decide +kernel
theorem dX9_swapsToRight_49 : decode cX9_swapsToRight 49 = .ok (.iload_n 3, 1) := by decide +kernel
theorem dX9_swapsToRight_50 : decode cX9_swapsToRight 50 = .ok (.iaload, 1) := by decide +kernel
theorem dX9_swapsToRight_51 : decode cX9_swapsToRight 51 = .ok (.istore 4, 2) := by decide +kernel
theorem dX9_swapsToRight_53 : decode cX9_swapsToRight 53 = .ok (.aload_n 0, 1) := by decide +kernel
theorem dX9_swapsToRight_54 : decode cX9_swapsToRight 54 = .ok (.getfield 9, 3) := by decide +kernel
theorem dX9_swapsToRight_57 : decode cX9_swapsToRight 57 = .ok (.iload_n 3, 1) := by decide +kernel
theorem dX9_swapsToRight_58 : decode cX9_swapsToRight 58 = .ok (.aload_n 0, 1) := by decide +kernel
theorem dX9_swapsToRight_59 : decode cX9_swapsToRight 59 = .ok (.getfield 9, 3) := by decide +kernel
theorem dX9_swapsToRight_62 : decode cX9_swapsToRight 62 = .ok (.iload_n 2, 1) := by decide +kernel
theorem dX9_swapsToRight_63 : decode cX9_swapsToRight 63 = .ok (.iaload, 1) := by decide +kernel
theorem dX9_swapsToRight_64 : decode cX9_swapsToRight 64 = .ok (.iastore, 1) := by decide +kernel
theorem dX9_swapsToRight_65 : decode cX9_swapsToRight 65 = .ok (.aload_n 0, 1) := by decide +kernel
theorem dX9_swapsToRight_66 : decode cX9_swapsToRight 66 = .ok (.getfield 9, 3) := by decide +kernel
theorem dX9_swapsToRight_69 : decode cX9_swapsToRight 69 = .ok (.iload_n 2, 1) := by decide +kernel
theorem dX9_swapsToRight_70 : decode cX9_swapsToRight 70 = .ok (.iload 4, 2) := by decide +kernel
theorem dX9_swapsToRight_72 : decode cX9_swapsToRight 72 = .ok (.iastore, 1) := by decide +kernel
theorem dX9_swapsToRight_73 : decode cX9_swapsToRight 73 = .ok (.iinc 1 1, 3) := by decide +kernel
theorem dX9_swapsToRight_76 : decode cX9_swapsToRight 76 = .ok (.iinc 2 1, 3) := by decide +kernel
theorem dX9_swapsToRight_79 : decode cX9_swapsToRight 79 = .ok (.goto (-71), 3) := by decide +kernel
theorem dX9_swapsToRight_82 : decode cX9_swapsToRight 82 = .ok (.iload_n 1, 1) := by decide +kernel
theorem dX9_swapsToRight_83 : decode cX9_swapsToRight 83 = .ok (.ireturn, 1) := by decide +kernel
set_option maxHeartbeats 4000000 in
set_option maxRecDepth 100000 in
theorem c_X9_swapsToRight (l : Launch) (D : va_G) (tys : List (ClassId × FieldType)) (base : Nat) (G : iv_G) (h0 : Nat) (g_h0 : Nat → Int32) (r_h0 : Nat → Nat) (a_h0 : G h0 = some (9, g_h0, r_h0)) : Met l yX9_swapsToRight (Cond.code yX9_swapsToRight cX9_swapsToRight 5 (some .int) :: iv_W0) ({ frames := 4, cells := 0, slots := 0, locals := 88 }) (iv_Pc iv_sh D classes tys base G [.ref h0]) (iv_Qi iv_sh D classes tys base (fun v G' => iv_Md [39] G G' ∧ iv_R (-2147483648) 2147483647 v)) 0 0 (iv_A base) := by
  refine iv_head (by decide) (Nat.le_of_ble_eq_true rfl) ?_
  intro p e s m args below meth c ls X hr hlocks hname hB hl
  have X := X
  have hx := X.1.1
  have hb := X.1.2.1
  have hM : iv_Md [39] G G := iv_Md.rf
  have hl : lv_has ls 5 [(0, .ref h0)] := hl
  refine lv_aload_n hx hb dX9_swapsToRight_0 rfl (lv_at hl 0 rfl) ?_
  refine iv_cVv X k_good k_mf_X9_rememberCame k_im_X9_rememberCame k_sel_X9_rememberCame k_ml_X9_99 ft_X9 hB a_h0 sh_9 (As := []) (c_X9_rememberCame l D tys base G h0 g_h0 r_h0 a_h0) ⟨rfl, rfl⟩ ⟨Nat.le_of_ble_eq_true rfl, Nat.le_of_ble_eq_true rfl⟩ ⟨Nat.le_of_ble_eq_true rfl, Nat.le_of_ble_eq_true rfl⟩ rfl rfl hl.1 (Nat.le_of_ble_eq_true rfl) dX9_swapsToRight_1 (fun G9 H locs hq hB => ?_)
  have hm := hq
  obtain ⟨G1, hG9⟩ : ∃ g, g = G9 := ⟨_, rfl⟩
  rw [← hG9] at hm hB
  have hM := hM.stp hm (by decide)
  have a_h0 := hm.at a_h0 (by decide)
  refine lv_iconst (v := 0) hx hb dX9_swapsToRight_4 (by decide) ?_
  refine lv_istore_n (lv' := [(1, .int 0), (0, .ref h0)]) hx hb dX9_swapsToRight_5 rfl hl (by decide) rfl (fun ls hl => ?_)
  refine lv_iconst (v := 0) hx hb dX9_swapsToRight_6 (by decide) ?_
  refine lv_istore_n (lv' := [(2, .int 0), (1, .int 0), (0, .ref h0)]) hx hb dX9_swapsToRight_7 rfl hl (by decide) rfl (fun ls hl => ?_)
  have L_8 : ∀ (n_8 : Nat) (G6 : iv_G) (hM : iv_Md [39] G G6) (H : Heap) (locs : List Loc) (hB : iv_B iv_sh D classes tys base G6 s.heap H locs) (g4 : Nat → Int32) (r5 : Nat → Nat) (a_h0 : G6 h0 = some (9, g4, r5)) (x2 : Int32) (i_x2 : iv_R (-2147483648) 2147483647 x2) (x3 : Int32) (i_x3 : iv_R 0 20 x3) (hn : (21 - x3.toInt).toNat < n_8) (ls : Array Slot) (hl : lv_has ls 5 [(2, .int x3), (1, .int x2), (0, .ref h0)]), W p l e ({ frames := 4, cells := 0, slots := 0, locals := 88 } : Room) s m args below meth c H locs 0 0 (MQ below (iv_Qi iv_sh D classes tys base (fun v G' => iv_Md [39] G G' ∧ iv_R (-2147483648) 2147483647 v)) args s 0 0 (iv_A base)) (F0 m 8 ls []) := by
    intro n_8
    induction n_8 with
    | zero => intro G6 hM H locs hB g4 r5 a_h0 x2 i_x2 x3 i_x3 hn ls hl; exact absurd hn (Nat.not_lt_zero _)
    | succ n_8 ih_8 =>
      intro G6 hM H locs hB g4 r5 a_h0 x2 i_x2 x3 i_x3 hn ls hl
      refine lv_iload_n hx hb dX9_swapsToRight_8 rfl (lv_at hl 0 rfl) ?_
      refine lv_aload_n hx hb dX9_swapsToRight_9 rfl (lv_at hl 2 rfl) ?_
      refine iv_getr X ft_X9 hB a_h0 sh_9 0 (by decide) rfl k_fl_X9_15 dX9_swapsToRight_10 (fun b7 g_b7 r_b7 e_b7 a_b7 => ?_)
      refine iv_getr X ft_X5 hB a_b7 sh_5 8 (by decide) rfl k_fl_X9_109 dX9_swapsToRight_13 (fun b8 g_b8 r_b8 e_b8 a_b8 => ?_)
      refine iv_geti X ft_X8 hB a_b8 sh_8 2 (by decide) rfl k_fl_X9_84 dX9_swapsToRight_16 (fun x9 e_x9 i_x9 => ?_)
      refine lv_icmp_ge (tgt := 82) hx hb dX9_swapsToRight_19 (by decide) (fun c10 => ?_) (fun c10 => ?_)
      · skip
        refine lv_iload_n hx hb dX9_swapsToRight_82 rfl (lv_at hl 1 rfl) ?_
        exact iv_iret X hr hlocks hB ⟨hM, i_x2⟩ dX9_swapsToRight_83
      · skip
        have i10_x3 : iv_R 0 19 x3 := (i_x3.cutHi (n := 19) (iv_lt_r (iv_nle c10) i_x9 (by decide)))
        have i11_x9 : iv_R 1 20 x9 := (i_x9.cutLo (n := 1) (iv_lt_l (iv_nle c10) i_x3 (by decide)))
        refine lv_aload_n hx hb dX9_swapsToRight_22 rfl (lv_at hl 2 rfl) ?_
        refine lv_iload_n hx hb dX9_swapsToRight_23 rfl (lv_at hl 0 rfl) ?_
        refine iv_cVi X k_good k_mf_X9_isWrong k_im_X9_isWrong k_sel_X9_isWrong k_ml_X9_112 ft_X9 hB a_h0 sh_9 (As := [.int x3]) (c_X9_isWrong l D tys base G6 h0 g4 r5 a_h0 x3 i10_x3) ⟨rfl, rfl⟩ ⟨Nat.le_of_ble_eq_true rfl, Nat.le_of_ble_eq_true rfl⟩ ⟨Nat.le_of_ble_eq_true rfl, Nat.le_of_ble_eq_true rfl⟩ rfl rfl hl.1 (Nat.le_of_ble_eq_true rfl) dX9_swapsToRight_24 (fun x13 G9 H locs hq hB => ?_)
        obtain ⟨rfl, i_x13⟩ := hq
        refine lv_if_eq (tgt := 38) hx hb dX9_swapsToRight_27 (by decide) (fun c14 => ?_) (fun c14 => ?_)
        · skip
          have i14_x13 : iv_R 0 0 x13 := (i_x13.cutHi (n := 0) (iv_eq_r c14 q_0).2)
          refine lv_iconst (v := (-1)) hx hb dX9_swapsToRight_38 (by decide) ?_
          refine lv_istore_n (lv' := [(3, .int (-1)), (2, .int x3), (1, .int x2), (0, .ref h0)]) hx hb dX9_swapsToRight_39 rfl hl (by decide) rfl (fun ls hl => ?_)
          refine lv_iload_n hx hb dX9_swapsToRight_40 rfl (lv_at hl 0 rfl) ?_
          refine lv_iconst (v := (-1)) hx hb dX9_swapsToRight_41 (by decide) ?_
          refine lv_icmp_eq (tgt := 76) hx hb dX9_swapsToRight_42 (by decide) (fun c16 => ?_) (fun c16 => ?_)
          · skip
            refine iv_iinc hx hb i10_x3 (lo := 1) (hi := 20) (by decide) dX9_swapsToRight_76 hl (k := 1) rfl (by decide) (fun x17 ls e_x17 i_x17 hl => ?_)
            have hl : lv_has ls 5 [(2, .int x17), (3, .int (-1)), (1, .int x2), (0, .ref h0)] := hl
            refine lv_goto (tgt := 8) hx hb dX9_swapsToRight_79 (by decide) ?_
            exact ih_8 G6 hM _ _ hB g4 r5 a_h0 x2 i_x2 x17 (i_x17.wk (by decide)) (iv_mup (c := 1) i_x3 (by decide) (by decide) (by omega) hn) _ (lv_sub hl [0, 2, 3] rfl)
          · skip
            exact absurd rfl c16
        · skip
          have i17_x13 : iv_R 1 1 x13 := iv_ne_lo c14 i_x13 q_0 (by decide)
          refine lv_aload_n hx hb dX9_swapsToRight_30 rfl (lv_at hl 2 rfl) ?_
          refine lv_iload_n hx hb dX9_swapsToRight_31 rfl (lv_at hl 0 rfl) ?_
          refine iv_cVi X k_good k_mf_X9_partnerOf k_im_X9_partnerOf k_sel_X9_partnerOf k_ml_X9_115 ft_X9 hB a_h0 sh_9 (As := [.int x3]) (c_X9_partnerOf l D tys base G6 h0 g4 r5 a_h0 x3 i10_x3) ⟨rfl, rfl⟩ ⟨Nat.le_of_ble_eq_true rfl, Nat.le_of_ble_eq_true rfl⟩ ⟨Nat.le_of_ble_eq_true rfl, Nat.le_of_ble_eq_true rfl⟩ rfl rfl hl.1 (Nat.le_of_ble_eq_true rfl) dX9_swapsToRight_32 (fun x19 G9 H locs hq hB => ?_)
          obtain ⟨rfl, i_x19⟩ := hq
          refine lv_goto (tgt := 39) hx hb dX9_swapsToRight_35 (by decide) ?_
          refine lv_istore_n (lv' := [(3, .int x19), (2, .int x3), (1, .int x2), (0, .ref h0)]) hx hb dX9_swapsToRight_39 rfl hl (by decide) rfl (fun ls hl => ?_)
          refine lv_iload_n hx hb dX9_swapsToRight_40 rfl (lv_at hl 0 rfl) ?_
          refine lv_iconst (v := (-1)) hx hb dX9_swapsToRight_41 (by decide) ?_
          refine lv_icmp_eq (tgt := 76) hx hb dX9_swapsToRight_42 (by decide) (fun c20 => ?_) (fun c20 => ?_)
          · skip
            have i20_x19 : iv_R (-1) (-1) x19 := (i_x19.cutHi (n := (-1)) (iv_eq_r c20 q_n1).2)
            refine iv_iinc hx hb i10_x3 (lo := 1) (hi := 20) (by decide) dX9_swapsToRight_76 hl (k := 1) rfl (by decide) (fun x22 ls e_x22 i_x22 hl => ?_)
            have hl : lv_has ls 5 [(2, .int x22), (3, .int x19), (1, .int x2), (0, .ref h0)] := hl
            refine lv_goto (tgt := 8) hx hb dX9_swapsToRight_79 (by decide) ?_
            exact ih_8 G6 hM _ _ hB g4 r5 a_h0 x2 i_x2 x22 (i_x22.wk (by decide)) (iv_mup (c := 1) i_x3 (by decide) (by decide) (by omega) hn) _ (lv_sub hl [0, 2, 3] rfl)
          · skip
            have i22_x19 : iv_R 0 19 x19 := iv_ne_lo c20 i_x19 q_n1 (by decide)
            refine lv_aload_n hx hb dX9_swapsToRight_45 rfl (lv_at hl 3 rfl) ?_
            refine iv_getr X ft_X9 hB a_h0 sh_9 1 (by decide) rfl k_fl_X9_9 dX9_swapsToRight_46 (fun b24 g_b24 r_b24 e_b24 a_b24 => ?_)
            refine lv_iload_n hx hb dX9_swapsToRight_49 rfl (lv_at hl 0 rfl) ?_
            refine iv_ald X hB a_b24 sh_39 (iv_in i22_x19 (by decide)) dX9_swapsToRight_50 (fun x25 e_x25 i_x25 => ?_)
            refine lv_istore (lv' := [(4, .int x25), (3, .int x19), (2, .int x3), (1, .int x2), (0, .ref h0)]) hx hb dX9_swapsToRight_51 hl (by decide) rfl (fun ls hl => ?_)
            refine lv_aload_n hx hb dX9_swapsToRight_53 rfl (lv_at hl 4 rfl) ?_
            refine iv_getr0 X ft_X9 hB a_h0 sh_9 1 (by decide) rfl k_fl_X9_9 dX9_swapsToRight_54 e_b24 ?_
            refine lv_iload_n hx hb dX9_swapsToRight_57 rfl (lv_at hl 1 rfl) ?_
            refine lv_aload_n hx hb dX9_swapsToRight_58 rfl (lv_at hl 4 rfl) ?_
            refine iv_getr0 X ft_X9 hB a_h0 sh_9 1 (by decide) rfl k_fl_X9_9 dX9_swapsToRight_59 e_b24 ?_
            refine lv_iload_n hx hb dX9_swapsToRight_62 rfl (lv_at hl 2 rfl) ?_
            refine iv_ald X hB a_b24 sh_39 (iv_in i10_x3 (by decide)) dX9_swapsToRight_63 (fun x26 e_x26 i_x26 => ?_)
            refine iv_ast X hB a_b24 sh_39 (iv_in i22_x19 (by decide)) i_x26 dX9_swapsToRight_64 (fun H locs hB => ?_)
            have hm := iv_Md.ast (j := x19.toNatClampNeg) (x := x26) a_b24 rfl (by decide)
            have h9 := iv_up_eq (G := G6) (a := b24) (k := (39, upd g_b24 x19.toNatClampNeg x26, r_b24))
            generalize iv_up G6 b24 _ = G27 at hB hm h9
            have hM := hM.stp hm (by decide)
            have a_h0 := hm.at a_h0 (by decide)
            refine lv_aload_n hx hb dX9_swapsToRight_65 rfl (lv_at hl 4 rfl) ?_
            refine iv_getr X ft_X9 hB a_h0 sh_9 1 (by decide) rfl k_fl_X9_9 dX9_swapsToRight_66 (fun b29 g_b29 r_b29 e_b29 a_b29 => ?_)
            refine lv_iload_n hx hb dX9_swapsToRight_69 rfl (lv_at hl 2 rfl) ?_
            refine lv_iload hx hb dX9_swapsToRight_70 (lv_at hl 0 rfl) ?_
            refine iv_ast X hB a_b29 sh_39 (iv_in i10_x3 (by decide)) i_x25 dX9_swapsToRight_72 (fun H locs hB => ?_)
            have hm := iv_Md.ast (j := x3.toNatClampNeg) (x := x25) a_b29 rfl (by decide)
            have h9 := iv_up_eq (G := G27) (a := b29) (k := (39, upd g_b29 x3.toNatClampNeg x25, r_b29))
            generalize iv_up G27 b29 _ = G30 at hB hm h9
            have hM := hM.stp hm (by decide)
            have a_h0 := hm.at a_h0 (by decide)
            obtain ⟨x32, e_x32⟩ : ∃ y : Int32, y = x2 + Int32.ofInt 1 := ⟨_, rfl⟩
            refine lv_iinc (v := x32) (lv' := [(1, .int x32), (4, .int x25), (3, .int x19), (2, .int x3), (0, .ref h0)]) hx hb dX9_swapsToRight_73 hl (k := 3) rfl e_x32.symm (by decide) rfl (fun ls hl => ?_)
            have i_x32 := iv_R.all x32
            refine iv_iinc hx hb i10_x3 (lo := 1) (hi := 20) (by decide) dX9_swapsToRight_76 hl (k := 3) rfl (by decide) (fun x33 ls e_x33 i_x33 hl => ?_)
            have hl : lv_has ls 5 [(2, .int x33), (1, .int x32), (4, .int x25), (3, .int x19), (0, .ref h0)] := hl
            refine lv_goto (tgt := 8) hx hb dX9_swapsToRight_79 (by decide) ?_
            exact ih_8 G30 hM _ _ hB g4 r5 a_h0 x32 i_x32 x33 (i_x33.wk (by decide)) (iv_mup (c := 1) i_x3 (by decide) (by decide) (by omega) hn) _ (lv_sub hl [0, 1, 4] rfl)
  exact L_8 _ G1 hM _ _ hB g_h0 r_h0 a_h0 0 (q_0.wk (by decide)) 0 (q_0.wk (by decide)) (Nat.lt_succ_self _) _ (lv_sub hl [0, 1, 2] rfl)
theorem dX9_wrongChildren_0 : decode cX9_wrongChildren 0 = .ok (.iconst 0, 1) := by decide +kernel
theorem dX9_wrongChildren_1 : decode cX9_wrongChildren 1 = .ok (.istore_n 1, 1) := by decide +kernel
theorem dX9_wrongChildren_2 : decode cX9_wrongChildren 2 = .ok (.iconst 0, 1) := by decide +kernel
theorem dX9_wrongChildren_3 : decode cX9_wrongChildren 3 = .ok (.istore_n 2, 1) := by decide +kernel
theorem dX9_wrongChildren_4 : decode cX9_wrongChildren 4 = .ok (.iload_n 2, 1) := by decide +kernel
theorem dX9_wrongChildren_5 : decode cX9_wrongChildren 5 = .ok (.aload_n 0, 1) := by decide +kernel
theorem dX9_wrongChildren_6 : decode cX9_wrongChildren 6 = .ok (.getfield 15, 3) := by decide +kernel
theorem dX9_wrongChildren_9 : decode cX9_wrongChildren 9 = .ok (.getfield 109, 3) := by decide +kernel
theorem dX9_wrongChildren_12 : decode cX9_wrongChildren 12 = .ok (.getfield 84, 3) := by decide +kernel
theorem dX9_wrongChildren_15 : decode cX9_wrongChildren 15 = .ok (.if_icmp .ge 23, 3) := by decide +kernel
theorem dX9_wrongChildren_18 : decode cX9_wrongChildren 18 = .ok (.aload_n 0, 1) := by decide +kernel
theorem dX9_wrongChildren_19 : decode cX9_wrongChildren 19 = .ok (.iload_n 2, 1) := by decide +kernel
theorem dX9_wrongChildren_20 : decode cX9_wrongChildren 20 = .ok (.invokevirtual 112, 3) := by decide +kernel
theorem dX9_wrongChildren_23 : decode cX9_wrongChildren 23 = .ok (.ifCond .eq 9, 3) := by decide +kernel
theorem dX9_wrongChildren_26 : decode cX9_wrongChildren 26 = .ok (.iload_n 1, 1) := by decide +kernel
theorem dX9_wrongChildren_27 : decode cX9_wrongChildren 27 = .ok (.iconst 1, 1) := by decide +kernel
theorem dX9_wrongChildren_28 : decode cX9_wrongChildren 28 = .ok (.iload_n 2, 1) := by decide +kernel
theorem dX9_wrongChildren_29 : decode cX9_wrongChildren 29 = .ok (.ishl, 1) := by decide +kernel
theorem dX9_wrongChildren_30 : decode cX9_wrongChildren 30 = .ok (.ior, 1) := by decide +kernel
theorem dX9_wrongChildren_31 : decode cX9_wrongChildren 31 = .ok (.istore_n 1, 1) := by decide +kernel
theorem dX9_wrongChildren_32 : decode cX9_wrongChildren 32 = .ok (.iinc 2 1, 3) := by decide +kernel
theorem dX9_wrongChildren_35 : decode cX9_wrongChildren 35 = .ok (.goto (-31), 3) := by decide +kernel
theorem dX9_wrongChildren_38 : decode cX9_wrongChildren 38 = .ok (.iload_n 1, 1) := by decide +kernel
theorem dX9_wrongChildren_39 : decode cX9_wrongChildren 39 = .ok (.ireturn, 1) := by decide +kernel
set_option maxHeartbeats 4000000 in
set_option maxRecDepth 100000 in
theorem c_X9_wrongChildren (l : Launch) (D : va_G) (tys : List (ClassId × FieldType)) (base : Nat) (G : iv_G) (h0 : Nat) (g_h0 : Nat → Int32) (r_h0 : Nat → Nat) (a_h0 : G h0 = some (9, g_h0, r_h0)) : Met l yX9_wrongChildren (Cond.code yX9_wrongChildren cX9_wrongChildren 3 (some .int) :: iv_W0) ({ frames := 3, cells := 0, slots := 0, locals := 65 }) (iv_Pc iv_sh D classes tys base G [.ref h0]) (iv_Qi iv_sh D classes tys base (fun v G' => G = G' ∧ iv_R (-2147483648) 2147483647 v)) 0 0 (iv_A base) := by
  refine iv_head (by decide) (Nat.le_of_ble_eq_true rfl) ?_
  intro p e s m args below meth c ls X hr hlocks hname hB hl
  have X := X
  have hx := X.1.1
  have hb := X.1.2.1
  have hl : lv_has ls 3 [(0, .ref h0)] := hl
  refine lv_iconst (v := 0) hx hb dX9_wrongChildren_0 (by decide) ?_
  refine lv_istore_n (lv' := [(1, .int 0), (0, .ref h0)]) hx hb dX9_wrongChildren_1 rfl hl (by decide) rfl (fun ls hl => ?_)
  refine lv_iconst (v := 0) hx hb dX9_wrongChildren_2 (by decide) ?_
  refine lv_istore_n (lv' := [(2, .int 0), (1, .int 0), (0, .ref h0)]) hx hb dX9_wrongChildren_3 rfl hl (by decide) rfl (fun ls hl => ?_)
  have L_4 : ∀ (n_4 : Nat) (H : Heap) (locs : List Loc) (hB : iv_B iv_sh D classes tys base G s.heap H locs) (x1 : Int32) (i_x1 : iv_R (-2147483648) 2147483647 x1) (x2 : Int32) (i_x2 : iv_R 0 20 x2) (hn : (21 - x2.toInt).toNat < n_4) (ls : Array Slot) (hl : lv_has ls 3 [(2, .int x2), (1, .int x1), (0, .ref h0)]), W p l e ({ frames := 3, cells := 0, slots := 0, locals := 65 } : Room) s m args below meth c H locs 0 0 (MQ below (iv_Qi iv_sh D classes tys base (fun v G' => G = G' ∧ iv_R (-2147483648) 2147483647 v)) args s 0 0 (iv_A base)) (F0 m 4 ls []) := by
    intro n_4
    induction n_4 with
    | zero => intro H locs hB x1 i_x1 x2 i_x2 hn ls hl; exact absurd hn (Nat.not_lt_zero _)
    | succ n_4 ih_4 =>
      intro H locs hB x1 i_x1 x2 i_x2 hn ls hl
      refine lv_iload_n hx hb dX9_wrongChildren_4 rfl (lv_at hl 0 rfl) ?_
      refine lv_aload_n hx hb dX9_wrongChildren_5 rfl (lv_at hl 2 rfl) ?_
      refine iv_getr X ft_X9 hB a_h0 sh_9 0 (by decide) rfl k_fl_X9_15 dX9_wrongChildren_6 (fun b3 g_b3 r_b3 e_b3 a_b3 => ?_)
      refine iv_getr X ft_X5 hB a_b3 sh_5 8 (by decide) rfl k_fl_X9_109 dX9_wrongChildren_9 (fun b4 g_b4 r_b4 e_b4 a_b4 => ?_)
      refine iv_geti X ft_X8 hB a_b4 sh_8 2 (by decide) rfl k_fl_X9_84 dX9_wrongChildren_12 (fun x5 e_x5 i_x5 => ?_)
      refine lv_icmp_ge (tgt := 38) hx hb dX9_wrongChildren_15 (by decide) (fun c6 => ?_) (fun c6 => ?_)
      · skip
        refine lv_iload_n hx hb dX9_wrongChildren_38 rfl (lv_at hl 1 rfl) ?_
        exact iv_iret X hr hlocks hB ⟨rfl, i_x1⟩ dX9_wrongChildren_39
      · skip
        have i6_x2 : iv_R 0 19 x2 := (i_x2.cutHi (n := 19) (iv_lt_r (iv_nle c6) i_x5 (by decide)))
        have i7_x5 : iv_R 1 20 x5 := (i_x5.cutLo (n := 1) (iv_lt_l (iv_nle c6) i_x2 (by decide)))
        refine lv_aload_n hx hb dX9_wrongChildren_18 rfl (lv_at hl 2 rfl) ?_
        refine lv_iload_n hx hb dX9_wrongChildren_19 rfl (lv_at hl 0 rfl) ?_
        refine iv_cVi X k_good k_mf_X9_isWrong k_im_X9_isWrong k_sel_X9_isWrong k_ml_X9_112 ft_X9 hB a_h0 sh_9 (As := [.int x2]) (c_X9_isWrong l D tys base G h0 g_h0 r_h0 a_h0 x2 i6_x2) ⟨rfl, rfl⟩ ⟨Nat.le_of_ble_eq_true rfl, Nat.le_of_ble_eq_true rfl⟩ ⟨Nat.le_of_ble_eq_true rfl, Nat.le_of_ble_eq_true rfl⟩ rfl rfl hl.1 (Nat.le_of_ble_eq_true rfl) dX9_wrongChildren_20 (fun x9 G9 H locs hq hB => ?_)
        obtain ⟨rfl, i_x9⟩ := hq
        refine lv_if_eq (tgt := 32) hx hb dX9_wrongChildren_23 (by decide) (fun c10 => ?_) (fun c10 => ?_)
        · skip
          have i10_x9 : iv_R 0 0 x9 := (i_x9.cutHi (n := 0) (iv_eq_r c10 q_0).2)
          refine iv_iinc hx hb i6_x2 (lo := 1) (hi := 20) (by decide) dX9_wrongChildren_32 hl (k := 0) rfl (by decide) (fun x12 ls e_x12 i_x12 hl => ?_)
          have hl : lv_has ls 3 [(2, .int x12), (1, .int x1), (0, .ref h0)] := hl
          refine lv_goto (tgt := 4) hx hb dX9_wrongChildren_35 (by decide) ?_
          exact ih_4 _ _ hB x1 i_x1 x12 (i_x12.wk (by decide)) (iv_mup (c := 1) i_x2 (by decide) (by decide) (by omega) hn) _ (lv_sub hl [0, 1, 2] rfl)
        · skip
          have i12_x9 : iv_R 1 1 x9 := iv_ne_lo c10 i_x9 q_0 (by decide)
          refine lv_iload_n hx hb dX9_wrongChildren_26 rfl (lv_at hl 1 rfl) ?_
          refine lv_iconst (v := 1) hx hb dX9_wrongChildren_27 (by decide) ?_
          refine lv_iload_n hx hb dX9_wrongChildren_28 rfl (lv_at hl 0 rfl) ?_
          refine lv_ishl hx hb dX9_wrongChildren_29 ?_
          refine lv_topi (fun x14 e_x14 => ?_)
          have i_x14 := iv_R.all x14
          refine lv_ior hx hb dX9_wrongChildren_30 ?_
          refine lv_topi (fun x15 e_x15 => ?_)
          have i_x15 := iv_R.all x15
          refine lv_istore_n (lv' := [(1, .int x15), (2, .int x2), (0, .ref h0)]) hx hb dX9_wrongChildren_31 rfl hl (by decide) rfl (fun ls hl => ?_)
          refine iv_iinc hx hb i6_x2 (lo := 1) (hi := 20) (by decide) dX9_wrongChildren_32 hl (k := 1) rfl (by decide) (fun x16 ls e_x16 i_x16 hl => ?_)
          have hl : lv_has ls 3 [(2, .int x16), (1, .int x15), (0, .ref h0)] := hl
          refine lv_goto (tgt := 4) hx hb dX9_wrongChildren_35 (by decide) ?_
          exact ih_4 _ _ hB x15 i_x15 x16 (i_x16.wk (by decide)) (iv_mup (c := 1) i_x2 (by decide) (by decide) (by omega) hn) _ (lv_sub hl [0, 1, 2] rfl)
  exact L_4 _ _ _ hB 0 (q_0.wk (by decide)) 0 (q_0.wk (by decide)) (Nat.lt_succ_self _) _ (lv_sub hl [0, 1, 2] rfl)
theorem dX9_rightThen_0 : decode cX9_rightThen 0 = .ok (.aload_n 0, 1) := by decide +kernel
theorem dX9_rightThen_1 : decode cX9_rightThen 1 = .ok (.invokevirtual 106, 3) := by decide +kernel
theorem dX9_rightThen_4 : decode cX9_rightThen 4 = .ok (.pop, 1) := by decide +kernel
theorem dX9_rightThen_5 : decode cX9_rightThen 5 = .ok (.aload_n 0, 1) := by decide +kernel
theorem dX9_rightThen_6 : decode cX9_rightThen 6 = .ok (.getfield 15, 3) := by decide +kernel
theorem dX9_rightThen_9 : decode cX9_rightThen 9 = .ok (.getfield 109, 3) := by decide +kernel
theorem dX9_rightThen_12 : decode cX9_rightThen 12 = .ok (.getfield 84, 3) := by decide +kernel
theorem dX9_rightThen_15 : decode cX9_rightThen 15 = .ok (.aload_n 0, 1) := by decide +kernel
theorem dX9_rightThen_16 : decode cX9_rightThen 16 = .ok (.invokevirtual 102, 3) := by decide +kernel
theorem dX9_rightThen_19 : decode cX9_rightThen 19 = .ok (.invokestatic 40, 3) := by decide +kernel
theorem dX9_rightThen_22 : decode cX9_rightThen 22 = .ok (.isub, 1) := by decide +kernel
theorem dX9_rightThen_23 : decode cX9_rightThen 23 = .ok (.ireturn, 1) := by decide +kernel
set_option maxHeartbeats 4000000 in
set_option maxRecDepth 100000 in
theorem c_X9_rightThen (l : Launch) (D : va_G) (tys : List (ClassId × FieldType)) (base : Nat) (G : iv_G) (h0 : Nat) (g_h0 : Nat → Int32) (r_h0 : Nat → Nat) (a_h0 : G h0 = some (9, g_h0, r_h0)) : Met l yX9_rightThen (Cond.code yX9_rightThen cX9_rightThen 1 (some .int) :: iv_W0) ({ frames := 5, cells := 0, slots := 0, locals := 112 }) (iv_Pc iv_sh D classes tys base G [.ref h0]) (iv_Qi iv_sh D classes tys base (fun v G' => iv_Md [39] G G' ∧ iv_R (-63) 20 v)) 0 0 (iv_A base) := by
  refine iv_head (by decide) (Nat.le_of_ble_eq_true rfl) ?_
  intro p e s m args below meth c ls X hr hlocks hname hB hl
  have X := X
  have hx := X.1.1
  have hb := X.1.2.1
  have hM : iv_Md [39] G G := iv_Md.rf
  have hl : lv_has ls 1 [(0, .ref h0)] := hl
  refine lv_aload_n hx hb dX9_rightThen_0 rfl (lv_at hl 0 rfl) ?_
  refine iv_cVi X k_good k_mf_X9_swapsToRight k_im_X9_swapsToRight k_sel_X9_swapsToRight k_ml_X9_106 ft_X9 hB a_h0 sh_9 (As := []) (c_X9_swapsToRight l D tys base G h0 g_h0 r_h0 a_h0) ⟨rfl, rfl⟩ ⟨Nat.le_of_ble_eq_true rfl, Nat.le_of_ble_eq_true rfl⟩ ⟨Nat.le_of_ble_eq_true rfl, Nat.le_of_ble_eq_true rfl⟩ rfl rfl hl.1 (Nat.le_of_ble_eq_true rfl) dX9_rightThen_1 (fun x1 G9 H locs hq hB => ?_)
  obtain ⟨hm, i_x1⟩ := hq
  obtain ⟨G2, hG9⟩ : ∃ g, g = G9 := ⟨_, rfl⟩
  rw [← hG9] at hm hB
  have hM := hM.stp hm (by decide)
  have a_h0 := hm.at a_h0 (by decide)
  refine lv_pop hx hb dX9_rightThen_4 rfl ?_
  refine lv_aload_n hx hb dX9_rightThen_5 rfl (lv_at hl 0 rfl) ?_
  refine iv_getr X ft_X9 hB a_h0 sh_9 0 (by decide) rfl k_fl_X9_15 dX9_rightThen_6 (fun b3 g_b3 r_b3 e_b3 a_b3 => ?_)
  refine iv_getr X ft_X5 hB a_b3 sh_5 8 (by decide) rfl k_fl_X9_109 dX9_rightThen_9 (fun b4 g_b4 r_b4 e_b4 a_b4 => ?_)
  refine iv_geti X ft_X8 hB a_b4 sh_8 2 (by decide) rfl k_fl_X9_84 dX9_rightThen_12 (fun x5 e_x5 i_x5 => ?_)
  refine lv_aload_n hx hb dX9_rightThen_15 rfl (lv_at hl 0 rfl) ?_
  refine iv_cVi X k_good k_mf_X9_wrongChildren k_im_X9_wrongChildren k_sel_X9_wrongChildren k_ml_X9_102 ft_X9 hB a_h0 sh_9 (As := []) (c_X9_wrongChildren l D tys base G2 h0 g_h0 r_h0 a_h0) ⟨rfl, rfl⟩ ⟨Nat.le_of_ble_eq_true rfl, Nat.le_of_ble_eq_true rfl⟩ ⟨Nat.le_of_ble_eq_true rfl, Nat.le_of_ble_eq_true rfl⟩ rfl rfl hl.1 (Nat.le_of_ble_eq_true rfl) dX9_rightThen_16 (fun x6 G9 H locs hq hB => ?_)
  obtain ⟨rfl, i_x6⟩ := hq
  refine iv_cSi X k_good k_mf_J6_bitCount_0f7a4 k_st_J6_bitCount_0f7a4 k_ml_X9_40 hB (As := [.int x6]) (c_J6_bitCount_0f7a4 l D tys base G2 x6 i_x6) ⟨rfl, rfl⟩ ⟨Nat.le_of_ble_eq_true rfl, Nat.le_of_ble_eq_true rfl⟩ ⟨Nat.le_of_ble_eq_true rfl, Nat.le_of_ble_eq_true rfl⟩ rfl rfl hl.1 (Nat.le_of_ble_eq_true rfl) dX9_rightThen_19 (fun x7 G9 H locs hq hB => ?_)
  obtain ⟨rfl, i_x7⟩ := hq
  refine iv_isub hx hb i_x5 i_x7 (lo := (-63)) (hi := 20) (by decide) dX9_rightThen_22 (fun x8 e_x8 i_x8 => ?_)
  exact iv_iret X hr hlocks hB ⟨hM, i_x8⟩ dX9_rightThen_23
theorem dX9_wrongNow_0 : decode cX9_wrongNow 0 = .ok (.aload_n 0, 1) := by decide +kernel
theorem dX9_wrongNow_1 : decode cX9_wrongNow 1 = .ok (.invokevirtual 99, 3) := by decide +kernel
theorem dX9_wrongNow_4 : decode cX9_wrongNow 4 = .ok (.aload_n 0, 1) := by decide +kernel
theorem dX9_wrongNow_5 : decode cX9_wrongNow 5 = .ok (.invokevirtual 102, 3) := by decide +kernel
theorem dX9_wrongNow_8 : decode cX9_wrongNow 8 = .ok (.ireturn, 1) := by decide +kernel
set_option maxHeartbeats 4000000 in
set_option maxRecDepth 100000 in
theorem c_X9_wrongNow (l : Launch) (D : va_G) (tys : List (ClassId × FieldType)) (base : Nat) (G : iv_G) (h0 : Nat) (g_h0 : Nat → Int32) (r_h0 : Nat → Nat) (a_h0 : G h0 = some (9, g_h0, r_h0)) : Met l yX9_wrongNow (Cond.code yX9_wrongNow cX9_wrongNow 1 (some .int) :: iv_W0) ({ frames := 4, cells := 0, slots := 0, locals := 87 }) (iv_Pc iv_sh D classes tys base G [.ref h0]) (iv_Qi iv_sh D classes tys base (fun v G' => iv_Md [39] G G' ∧ iv_R (-2147483648) 2147483647 v)) 0 0 (iv_A base) := by
  refine iv_head (by decide) (Nat.le_of_ble_eq_true rfl) ?_
  intro p e s m args below meth c ls X hr hlocks hname hB hl
  have X := X
  have hx := X.1.1
  have hb := X.1.2.1
  have hM : iv_Md [39] G G := iv_Md.rf
  have hl : lv_has ls 1 [(0, .ref h0)] := hl
  refine lv_aload_n hx hb dX9_wrongNow_0 rfl (lv_at hl 0 rfl) ?_
  refine iv_cVv X k_good k_mf_X9_rememberCame k_im_X9_rememberCame k_sel_X9_rememberCame k_ml_X9_99 ft_X9 hB a_h0 sh_9 (As := []) (c_X9_rememberCame l D tys base G h0 g_h0 r_h0 a_h0) ⟨rfl, rfl⟩ ⟨Nat.le_of_ble_eq_true rfl, Nat.le_of_ble_eq_true rfl⟩ ⟨Nat.le_of_ble_eq_true rfl, Nat.le_of_ble_eq_true rfl⟩ rfl rfl hl.1 (Nat.le_of_ble_eq_true rfl) dX9_wrongNow_1 (fun G9 H locs hq hB => ?_)
  have hm := hq
  obtain ⟨G1, hG9⟩ : ∃ g, g = G9 := ⟨_, rfl⟩
  rw [← hG9] at hm hB
  have hM := hM.stp hm (by decide)
  have a_h0 := hm.at a_h0 (by decide)
  refine lv_aload_n hx hb dX9_wrongNow_4 rfl (lv_at hl 0 rfl) ?_
  refine iv_cVi X k_good k_mf_X9_wrongChildren k_im_X9_wrongChildren k_sel_X9_wrongChildren k_ml_X9_102 ft_X9 hB a_h0 sh_9 (As := []) (c_X9_wrongChildren l D tys base G1 h0 g_h0 r_h0 a_h0) ⟨rfl, rfl⟩ ⟨Nat.le_of_ble_eq_true rfl, Nat.le_of_ble_eq_true rfl⟩ ⟨Nat.le_of_ble_eq_true rfl, Nat.le_of_ble_eq_true rfl⟩ rfl rfl hl.1 (Nat.le_of_ble_eq_true rfl) dX9_wrongNow_5 (fun x2 G9 H locs hq hB => ?_)
  obtain ⟨rfl, i_x2⟩ := hq
  exact iv_iret X hr hlocks hB ⟨hM, i_x2⟩ dX9_wrongNow_8
theorem dX11_right_0 : decode cX11_right 0 = .ok (.iload_n 1, 1) := by decide +kernel
theorem dX11_right_1 : decode cX11_right 1 = .ok (.tableswitch 51 0 2 #[27, 35, 43], 27) := by decide +kernel
theorem dX11_right_28 : decode cX11_right 28 = .ok (.aload_n 0, 1) := by decide +kernel
theorem dX11_right_29 : decode cX11_right 29 = .ok (.getfield 58, 3) := by decide +kernel
theorem dX11_right_32 : decode cX11_right 32 = .ok (.invokevirtual 337, 3) := by decide +kernel
theorem dX11_right_35 : decode cX11_right 35 = .ok (.ireturn, 1) := by decide +kernel
theorem dX11_right_36 : decode cX11_right 36 = .ok (.aload_n 0, 1) := by decide +kernel
theorem dX11_right_37 : decode cX11_right 37 = .ok (.getfield 58, 3) := by decide +kernel
theorem dX11_right_40 : decode cX11_right 40 = .ok (.invokevirtual 340, 3) := by decide +kernel
theorem dX11_right_43 : decode cX11_right 43 = .ok (.ireturn, 1) := by decide +kernel
theorem dX11_right_44 : decode cX11_right 44 = .ok (.aload_n 0, 1) := by decide +kernel
theorem dX11_right_45 : decode cX11_right 45 = .ok (.getfield 58, 3) := by decide +kernel
theorem dX11_right_48 : decode cX11_right 48 = .ok (.invokevirtual 343, 3) := by decide +kernel
theorem dX11_right_51 : decode cX11_right 51 = .ok (.ireturn, 1) := by decide +kernel
theorem dX11_right_52 : decode cX11_right 52 = .ok (.iconst (-1), 1) := by decide +kernel
theorem dX11_right_53 : decode cX11_right 53 = .ok (.ireturn, 1) := by decide +kernel
set_option maxHeartbeats 4000000 in
set_option maxRecDepth 100000 in
theorem c_X11_right (l : Launch) (D : va_G) (tys : List (ClassId × FieldType)) (base : Nat) (G : iv_G) (h0 : Nat) (g_h0 : Nat → Int32) (r_h0 : Nat → Nat) (a_h0 : G h0 = some (11, g_h0, r_h0)) (x_0 : Int32) (i_x_0 : iv_R (-2147483648) 2147483647 x_0) : Met l yX11_right (Cond.code yX11_right cX11_right 2 (some .int) :: iv_W0) ({ frames := 6, cells := 0, slots := 0, locals := 132 }) (iv_Pc iv_sh D classes tys base G [.ref h0, .int x_0]) (iv_Qi iv_sh D classes tys base (fun v G' => iv_Md [39] G G' ∧ iv_R (-2147483648) 2147483647 v)) 0 0 (iv_A base) := by
  refine iv_head (by decide) (Nat.le_of_ble_eq_true rfl) ?_
  intro p e s m args below meth c ls X hr hlocks hname hB hl
  have X := X
  have hx := X.1.1
  have hb := X.1.2.1
  have hM : iv_Md [39] G G := iv_Md.rf
  have hl : lv_has ls 2 [(0, .ref h0), (1, .int x_0)] := hl
  refine lv_iload_n hx hb dX11_right_0 rfl (lv_at hl 1 rfl) ?_
  by_cases w1 : x_0.toInt = 0
  · skip
    refine lv_tableIn (tgt := 28) hx hb dX11_right_1 (by omega) (by omega) (by rw [w1]; rfl) (by decide) ?_
    have w1i : iv_R 0 0 x_0 := iv_lit w1
    refine lv_aload_n hx hb dX11_right_28 rfl (lv_at hl 0 rfl) ?_
    refine iv_getr X ft_X11 hB a_h0 sh_11 9 (by decide) rfl k_fl_X11_58 dX11_right_29 (fun b2 g_b2 r_b2 e_b2 a_b2 => ?_)
    refine iv_cVi X k_good k_mf_X9_wrongNow k_im_X9_wrongNow k_sel_X9_wrongNow k_ml_X11_337 ft_X9 hB a_b2 sh_9 (As := []) (c_X9_wrongNow l D tys base G b2 g_b2 r_b2 a_b2) ⟨rfl, rfl⟩ ⟨Nat.le_of_ble_eq_true rfl, Nat.le_of_ble_eq_true rfl⟩ ⟨Nat.le_of_ble_eq_true rfl, Nat.le_of_ble_eq_true rfl⟩ rfl rfl hl.1 (Nat.le_of_ble_eq_true rfl) dX11_right_32 (fun x3 G9 H locs hq hB => ?_)
    obtain ⟨hm, i_x3⟩ := hq
    obtain ⟨G4, hG9⟩ : ∃ g, g = G9 := ⟨_, rfl⟩
    rw [← hG9] at hm hB
    have hM := hM.stp hm (by decide)
    have a_h0 := hm.at a_h0 (by decide)
    exact iv_iret X hr hlocks hB ⟨hM, i_x3⟩ dX11_right_35
  skip
  by_cases w5 : x_0.toInt = 1
  · skip
    refine lv_tableIn (tgt := 36) hx hb dX11_right_1 (by omega) (by omega) (by rw [w5]; rfl) (by decide) ?_
    have w5i : iv_R 1 1 x_0 := iv_lit w5
    refine lv_aload_n hx hb dX11_right_36 rfl (lv_at hl 0 rfl) ?_
    refine iv_getr X ft_X11 hB a_h0 sh_11 9 (by decide) rfl k_fl_X11_58 dX11_right_37 (fun b6 g_b6 r_b6 e_b6 a_b6 => ?_)
    refine iv_cVi X k_good k_mf_X9_swapsToRight k_im_X9_swapsToRight k_sel_X9_swapsToRight k_ml_X11_340 ft_X9 hB a_b6 sh_9 (As := []) (c_X9_swapsToRight l D tys base G b6 g_b6 r_b6 a_b6) ⟨rfl, rfl⟩ ⟨Nat.le_of_ble_eq_true rfl, Nat.le_of_ble_eq_true rfl⟩ ⟨Nat.le_of_ble_eq_true rfl, Nat.le_of_ble_eq_true rfl⟩ rfl rfl hl.1 (Nat.le_of_ble_eq_true rfl) dX11_right_40 (fun x7 G9 H locs hq hB => ?_)
    obtain ⟨hm, i_x7⟩ := hq
    obtain ⟨G8, hG9⟩ : ∃ g, g = G9 := ⟨_, rfl⟩
    rw [← hG9] at hm hB
    have hM := hM.stp hm (by decide)
    have a_h0 := hm.at a_h0 (by decide)
    exact iv_iret X hr hlocks hB ⟨hM, i_x7⟩ dX11_right_43
  skip
  by_cases w9 : x_0.toInt = 2
  · skip
    refine lv_tableIn (tgt := 44) hx hb dX11_right_1 (by omega) (by omega) (by rw [w9]; rfl) (by decide) ?_
    have w9i : iv_R 2 2 x_0 := iv_lit w9
    refine lv_aload_n hx hb dX11_right_44 rfl (lv_at hl 0 rfl) ?_
    refine iv_getr X ft_X11 hB a_h0 sh_11 9 (by decide) rfl k_fl_X11_58 dX11_right_45 (fun b10 g_b10 r_b10 e_b10 a_b10 => ?_)
    refine iv_cVi X k_good k_mf_X9_rightThen k_im_X9_rightThen k_sel_X9_rightThen k_ml_X11_343 ft_X9 hB a_b10 sh_9 (As := []) (c_X9_rightThen l D tys base G b10 g_b10 r_b10 a_b10) ⟨rfl, rfl⟩ ⟨Nat.le_of_ble_eq_true rfl, Nat.le_of_ble_eq_true rfl⟩ ⟨Nat.le_of_ble_eq_true rfl, Nat.le_of_ble_eq_true rfl⟩ rfl rfl hl.1 (Nat.le_of_ble_eq_true rfl) dX11_right_48 (fun x11 G9 H locs hq hB => ?_)
    obtain ⟨hm, i_x11⟩ := hq
    obtain ⟨G12, hG9⟩ : ∃ g, g = G9 := ⟨_, rfl⟩
    rw [← hG9] at hm hB
    have hM := hM.stp hm (by decide)
    have a_h0 := hm.at a_h0 (by decide)
    exact iv_iret X hr hlocks hB ⟨hM, (i_x11.wk (by decide))⟩ dX11_right_51
  skip
  refine lv_tableOut (tgt := 52) hx hb dX11_right_1 (by have := i_x_0.1; have := i_x_0.2; omega) (by decide) ?_
  refine lv_iconst (v := (-1)) hx hb dX11_right_52 (by decide) ?_
  exact iv_iret X hr hlocks hB ⟨hM, (q_n1.wk (by decide))⟩ dX11_right_53
theorem dX5_soundsIn_0 : decode cX5_soundsIn 0 = .ok (.aload_n 0, 1) := by decide +kernel
theorem dX5_soundsIn_1 : decode cX5_soundsIn 1 = .ok (.iload_n 1, 1) := by decide +kernel
theorem dX5_soundsIn_2 : decode cX5_soundsIn 2 = .ok (.invokevirtual 88, 3) := by decide +kernel
theorem dX5_soundsIn_5 : decode cX5_soundsIn 5 = .ok (.ifCond .eq 24, 3) := by decide +kernel
theorem dX5_soundsIn_8 : decode cX5_soundsIn 8 = .ok (.aload_n 0, 1) := by decide +kernel
theorem dX5_soundsIn_9 : decode cX5_soundsIn 9 = .ok (.getfield 11, 3) := by decide +kernel
theorem dX5_soundsIn_12 : decode cX5_soundsIn 12 = .ok (.iload_n 1, 1) := by decide +kernel
theorem dX5_soundsIn_13 : decode cX5_soundsIn 13 = .ok (.aaload, 1) := by decide +kernel
theorem dX5_soundsIn_14 : decode cX5_soundsIn 14 = .ok (.getfield 92, 3) := by decide +kernel
theorem dX5_soundsIn_17 : decode cX5_soundsIn 17 = .ok (.ifCond .ne 12, 3) := by decide +kernel
theorem dX5_soundsIn_20 : decode cX5_soundsIn 20 = .ok (.aload_n 0, 1) := by decide +kernel
theorem dX5_soundsIn_21 : decode cX5_soundsIn 21 = .ok (.getfield 40, 3) := by decide +kernel
theorem dX5_soundsIn_24 : decode cX5_soundsIn 24 = .ok (.iload_n 1, 1) := by decide +kernel
theorem dX5_soundsIn_25 : decode cX5_soundsIn 25 = .ok (.iaload, 1) := by decide +kernel
theorem dX5_soundsIn_26 : decode cX5_soundsIn 26 = .ok (.goto 4, 3) := by decide +kernel
theorem dX5_soundsIn_29 : decode cX5_soundsIn 29 = .ok (.iconst 0, 1) := by decide +kernel
theorem dX5_soundsIn_30 : decode cX5_soundsIn 30 = .ok (.ireturn, 1) := by decide +kernel
set_option maxHeartbeats 4000000 in
set_option maxRecDepth 100000 in
theorem c_X5_soundsIn (l : Launch) (D : va_G) (tys : List (ClassId × FieldType)) (base : Nat) (G : iv_G) (h0 : Nat) (g_h0 : Nat → Int32) (r_h0 : Nat → Nat) (a_h0 : G h0 = some (5, g_h0, r_h0)) (x_0 : Int32) (i_x_0 : iv_R 0 9 x_0) : Met l yX5_soundsIn (Cond.code yX5_soundsIn cX5_soundsIn 2 (some .int) :: iv_W0) ({ frames := 1, cells := 0, slots := 0, locals := 21 }) (iv_Pc iv_sh D classes tys base G [.ref h0, .int x_0]) (iv_Qi iv_sh D classes tys base (fun v G' => G = G' ∧ iv_R (-2147483648) 2147483647 v)) 0 0 (iv_A base) := by
  refine iv_head (by decide) (Nat.le_of_ble_eq_true rfl) ?_
  intro p e s m args below meth c ls X hr hlocks hname hB hl
  have X := X
  have hx := X.1.1
  have hb := X.1.2.1
  have hl : lv_has ls 2 [(0, .ref h0), (1, .int x_0)] := hl
  refine lv_aload_n hx hb dX5_soundsIn_0 rfl (lv_at hl 0 rfl) ?_
  refine lv_iload_n hx hb dX5_soundsIn_1 rfl (lv_at hl 1 rfl) ?_
  refine iv_cVi X k_good k_mf_X5_hasBell k_im_X5_hasBell k_sel_X5_hasBell k_ml_X5_88 ft_X5 hB a_h0 sh_5 (As := [.int x_0]) (c_X5_hasBell l D tys base G h0 g_h0 r_h0 a_h0 x_0 (i_x_0.wk (by decide))) ⟨rfl, rfl⟩ ⟨Nat.le_of_ble_eq_true rfl, Nat.le_of_ble_eq_true rfl⟩ ⟨Nat.le_of_ble_eq_true rfl, Nat.le_of_ble_eq_true rfl⟩ rfl rfl hl.1 (Nat.le_of_ble_eq_true rfl) dX5_soundsIn_2 (fun x1 G9 H locs hq hB => ?_)
  obtain ⟨rfl, i_x1, hp2⟩ := hq
  refine lv_if_eq (tgt := 29) hx hb dX5_soundsIn_5 (by decide) (fun c3 => ?_) (fun c3 => ?_)
  · skip
    have i3_x1 : iv_R 0 0 x1 := (i_x1.cutHi (n := 0) (iv_eq_r c3 q_0).2)
    refine lv_iconst (v := 0) hx hb dX5_soundsIn_29 (by decide) ?_
    exact iv_iret X hr hlocks hB ⟨rfl, (q_0.wk (by decide))⟩ dX5_soundsIn_30
  · skip
    have i4_x1 : iv_R 1 1 x1 := iv_ne_lo c3 i_x1 q_0 (by decide)
    refine lv_aload_n hx hb dX5_soundsIn_8 rfl (lv_at hl 0 rfl) ?_
    refine iv_getr X ft_X5 hB a_h0 sh_5 0 (by decide) rfl k_fl_X5_11 dX5_soundsIn_9 (fun b6 g_b6 r_b6 e_b6 a_b6 => ?_)
    refine lv_iload_n hx hb dX5_soundsIn_12 rfl (lv_at hl 1 rfl) ?_
    refine iv_aald X hB a_b6 sh_40 (iv_in i_x_0 (by decide)) dX5_soundsIn_13 (fun b7 g_b7 r_b7 e_b7 a_b7 => ?_)
    refine iv_geti X ft_X1 hB a_b7 sh_1 6 (by decide) rfl k_fl_X5_92 dX5_soundsIn_14 (fun x8 e_x8 i_x8 => ?_)
    refine lv_if_ne (tgt := 29) hx hb dX5_soundsIn_17 (by decide) (fun c9 => ?_) (fun c9 => ?_)
    · skip
      refine lv_iconst (v := 0) hx hb dX5_soundsIn_29 (by decide) ?_
      exact iv_iret X hr hlocks hB ⟨rfl, (q_0.wk (by decide))⟩ dX5_soundsIn_30
    · skip
      have i9_x8 : iv_R 0 0 x8 := ((i_x8.cutLo (n := 0) (iv_eq_r c9 q_0).1).cutHi (n := 0) (iv_eq_r c9 q_0).2)
      refine lv_aload_n hx hb dX5_soundsIn_20 rfl (lv_at hl 0 rfl) ?_
      refine iv_getr X ft_X5 hB a_h0 sh_5 11 (by decide) rfl k_fl_X5_40 dX5_soundsIn_21 (fun b11 g_b11 r_b11 e_b11 a_b11 => ?_)
      refine lv_iload_n hx hb dX5_soundsIn_24 rfl (lv_at hl 1 rfl) ?_
      refine iv_ald X hB a_b11 sh_21 (iv_in i_x_0 (by decide)) dX5_soundsIn_25 (fun x12 e_x12 i_x12 => ?_)
      refine lv_goto (tgt := 30) hx hb dX5_soundsIn_26 (by decide) ?_
      exact iv_iret X hr hlocks hB ⟨rfl, i_x12⟩ dX5_soundsIn_30
theorem dX5_soundsAt_0 : decode cX5_soundsAt 0 = .ok (.aload_n 0, 1) := by decide +kernel
theorem dX5_soundsAt_1 : decode cX5_soundsAt 1 = .ok (.iload_n 1, 1) := by decide +kernel
theorem dX5_soundsAt_2 : decode cX5_soundsAt 2 = .ok (.invokevirtual 95, 3) := by decide +kernel
theorem dX5_soundsAt_5 : decode cX5_soundsAt 5 = .ok (.iload_n 2, 1) := by decide +kernel
theorem dX5_soundsAt_6 : decode cX5_soundsAt 6 = .ok (.iushr, 1) := by decide +kernel
theorem dX5_soundsAt_7 : decode cX5_soundsAt 7 = .ok (.iconst 1, 1) := by decide +kernel
theorem dX5_soundsAt_8 : decode cX5_soundsAt 8 = .ok (.iand, 1) := by decide +kernel
theorem dX5_soundsAt_9 : decode cX5_soundsAt 9 = .ok (.iconst 1, 1) := by decide +kernel
theorem dX5_soundsAt_10 : decode cX5_soundsAt 10 = .ok (.if_icmp .ne 7, 3) := by decide +kernel
theorem dX5_soundsAt_13 : decode cX5_soundsAt 13 = .ok (.iconst 1, 1) := by decide +kernel
theorem dX5_soundsAt_14 : decode cX5_soundsAt 14 = .ok (.goto 4, 3) := by decide +kernel
theorem dX5_soundsAt_17 : decode cX5_soundsAt 17 = .ok (.iconst 0, 1) := by decide +kernel
theorem dX5_soundsAt_18 : decode cX5_soundsAt 18 = .ok (.ireturn, 1) := by decide +kernel
set_option maxHeartbeats 4000000 in
set_option maxRecDepth 100000 in
theorem c_X5_soundsAt (l : Launch) (D : va_G) (tys : List (ClassId × FieldType)) (base : Nat) (G : iv_G) (h0 : Nat) (g_h0 : Nat → Int32) (r_h0 : Nat → Nat) (a_h0 : G h0 = some (5, g_h0, r_h0)) (x_0 : Int32) (i_x_0 : iv_R 0 9 x_0) (x_1 : Int32) (i_x_1 : iv_R 0 23 x_1) : Met l yX5_soundsAt (Cond.code yX5_soundsAt cX5_soundsAt 3 (some .boolean) :: iv_W0) ({ frames := 2, cells := 0, slots := 0, locals := 42 }) (iv_Pc iv_sh D classes tys base G [.ref h0, .int x_0, .int x_1]) (iv_Qi iv_sh D classes tys base (fun v G' => G = G' ∧ iv_R 0 1 v)) 0 0 (iv_A base) := by
  refine iv_head (by decide) (Nat.le_of_ble_eq_true rfl) ?_
  intro p e s m args below meth c ls X hr hlocks hname hB hl
  have X := X
  have hx := X.1.1
  have hb := X.1.2.1
  have hl : lv_has ls 3 [(0, .ref h0), (1, .int x_0), (2, .int x_1)] := hl
  refine lv_aload_n hx hb dX5_soundsAt_0 rfl (lv_at hl 0 rfl) ?_
  refine lv_iload_n hx hb dX5_soundsAt_1 rfl (lv_at hl 1 rfl) ?_
  refine iv_cVi X k_good k_mf_X5_soundsIn k_im_X5_soundsIn k_sel_X5_soundsIn k_ml_X5_95 ft_X5 hB a_h0 sh_5 (As := [.int x_0]) (c_X5_soundsIn l D tys base G h0 g_h0 r_h0 a_h0 x_0 i_x_0) ⟨rfl, rfl⟩ ⟨Nat.le_of_ble_eq_true rfl, Nat.le_of_ble_eq_true rfl⟩ ⟨Nat.le_of_ble_eq_true rfl, Nat.le_of_ble_eq_true rfl⟩ rfl rfl hl.1 (Nat.le_of_ble_eq_true rfl) dX5_soundsAt_2 (fun x1 G9 H locs hq hB => ?_)
  obtain ⟨rfl, i_x1⟩ := hq
  refine lv_iload_n hx hb dX5_soundsAt_5 rfl (lv_at hl 2 rfl) ?_
  refine lv_iushr hx hb dX5_soundsAt_6 rfl ?_
  refine lv_topi (fun x2 e_x2 => ?_)
  have i_x2 := iv_R.all x2
  refine lv_iconst (v := 1) hx hb dX5_soundsAt_7 (by decide) ?_
  refine iv_iand_r hx hb q_1 (by decide) dX5_soundsAt_8 (fun x3 e_x3 i_x3 => ?_)
  refine lv_iconst (v := 1) hx hb dX5_soundsAt_9 (by decide) ?_
  refine lv_icmp_ne (tgt := 17) hx hb dX5_soundsAt_10 (by decide) (fun c4 => ?_) (fun c4 => ?_)
  · skip
    have i4_x3 : iv_R 0 0 x3 := iv_ne_hi c4 i_x3 q_1 (by decide)
    refine lv_iconst (v := 0) hx hb dX5_soundsAt_17 (by decide) ?_
    exact iv_zret X hr hlocks hB (q_0.wk (by decide)) ⟨rfl, (q_0.wk (by decide))⟩ dX5_soundsAt_18
  · skip
    have i5_x3 : iv_R 1 1 x3 := (i_x3.cutLo (n := 1) (iv_eq_r c4 q_1).1)
    refine lv_iconst (v := 1) hx hb dX5_soundsAt_13 (by decide) ?_
    refine lv_goto (tgt := 18) hx hb dX5_soundsAt_14 (by decide) ?_
    exact iv_zret X hr hlocks hB (q_1.wk (by decide)) ⟨rfl, (q_1.wk (by decide))⟩ dX5_soundsAt_18
theorem dX5_howManySound_0 : decode cX5_howManySound 0 = .ok (.iconst 0, 1) := by decide +kernel
theorem dX5_howManySound_1 : decode cX5_howManySound 1 = .ok (.istore_n 2, 1) := by decide +kernel
theorem dX5_howManySound_2 : decode cX5_howManySound 2 = .ok (.iconst 0, 1) := by decide +kernel
theorem dX5_howManySound_3 : decode cX5_howManySound 3 = .ok (.istore_n 3, 1) := by decide +kernel
theorem dX5_howManySound_4 : decode cX5_howManySound 4 = .ok (.iload_n 3, 1) := by decide +kernel
theorem dX5_howManySound_5 : decode cX5_howManySound 5 = .ok (.aload_n 0, 1) := by decide +kernel
theorem dX5_howManySound_6 : decode cX5_howManySound 6 = .ok (.getfield 61, 3) := by decide +kernel
theorem dX5_howManySound_9 : decode cX5_howManySound 9 = .ok (.if_icmp .ge 21, 3) := by decide +kernel
theorem dX5_howManySound_12 : decode cX5_howManySound 12 = .ok (.aload_n 0, 1) := by decide +kernel
theorem dX5_howManySound_13 : decode cX5_howManySound 13 = .ok (.iload_n 3, 1) := by decide +kernel
theorem dX5_howManySound_14 : decode cX5_howManySound 14 = .ok (.iload_n 1, 1) := by decide +kernel
theorem dX5_howManySound_15 : decode cX5_howManySound 15 = .ok (.invokevirtual 99, 3) := by decide +kernel
theorem dX5_howManySound_18 : decode cX5_howManySound 18 = .ok (.ifCond .eq 6, 3) := by decide +kernel
theorem dX5_howManySound_21 : decode cX5_howManySound 21 = .ok (.iinc 2 1, 3) := by decide +kernel
theorem dX5_howManySound_24 : decode cX5_howManySound 24 = .ok (.iinc 3 1, 3) := by decide +kernel
theorem dX5_howManySound_27 : decode cX5_howManySound 27 = .ok (.goto (-23), 3) := by decide +kernel
theorem dX5_howManySound_30 : decode cX5_howManySound 30 = .ok (.iload_n 2, 1) := by decide +kernel
theorem dX5_howManySound_31 : decode cX5_howManySound 31 = .ok (.ireturn, 1) := by decide +kernel
set_option maxHeartbeats 4000000 in
set_option maxRecDepth 100000 in
theorem c_X5_howManySound (l : Launch) (D : va_G) (tys : List (ClassId × FieldType)) (base : Nat) (G : iv_G) (h0 : Nat) (g_h0 : Nat → Int32) (r_h0 : Nat → Nat) (a_h0 : G h0 = some (5, g_h0, r_h0)) (x_0 : Int32) (i_x_0 : iv_R 0 23 x_0) : Met l yX5_howManySound (Cond.code yX5_howManySound cX5_howManySound 4 (some .int) :: iv_W0) ({ frames := 3, cells := 0, slots := 0, locals := 64 }) (iv_Pc iv_sh D classes tys base G [.ref h0, .int x_0]) (iv_Qi iv_sh D classes tys base (fun v G' => G = G' ∧ iv_R (-2147483648) 2147483647 v)) 0 0 (iv_A base) := by
  refine iv_head (by decide) (Nat.le_of_ble_eq_true rfl) ?_
  intro p e s m args below meth c ls X hr hlocks hname hB hl
  have X := X
  have hx := X.1.1
  have hb := X.1.2.1
  have hl : lv_has ls 4 [(0, .ref h0), (1, .int x_0)] := hl
  refine lv_iconst (v := 0) hx hb dX5_howManySound_0 (by decide) ?_
  refine lv_istore_n (lv' := [(2, .int 0), (0, .ref h0), (1, .int x_0)]) hx hb dX5_howManySound_1 rfl hl (by decide) rfl (fun ls hl => ?_)
  refine lv_iconst (v := 0) hx hb dX5_howManySound_2 (by decide) ?_
  refine lv_istore_n (lv' := [(3, .int 0), (2, .int 0), (0, .ref h0), (1, .int x_0)]) hx hb dX5_howManySound_3 rfl hl (by decide) rfl (fun ls hl => ?_)
  have L_4 : ∀ (n_4 : Nat) (H : Heap) (locs : List Loc) (hB : iv_B iv_sh D classes tys base G s.heap H locs) (x1 : Int32) (i_x1 : iv_R (-2147483648) 2147483647 x1) (x2 : Int32) (i_x2 : iv_R 0 10 x2) (hn : (11 - x2.toInt).toNat < n_4) (ls : Array Slot) (hl : lv_has ls 4 [(3, .int x2), (2, .int x1), (0, .ref h0), (1, .int x_0)]), W p l e ({ frames := 3, cells := 0, slots := 0, locals := 64 } : Room) s m args below meth c H locs 0 0 (MQ below (iv_Qi iv_sh D classes tys base (fun v G' => G = G' ∧ iv_R (-2147483648) 2147483647 v)) args s 0 0 (iv_A base)) (F0 m 4 ls []) := by
    intro n_4
    induction n_4 with
    | zero => intro H locs hB x1 i_x1 x2 i_x2 hn ls hl; exact absurd hn (Nat.not_lt_zero _)
    | succ n_4 ih_4 =>
      intro H locs hB x1 i_x1 x2 i_x2 hn ls hl
      refine lv_iload_n hx hb dX5_howManySound_4 rfl (lv_at hl 0 rfl) ?_
      refine lv_aload_n hx hb dX5_howManySound_5 rfl (lv_at hl 2 rfl) ?_
      refine iv_geti X ft_X5 hB a_h0 sh_5 1 (by decide) rfl k_fl_X5_61 dX5_howManySound_6 (fun x3 e_x3 i_x3 => ?_)
      refine lv_icmp_ge (tgt := 30) hx hb dX5_howManySound_9 (by decide) (fun c4 => ?_) (fun c4 => ?_)
      · skip
        refine lv_iload_n hx hb dX5_howManySound_30 rfl (lv_at hl 1 rfl) ?_
        exact iv_iret X hr hlocks hB ⟨rfl, i_x1⟩ dX5_howManySound_31
      · skip
        have i4_x2 : iv_R 0 9 x2 := (i_x2.cutHi (n := 9) (iv_lt_r (iv_nle c4) i_x3 (by decide)))
        have i5_x3 : iv_R 1 10 x3 := (i_x3.cutLo (n := 1) (iv_lt_l (iv_nle c4) i_x2 (by decide)))
        refine lv_aload_n hx hb dX5_howManySound_12 rfl (lv_at hl 2 rfl) ?_
        refine lv_iload_n hx hb dX5_howManySound_13 rfl (lv_at hl 0 rfl) ?_
        refine lv_iload_n hx hb dX5_howManySound_14 rfl (lv_at hl 3 rfl) ?_
        refine iv_cVi X k_good k_mf_X5_soundsAt k_im_X5_soundsAt k_sel_X5_soundsAt k_ml_X5_99 ft_X5 hB a_h0 sh_5 (As := [.int x2, .int x_0]) (c_X5_soundsAt l D tys base G h0 g_h0 r_h0 a_h0 x2 i4_x2 x_0 i_x_0) ⟨rfl, rfl⟩ ⟨Nat.le_of_ble_eq_true rfl, Nat.le_of_ble_eq_true rfl⟩ ⟨Nat.le_of_ble_eq_true rfl, Nat.le_of_ble_eq_true rfl⟩ rfl rfl hl.1 (Nat.le_of_ble_eq_true rfl) dX5_howManySound_15 (fun x7 G9 H locs hq hB => ?_)
        obtain ⟨rfl, i_x7⟩ := hq
        refine lv_if_eq (tgt := 24) hx hb dX5_howManySound_18 (by decide) (fun c8 => ?_) (fun c8 => ?_)
        · skip
          have i8_x7 : iv_R 0 0 x7 := (i_x7.cutHi (n := 0) (iv_eq_r c8 q_0).2)
          refine iv_iinc hx hb i4_x2 (lo := 1) (hi := 10) (by decide) dX5_howManySound_24 hl (k := 0) rfl (by decide) (fun x10 ls e_x10 i_x10 hl => ?_)
          have hl : lv_has ls 4 [(3, .int x10), (2, .int x1), (0, .ref h0), (1, .int x_0)] := hl
          refine lv_goto (tgt := 4) hx hb dX5_howManySound_27 (by decide) ?_
          exact ih_4 _ _ hB x1 i_x1 x10 (i_x10.wk (by decide)) (iv_mup (c := 1) i_x2 (by decide) (by decide) (by omega) hn) _ (lv_sub hl [0, 1, 2, 3] rfl)
        · skip
          have i10_x7 : iv_R 1 1 x7 := iv_ne_lo c8 i_x7 q_0 (by decide)
          obtain ⟨x12, e_x12⟩ : ∃ y : Int32, y = x1 + Int32.ofInt 1 := ⟨_, rfl⟩
          refine lv_iinc (v := x12) (lv' := [(2, .int x12), (3, .int x2), (0, .ref h0), (1, .int x_0)]) hx hb dX5_howManySound_21 hl (k := 1) rfl e_x12.symm (by decide) rfl (fun ls hl => ?_)
          have i_x12 := iv_R.all x12
          refine iv_iinc hx hb i4_x2 (lo := 1) (hi := 10) (by decide) dX5_howManySound_24 hl (k := 1) rfl (by decide) (fun x13 ls e_x13 i_x13 hl => ?_)
          have hl : lv_has ls 4 [(3, .int x13), (2, .int x12), (0, .ref h0), (1, .int x_0)] := hl
          refine lv_goto (tgt := 4) hx hb dX5_howManySound_27 (by decide) ?_
          exact ih_4 _ _ hB x12 i_x12 x13 (i_x13.wk (by decide)) (iv_mup (c := 1) i_x2 (by decide) (by decide) (by omega) hn) _ (lv_sub hl [0, 1, 2, 3] rfl)
  exact L_4 _ _ _ hB 0 (q_0.wk (by decide)) 0 (q_0.wk (by decide)) (Nat.lt_succ_self _) _ (lv_sub hl [0, 1, 2, 3] rfl)
theorem dX11_ropes_0 : decode cX11_ropes 0 = .ok (.iconst 0, 1) := by decide +kernel
theorem dX11_ropes_1 : decode cX11_ropes 1 = .ok (.istore_n 2, 1) := by decide +kernel
theorem dX11_ropes_2 : decode cX11_ropes 2 = .ok (.iconst (-1), 1) := by decide +kernel
theorem dX11_ropes_3 : decode cX11_ropes 3 = .ok (.istore_n 3, 1) := by decide +kernel
theorem dX11_ropes_4 : decode cX11_ropes 4 = .ok (.iconst 0, 1) := by decide +kernel
theorem dX11_ropes_5 : decode cX11_ropes 5 = .ok (.istore 4, 2) := by decide +kernel
theorem dX11_ropes_7 : decode cX11_ropes 7 = .ok (.iload 4, 2) := by decide +kernel
theorem dX11_ropes_9 : decode cX11_ropes 9 = .ok (.bipush 24, 2) := by decide +kernel
theorem dX11_ropes_11 : decode cX11_ropes 11 = .ok (.if_icmp .ge 32, 3) := by decide +kernel
theorem dX11_ropes_14 : decode cX11_ropes 14 = .ok (.aload_n 0, 1) := by decide +kernel
theorem dX11_ropes_15 : decode cX11_ropes 15 = .ok (.getfield 12, 3) := by decide +kernel
theorem dX11_ropes_18 : decode cX11_ropes 18 = .ok (.iload 4, 2) := by decide +kernel
theorem dX11_ropes_20 : decode cX11_ropes 20 = .ok (.invokevirtual 285, 3) := by decide +kernel
theorem dX11_ropes_23 : decode cX11_ropes 23 = .ok (.istore 5, 2) := by decide +kernel
theorem dX11_ropes_25 : decode cX11_ropes 25 = .ok (.iload 5, 2) := by decide +kernel
theorem dX11_ropes_27 : decode cX11_ropes 27 = .ok (.iload_n 2, 1) := by decide +kernel
theorem dX11_ropes_28 : decode cX11_ropes 28 = .ok (.if_icmp .le 9, 3) := by decide +kernel
theorem dX11_ropes_31 : decode cX11_ropes 31 = .ok (.iload 5, 2) := by decide +kernel
theorem dX11_ropes_33 : decode cX11_ropes 33 = .ok (.istore_n 2, 1) := by decide +kernel
theorem dX11_ropes_34 : decode cX11_ropes 34 = .ok (.iload 4, 2) := by decide +kernel
theorem dX11_ropes_36 : decode cX11_ropes 36 = .ok (.istore_n 3, 1) := by decide +kernel
theorem dX11_ropes_37 : decode cX11_ropes 37 = .ok (.iinc 4 1, 3) := by decide +kernel
theorem dX11_ropes_40 : decode cX11_ropes 40 = .ok (.goto (-33), 3) := by decide +kernel
theorem dX11_ropes_43 : decode cX11_ropes 43 = .ok (.iload_n 1, 1) := by decide +kernel
theorem dX11_ropes_44 : decode cX11_ropes 44 = .ok (.iload_n 3, 1) := by decide +kernel
theorem dX11_ropes_45 : decode cX11_ropes 45 = .ok (.iload_n 2, 1) := by decide +kernel
theorem dX11_ropes_46 : decode cX11_ropes 46 = .ok (.invokestatic 282, 3) := by decide +kernel
theorem dX11_ropes_49 : decode cX11_ropes 49 = .ok (.ireturn, 1) := by decide +kernel
set_option maxHeartbeats 4000000 in
set_option maxRecDepth 100000 in
theorem c_X11_ropes (l : Launch) (D : va_G) (tys : List (ClassId × FieldType)) (base : Nat) (G : iv_G) (h0 : Nat) (g_h0 : Nat → Int32) (r_h0 : Nat → Nat) (a_h0 : G h0 = some (11, g_h0, r_h0)) (x_0 : Int32) (i_x_0 : iv_R (-2147483648) 2147483647 x_0) : Met l yX11_ropes (Cond.code yX11_ropes cX11_ropes 6 (some .int) :: iv_W0) ({ frames := 4, cells := 0, slots := 0, locals := 87 }) (iv_Pc iv_sh D classes tys base G [.ref h0, .int x_0]) (iv_Qi iv_sh D classes tys base (fun v G' => G = G' ∧ iv_R (-2147483648) 2147483647 v)) 0 0 (iv_A base) := by
  refine iv_head (by decide) (Nat.le_of_ble_eq_true rfl) ?_
  intro p e s m args below meth c ls X hr hlocks hname hB hl
  have X := X
  have hx := X.1.1
  have hb := X.1.2.1
  have hl : lv_has ls 6 [(0, .ref h0), (1, .int x_0)] := hl
  refine lv_iconst (v := 0) hx hb dX11_ropes_0 (by decide) ?_
  refine lv_istore_n (lv' := [(2, .int 0), (0, .ref h0), (1, .int x_0)]) hx hb dX11_ropes_1 rfl hl (by decide) rfl (fun ls hl => ?_)
  refine lv_iconst (v := (-1)) hx hb dX11_ropes_2 (by decide) ?_
  refine lv_istore_n (lv' := [(3, .int (-1)), (2, .int 0), (0, .ref h0), (1, .int x_0)]) hx hb dX11_ropes_3 rfl hl (by decide) rfl (fun ls hl => ?_)
  refine lv_iconst (v := 0) hx hb dX11_ropes_4 (by decide) ?_
  refine lv_istore (lv' := [(4, .int 0), (3, .int (-1)), (2, .int 0), (0, .ref h0), (1, .int x_0)]) hx hb dX11_ropes_5 hl (by decide) rfl (fun ls hl => ?_)
  have L_7 : ∀ (n_7 : Nat) (H : Heap) (locs : List Loc) (hB : iv_B iv_sh D classes tys base G s.heap H locs) (x1 : Int32) (i_x1 : iv_R 0 2147483647 x1) (x2 : Int32) (i_x2 : iv_R (-1) 23 x2) (x3 : Int32) (i_x3 : iv_R 0 24 x3) (hn : (25 - x3.toInt).toNat < n_7) (ls : Array Slot) (hl : lv_has ls 6 [(4, .int x3), (3, .int x2), (2, .int x1), (0, .ref h0), (1, .int x_0)]), W p l e ({ frames := 4, cells := 0, slots := 0, locals := 87 } : Room) s m args below meth c H locs 0 0 (MQ below (iv_Qi iv_sh D classes tys base (fun v G' => G = G' ∧ iv_R (-2147483648) 2147483647 v)) args s 0 0 (iv_A base)) (F0 m 7 ls []) := by
    intro n_7
    induction n_7 with
    | zero => intro H locs hB x1 i_x1 x2 i_x2 x3 i_x3 hn ls hl; exact absurd hn (Nat.not_lt_zero _)
    | succ n_7 ih_7 =>
      intro H locs hB x1 i_x1 x2 i_x2 x3 i_x3 hn ls hl
      refine lv_iload hx hb dX11_ropes_7 (lv_at hl 0 rfl) ?_
      refine lv_bipush (v := 24) hx hb dX11_ropes_9 (by decide) ?_
      refine lv_icmp_ge (tgt := 43) hx hb dX11_ropes_11 (by decide) (fun c4 => ?_) (fun c4 => ?_)
      · skip
        have i4_x3 : iv_R 24 24 x3 := (i_x3.cutLo (n := 24) (iv_le_l c4 q_24))
        refine lv_iload_n hx hb dX11_ropes_43 rfl (lv_at hl 4 rfl) ?_
        refine lv_iload_n hx hb dX11_ropes_44 rfl (lv_at hl 1 rfl) ?_
        refine lv_iload_n hx hb dX11_ropes_45 rfl (lv_at hl 2 rfl) ?_
        refine iv_cSi X k_good k_mf_X11_chosen k_st_X11_chosen k_ml_X11_282 hB (As := [.int x_0, .int x2, .int x1]) (c_X11_chosen l D tys base G x_0 i_x_0 x2 (i_x2.wk (by decide)) x1 (i_x1.wk (by decide))) ⟨rfl, rfl⟩ ⟨Nat.le_of_ble_eq_true rfl, Nat.le_of_ble_eq_true rfl⟩ ⟨Nat.le_of_ble_eq_true rfl, Nat.le_of_ble_eq_true rfl⟩ rfl rfl hl.1 (Nat.le_of_ble_eq_true rfl) dX11_ropes_46 (fun x6 G9 H locs hq hB => ?_)
        obtain ⟨rfl, i_x6⟩ := hq
        exact iv_iret X hr hlocks hB ⟨rfl, i_x6⟩ dX11_ropes_49
      · skip
        have i6_x3 : iv_R 0 23 x3 := (i_x3.cutHi (n := 23) (iv_lt_r (iv_nle c4) q_24 (by decide)))
        refine lv_aload_n hx hb dX11_ropes_14 rfl (lv_at hl 3 rfl) ?_
        refine iv_getr X ft_X11 hB a_h0 sh_11 0 (by decide) rfl k_fl_X11_12 dX11_ropes_15 (fun b8 g_b8 r_b8 e_b8 a_b8 => ?_)
        refine lv_iload hx hb dX11_ropes_18 (lv_at hl 0 rfl) ?_
        refine iv_cVi X k_good k_mf_X5_howManySound k_im_X5_howManySound k_sel_X5_howManySound k_ml_X11_285 ft_X5 hB a_b8 sh_5 (As := [.int x3]) (c_X5_howManySound l D tys base G b8 g_b8 r_b8 a_b8 x3 i6_x3) ⟨rfl, rfl⟩ ⟨Nat.le_of_ble_eq_true rfl, Nat.le_of_ble_eq_true rfl⟩ ⟨Nat.le_of_ble_eq_true rfl, Nat.le_of_ble_eq_true rfl⟩ rfl rfl hl.1 (Nat.le_of_ble_eq_true rfl) dX11_ropes_20 (fun x9 G9 H locs hq hB => ?_)
        obtain ⟨rfl, i_x9⟩ := hq
        refine lv_istore (lv' := [(5, .int x9), (4, .int x3), (3, .int x2), (2, .int x1), (0, .ref h0), (1, .int x_0)]) hx hb dX11_ropes_23 hl (by decide) rfl (fun ls hl => ?_)
        refine lv_iload hx hb dX11_ropes_25 (lv_at hl 0 rfl) ?_
        refine lv_iload_n hx hb dX11_ropes_27 rfl (lv_at hl 3 rfl) ?_
        refine lv_icmp_le (tgt := 37) hx hb dX11_ropes_28 (by decide) (fun c10 => ?_) (fun c10 => ?_)
        · skip
          refine iv_iinc hx hb i6_x3 (lo := 1) (hi := 24) (by decide) dX11_ropes_37 hl (k := 1) rfl (by decide) (fun x11 ls e_x11 i_x11 hl => ?_)
          have hl : lv_has ls 6 [(4, .int x11), (5, .int x9), (3, .int x2), (2, .int x1), (0, .ref h0), (1, .int x_0)] := hl
          refine lv_goto (tgt := 7) hx hb dX11_ropes_40 (by decide) ?_
          exact ih_7 _ _ hB x1 i_x1 x2 i_x2 x11 (i_x11.wk (by decide)) (iv_mup (c := 1) i_x3 (by decide) (by decide) (by omega) hn) _ (lv_sub hl [0, 2, 3, 4, 5] rfl)
        · skip
          have i11_x1 : iv_R 0 2147483646 x1 := (i_x1.cutHi (n := 2147483646) (iv_lt_r (iv_nle c10) i_x9 (by decide)))
          have i12_x9 : iv_R 1 2147483647 x9 := (i_x9.cutLo (n := 1) (iv_lt_l (iv_nle c10) i_x1 (by decide)))
          refine lv_iload hx hb dX11_ropes_31 (lv_at hl 0 rfl) ?_
          refine lv_istore_n (lv' := [(2, .int x9), (5, .int x9), (4, .int x3), (3, .int x2), (0, .ref h0), (1, .int x_0)]) hx hb dX11_ropes_33 rfl hl (by decide) rfl (fun ls hl => ?_)
          refine lv_iload hx hb dX11_ropes_34 (lv_at hl 2 rfl) ?_
          refine lv_istore_n (lv' := [(3, .int x3), (2, .int x9), (5, .int x9), (4, .int x3), (0, .ref h0), (1, .int x_0)]) hx hb dX11_ropes_36 rfl hl (by decide) rfl (fun ls hl => ?_)
          refine iv_iinc hx hb i6_x3 (lo := 1) (hi := 24) (by decide) dX11_ropes_37 hl (k := 3) rfl (by decide) (fun x14 ls e_x14 i_x14 hl => ?_)
          have hl : lv_has ls 6 [(4, .int x14), (3, .int x3), (2, .int x9), (5, .int x9), (0, .ref h0), (1, .int x_0)] := hl
          refine lv_goto (tgt := 7) hx hb dX11_ropes_40 (by decide) ?_
          exact ih_7 _ _ hB x9 (i12_x9.wk (by decide)) x3 (i6_x3.wk (by decide)) x14 (i_x14.wk (by decide)) (iv_mup (c := 1) i_x3 (by decide) (by decide) (by omega) hn) _ (lv_sub hl [0, 1, 2, 4, 5] rfl)
  exact L_7 _ _ _ hB 0 (q_0.wk (by decide)) (-1) (q_n1.wk (by decide)) 0 (q_0.wk (by decide)) (Nat.lt_succ_self _) _ (lv_sub hl [0, 1, 2, 3, 4] rfl)
theorem dX4_hourOf_0 : decode cX4_hourOf 0 = .ok (.iload_n 1, 1) := by decide +kernel
theorem dX4_hourOf_1 : decode cX4_hourOf 1 = .ok (.iconst 0, 1) := by decide +kernel
theorem dX4_hourOf_2 : decode cX4_hourOf 2 = .ok (.bipush 9, 2) := by decide +kernel
theorem dX4_hourOf_4 : decode cX4_hourOf 4 = .ok (.invokestatic 29, 3) := by decide +kernel
theorem dX4_hourOf_7 : decode cX4_hourOf 7 = .ok (.ifCond .eq 12, 3) := by decide +kernel
theorem dX4_hourOf_10 : decode cX4_hourOf 10 = .ok (.aload_n 0, 1) := by decide +kernel
theorem dX4_hourOf_11 : decode cX4_hourOf 11 = .ok (.getfield 9, 3) := by decide +kernel
theorem dX4_hourOf_14 : decode cX4_hourOf 14 = .ok (.iload_n 1, 1) := by decide +kernel
theorem dX4_hourOf_15 : decode cX4_hourOf 15 = .ok (.iaload, 1) := by decide +kernel
theorem dX4_hourOf_16 : decode cX4_hourOf 16 = .ok (.goto 4, 3) := by decide +kernel
theorem dX4_hourOf_19 : decode cX4_hourOf 19 = .ok (.iconst (-1), 1) := by decide +kernel
theorem dX4_hourOf_20 : decode cX4_hourOf 20 = .ok (.ireturn, 1) := by decide +kernel
set_option maxHeartbeats 4000000 in
set_option maxRecDepth 100000 in
theorem c_X4_hourOf (l : Launch) (D : va_G) (tys : List (ClassId × FieldType)) (base : Nat) (G : iv_G) (h0 : Nat) (g_h0 : Nat → Int32) (r_h0 : Nat → Nat) (a_h0 : G h0 = some (4, g_h0, r_h0)) (x_0 : Int32) (i_x_0 : iv_R (-2147483648) 2147483647 x_0) : Met l yX4_hourOf (Cond.code yX4_hourOf cX4_hourOf 2 (some .int) :: iv_W0) ({ frames := 1, cells := 0, slots := 0, locals := 22 }) (iv_Pc iv_sh D classes tys base G [.ref h0, .int x_0]) (iv_Qi iv_sh D classes tys base (fun v G' => G = G' ∧ iv_R (-2147483648) 2147483647 v)) 0 0 (iv_A base) := by
  refine iv_head (by decide) (Nat.le_of_ble_eq_true rfl) ?_
  intro p e s m args below meth c ls X hr hlocks hname hB hl
  have X := X
  have hx := X.1.1
  have hb := X.1.2.1
  have hl : lv_has ls 2 [(0, .ref h0), (1, .int x_0)] := hl
  refine lv_iload_n hx hb dX4_hourOf_0 rfl (lv_at hl 1 rfl) ?_
  refine lv_iconst (v := 0) hx hb dX4_hourOf_1 (by decide) ?_
  refine lv_bipush (v := 9) hx hb dX4_hourOf_2 (by decide) ?_
  refine iv_cSNi X k_good k_mf_X11_isWithin k_st_X11_isWithin (k_mn_X4_29 X.2.2) hB (As := [.int x_0, .int 0, .int 9]) (c_X11_isWithin l D tys base G x_0 i_x_0 0 (q_0.wk (by decide)) 9 (q_9.wk (by decide))) ⟨rfl, rfl⟩ ⟨Nat.le_of_ble_eq_true rfl, Nat.le_of_ble_eq_true rfl⟩ ⟨Nat.le_of_ble_eq_true rfl, Nat.le_of_ble_eq_true rfl⟩ rfl rfl hl.1 (Nat.le_of_ble_eq_true rfl) dX4_hourOf_4 (fun x1 G9 H locs hq hB => ?_)
  obtain ⟨rfl, i_x1, hp2⟩ := hq
  have k3 : ¬ x1 = 0 → iv_R 0 9 x_0 := fun h => ⟨iv_max i_x_0.1 (Int.le_trans q_0.1 (hp2.1 h).1) (by decide), iv_min i_x_0.2 (Int.le_trans (hp2.1 h).2 q_9.2) (by decide)⟩
  refine lv_if_eq (tgt := 19) hx hb dX4_hourOf_7 (by decide) (fun c4 => ?_) (fun c4 => ?_)
  · skip
    have i4_x1 : iv_R 0 0 x1 := (i_x1.cutHi (n := 0) (iv_eq_r c4 q_0).2)
    refine lv_iconst (v := (-1)) hx hb dX4_hourOf_19 (by decide) ?_
    exact iv_iret X hr hlocks hB ⟨rfl, (q_n1.wk (by decide))⟩ dX4_hourOf_20
  · skip
    have i5_x1 : iv_R 1 1 x1 := iv_ne_lo c4 i_x1 q_0 (by decide)
    have i6_x_0 : iv_R 0 9 x_0 := ((i_x_0.cutLo (n := 0) (k3 c4).1).cutHi (n := 9) (k3 c4).2)
    refine lv_aload_n hx hb dX4_hourOf_10 rfl (lv_at hl 0 rfl) ?_
    refine iv_getr X ft_X4 hB a_h0 sh_4 1 (by decide) rfl k_fl_X4_9 dX4_hourOf_11 (fun b8 g_b8 r_b8 e_b8 a_b8 => ?_)
    refine lv_iload_n hx hb dX4_hourOf_14 rfl (lv_at hl 1 rfl) ?_
    refine iv_ald X hB a_b8 sh_31 (iv_in i6_x_0 (by decide)) dX4_hourOf_15 (fun x9 e_x9 i_x9 => ?_)
    refine lv_goto (tgt := 20) hx hb dX4_hourOf_16 (by decide) ?_
    exact iv_iret X hr hlocks hB ⟨rfl, i_x9⟩ dX4_hourOf_20
theorem dX5_areNear_0 : decode cX5_areNear 0 = .ok (.aload_n 0, 1) := by decide +kernel
theorem dX5_areNear_1 : decode cX5_areNear 1 = .ok (.getfield 11, 3) := by decide +kernel
theorem dX5_areNear_4 : decode cX5_areNear 4 = .ok (.iload_n 1, 1) := by decide +kernel
theorem dX5_areNear_5 : decode cX5_areNear 5 = .ok (.aaload, 1) := by decide +kernel
theorem dX5_areNear_6 : decode cX5_areNear 6 = .ok (.getfield 109, 3) := by decide +kernel
theorem dX5_areNear_9 : decode cX5_areNear 9 = .ok (.aload_n 0, 1) := by decide +kernel
theorem dX5_areNear_10 : decode cX5_areNear 10 = .ok (.getfield 11, 3) := by decide +kernel
theorem dX5_areNear_13 : decode cX5_areNear 13 = .ok (.iload_n 2, 1) := by decide +kernel
theorem dX5_areNear_14 : decode cX5_areNear 14 = .ok (.aaload, 1) := by decide +kernel
theorem dX5_areNear_15 : decode cX5_areNear 15 = .ok (.getfield 109, 3) := by decide +kernel
theorem dX5_areNear_18 : decode cX5_areNear 18 = .ok (.isub, 1) := by decide +kernel
theorem dX5_areNear_19 : decode cX5_areNear 19 = .ok (.invokestatic 112, 3) := by decide +kernel
theorem dX5_areNear_22 : decode cX5_areNear 22 = .ok (.aload_n 0, 1) := by decide +kernel
theorem dX5_areNear_23 : decode cX5_areNear 23 = .ok (.getfield 21, 3) := by decide +kernel
theorem dX5_areNear_26 : decode cX5_areNear 26 = .ok (.if_icmp .ge 7, 3) := by decide +kernel
theorem dX5_areNear_29 : decode cX5_areNear 29 = .ok (.iconst 1, 1) := by decide +kernel
theorem dX5_areNear_30 : decode cX5_areNear 30 = .ok (.goto 4, 3) := by decide +kernel
theorem dX5_areNear_33 : decode cX5_areNear 33 = .ok (.iconst 0, 1) := by decide +kernel
theorem dX5_areNear_34 : decode cX5_areNear 34 = .ok (.ireturn, 1) := by decide +kernel
set_option maxHeartbeats 4000000 in
set_option maxRecDepth 100000 in
theorem c_X5_areNear (l : Launch) (D : va_G) (tys : List (ClassId × FieldType)) (base : Nat) (G : iv_G) (h0 : Nat) (g_h0 : Nat → Int32) (r_h0 : Nat → Nat) (a_h0 : G h0 = some (5, g_h0, r_h0)) (x_0 : Int32) (i_x_0 : iv_R 0 9 x_0) (x_1 : Int32) (i_x_1 : iv_R 0 9 x_1) : Met l yX5_areNear (Cond.code yX5_areNear cX5_areNear 3 (some .boolean) :: iv_W0) ({ frames := 1, cells := 0, slots := 0, locals := 13 }) (iv_Pc iv_sh D classes tys base G [.ref h0, .int x_0, .int x_1]) (iv_Qi iv_sh D classes tys base (fun v G' => G = G' ∧ iv_R 0 1 v)) 0 0 (iv_A base) := by
  refine iv_head (by decide) (Nat.le_of_ble_eq_true rfl) ?_
  intro p e s m args below meth c ls X hr hlocks hname hB hl
  have X := X
  have hx := X.1.1
  have hb := X.1.2.1
  have hl : lv_has ls 3 [(0, .ref h0), (1, .int x_0), (2, .int x_1)] := hl
  refine lv_aload_n hx hb dX5_areNear_0 rfl (lv_at hl 0 rfl) ?_
  refine iv_getr X ft_X5 hB a_h0 sh_5 0 (by decide) rfl k_fl_X5_11 dX5_areNear_1 (fun b1 g_b1 r_b1 e_b1 a_b1 => ?_)
  refine lv_iload_n hx hb dX5_areNear_4 rfl (lv_at hl 1 rfl) ?_
  refine iv_aald X hB a_b1 sh_40 (iv_in i_x_0 (by decide)) dX5_areNear_5 (fun b2 g_b2 r_b2 e_b2 a_b2 => ?_)
  refine iv_geti X ft_X1 hB a_b2 sh_1 1 (by decide) rfl k_fl_X5_109 dX5_areNear_6 (fun x3 e_x3 i_x3 => ?_)
  refine lv_aload_n hx hb dX5_areNear_9 rfl (lv_at hl 0 rfl) ?_
  refine iv_getr0 X ft_X5 hB a_h0 sh_5 0 (by decide) rfl k_fl_X5_11 dX5_areNear_10 e_b1 ?_
  refine lv_iload_n hx hb dX5_areNear_13 rfl (lv_at hl 2 rfl) ?_
  refine iv_aald X hB a_b1 sh_40 (iv_in i_x_1 (by decide)) dX5_areNear_14 (fun b4 g_b4 r_b4 e_b4 a_b4 => ?_)
  refine iv_geti X ft_X1 hB a_b4 sh_1 1 (by decide) rfl k_fl_X5_109 dX5_areNear_15 (fun x5 e_x5 i_x5 => ?_)
  refine lv_isub hx hb dX5_areNear_18 ?_
  refine lv_topi (fun x6 e_x6 => ?_)
  have i_x6 := iv_R.all x6
  refine iv_mabs X hl.1 k_mm_X5_112 ⟨Nat.le_of_ble_eq_true rfl, Nat.le_of_ble_eq_true rfl⟩ ⟨Nat.le_of_ble_eq_true rfl, Nat.le_of_ble_eq_true rfl⟩ dX5_areNear_19 (fun x7 e_x7 i_x7 => ?_)
  refine lv_aload_n hx hb dX5_areNear_22 rfl (lv_at hl 0 rfl) ?_
  refine iv_geti X ft_X5 hB a_h0 sh_5 3 (by decide) rfl k_fl_X5_21 dX5_areNear_23 (fun x8 e_x8 i_x8 => ?_)
  refine lv_icmp_ge (tgt := 33) hx hb dX5_areNear_26 (by decide) (fun c9 => ?_) (fun c9 => ?_)
  · skip
    refine lv_iconst (v := 0) hx hb dX5_areNear_33 (by decide) ?_
    exact iv_zret X hr hlocks hB (q_0.wk (by decide)) ⟨rfl, (q_0.wk (by decide))⟩ dX5_areNear_34
  · skip
    have i9_x7 : iv_R (-2147483648) 2147483646 x7 := (i_x7.cutHi (n := 2147483646) (iv_lt_r (iv_nle c9) i_x8 (by decide)))
    have i10_x8 : iv_R (-2147483647) 2147483647 x8 := (i_x8.cutLo (n := (-2147483647)) (iv_lt_l (iv_nle c9) i_x7 (by decide)))
    refine lv_iconst (v := 1) hx hb dX5_areNear_29 (by decide) ?_
    refine lv_goto (tgt := 34) hx hb dX5_areNear_30 (by decide) ?_
    exact iv_zret X hr hlocks hB (q_1.wk (by decide)) ⟨rfl, (q_1.wk (by decide))⟩ dX5_areNear_34
theorem dX4_canSit_0 : decode cX4_canSit 0 = .ok (.iconst 0, 1) := by decide +kernel
theorem dX4_canSit_1 : decode cX4_canSit 1 = .ok (.istore 4, 2) := by decide +kernel
theorem dX4_canSit_3 : decode cX4_canSit 3 = .ok (.iload 4, 2) := by decide +kernel
theorem dX4_canSit_5 : decode cX4_canSit 5 = .ok (.iload_n 0, 1) := by decide +kernel
theorem dX4_canSit_6 : decode cX4_canSit 6 = .ok (.if_icmp .ge 29, 3) := by decide +kernel
theorem dX4_canSit_9 : decode cX4_canSit 9 = .ok (.aload_n 3, 1) := by decide +kernel
theorem dX4_canSit_10 : decode cX4_canSit 10 = .ok (.iload 4, 2) := by decide +kernel
theorem dX4_canSit_12 : decode cX4_canSit 12 = .ok (.iaload, 1) := by decide +kernel
theorem dX4_canSit_13 : decode cX4_canSit 13 = .ok (.iload_n 1, 1) := by decide +kernel
theorem dX4_canSit_14 : decode cX4_canSit 14 = .ok (.if_icmp .ne 15, 3) := by decide +kernel
theorem dX4_canSit_17 : decode cX4_canSit 17 = .ok (.aload_n 2, 1) := by decide +kernel
theorem dX4_canSit_18 : decode cX4_canSit 18 = .ok (.iload_n 0, 1) := by decide +kernel
theorem dX4_canSit_19 : decode cX4_canSit 19 = .ok (.iload 4, 2) := by decide +kernel
theorem dX4_canSit_21 : decode cX4_canSit 21 = .ok (.invokevirtual 53, 3) := by decide +kernel
theorem dX4_canSit_24 : decode cX4_canSit 24 = .ok (.ifCond .eq 5, 3) := by decide +kernel
theorem dX4_canSit_27 : decode cX4_canSit 27 = .ok (.iconst 0, 1) := by decide +kernel
theorem dX4_canSit_28 : decode cX4_canSit 28 = .ok (.ireturn, 1) := by decide +kernel
theorem dX4_canSit_29 : decode cX4_canSit 29 = .ok (.iinc 4 1, 3) := by decide +kernel
theorem dX4_canSit_32 : decode cX4_canSit 32 = .ok (.goto (-29), 3) := by decide +kernel
theorem dX4_canSit_35 : decode cX4_canSit 35 = .ok (.iconst 1, 1) := by decide +kernel
theorem dX4_canSit_36 : decode cX4_canSit 36 = .ok (.ireturn, 1) := by decide +kernel
set_option maxHeartbeats 4000000 in
set_option maxRecDepth 100000 in
theorem c_X4_canSit (l : Launch) (D : va_G) (tys : List (ClassId × FieldType)) (base : Nat) (G : iv_G) (x_0 : Int32) (i_x_0 : iv_R 0 9 x_0) (x_1 : Int32) (i_x_1 : iv_R 0 9 x_1) (h3 : Nat) (g_h3 : Nat → Int32) (r_h3 : Nat → Nat) (a_h3 : G h3 = some (5, g_h3, r_h3)) (h4 : Nat) (g_h4 : Nat → Int32) (r_h4 : Nat → Nat) (a_h4 : G h4 = some (31, g_h4, r_h4)) : Met l yX4_canSit (Cond.code yX4_canSit cX4_canSit 5 (some .boolean) :: iv_W0) ({ frames := 2, cells := 0, slots := 0, locals := 35 }) (iv_Pc iv_sh D classes tys base G [.int x_0, .int x_1, .ref h3, .ref h4]) (iv_Qi iv_sh D classes tys base (fun v G' => G = G' ∧ iv_R 0 1 v ∧ (v = 0 → iv_R 1 9 x_0))) 0 0 (iv_A base) := by
  refine iv_head (by decide) (Nat.le_of_ble_eq_true rfl) ?_
  intro p e s m args below meth c ls X hr hlocks hname hB hl
  have X := X
  have hx := X.1.1
  have hb := X.1.2.1
  have hl : lv_has ls 5 [(0, .int x_0), (1, .int x_1), (2, .ref h3), (3, .ref h4)] := hl
  refine lv_iconst (v := 0) hx hb dX4_canSit_0 (by decide) ?_
  refine lv_istore (lv' := [(4, .int 0), (0, .int x_0), (1, .int x_1), (2, .ref h3), (3, .ref h4)]) hx hb dX4_canSit_1 hl (by decide) rfl (fun ls hl => ?_)
  have L_3 : ∀ (n_3 : Nat) (H : Heap) (locs : List Loc) (hB : iv_B iv_sh D classes tys base G s.heap H locs) (x1 : Int32) (i_x1 : iv_R 0 9 x1) (hn : (10 - x1.toInt).toNat < n_3) (ls : Array Slot) (hl : lv_has ls 5 [(4, .int x1), (0, .int x_0), (1, .int x_1), (2, .ref h3), (3, .ref h4)]), W p l e ({ frames := 2, cells := 0, slots := 0, locals := 35 } : Room) s m args below meth c H locs 0 0 (MQ below (iv_Qi iv_sh D classes tys base (fun v G' => G = G' ∧ iv_R 0 1 v ∧ (v = 0 → iv_R 1 9 x_0))) args s 0 0 (iv_A base)) (F0 m 3 ls []) := by
    intro n_3
    induction n_3 with
    | zero => intro H locs hB x1 i_x1 hn ls hl; exact absurd hn (Nat.not_lt_zero _)
    | succ n_3 ih_3 =>
      intro H locs hB x1 i_x1 hn ls hl
      refine lv_iload hx hb dX4_canSit_3 (lv_at hl 0 rfl) ?_
      refine lv_iload_n hx hb dX4_canSit_5 rfl (lv_at hl 1 rfl) ?_
      refine lv_icmp_ge (tgt := 35) hx hb dX4_canSit_6 (by decide) (fun c2 => ?_) (fun c2 => ?_)
      · skip
        refine lv_iconst (v := 1) hx hb dX4_canSit_35 (by decide) ?_
        exact iv_zret X hr hlocks hB (q_1.wk (by decide)) ⟨rfl, (q_1.wk (by decide)), fun h => absurd h (iv_nz q_1 (by decide))⟩ dX4_canSit_36
      · skip
        have i2_x1 : iv_R 0 8 x1 := (i_x1.cutHi (n := 8) (iv_lt_r (iv_nle c2) i_x_0 (by decide)))
        have i3_x_0 : iv_R 1 9 x_0 := (i_x_0.cutLo (n := 1) (iv_lt_l (iv_nle c2) i_x1 (by decide)))
        refine lv_aload_n hx hb dX4_canSit_9 rfl (lv_at hl 4 rfl) ?_
        refine lv_iload hx hb dX4_canSit_10 (lv_at hl 0 rfl) ?_
        refine iv_ald X hB a_h4 sh_31 (iv_in i2_x1 (by decide)) dX4_canSit_12 (fun x5 e_x5 i_x5 => ?_)
        refine lv_iload_n hx hb dX4_canSit_13 rfl (lv_at hl 2 rfl) ?_
        refine lv_icmp_ne (tgt := 29) hx hb dX4_canSit_14 (by decide) (fun c6 => ?_) (fun c6 => ?_)
        · skip
          refine iv_iinc hx hb i2_x1 (lo := 1) (hi := 9) (by decide) dX4_canSit_29 hl (k := 0) rfl (by decide) (fun x7 ls e_x7 i_x7 hl => ?_)
          have hl : lv_has ls 5 [(4, .int x7), (0, .int x_0), (1, .int x_1), (2, .ref h3), (3, .ref h4)] := hl
          refine lv_goto (tgt := 3) hx hb dX4_canSit_32 (by decide) ?_
          exact ih_3 _ _ hB x7 (i_x7.wk (by decide)) (iv_mup (c := 1) i_x1 (by decide) (by decide) (by omega) hn) _ (lv_sub hl [0, 1, 2, 3, 4] rfl)
        · skip
          have i7_x5 : iv_R 0 9 x5 := ((i_x5.cutLo (n := 0) (iv_eq_r c6 i_x_1).1).cutHi (n := 9) (iv_eq_r c6 i_x_1).2)
          refine lv_aload_n hx hb dX4_canSit_17 rfl (lv_at hl 3 rfl) ?_
          refine lv_iload_n hx hb dX4_canSit_18 rfl (lv_at hl 1 rfl) ?_
          refine lv_iload hx hb dX4_canSit_19 (lv_at hl 0 rfl) ?_
          refine iv_cVi X k_good k_mf_X5_areNear k_im_X5_areNear k_sel_X5_areNear k_ml_X4_53 ft_X5 hB a_h3 sh_5 (As := [.int x_0, .int x1]) (c_X5_areNear l D tys base G h3 g_h3 r_h3 a_h3 x_0 (i3_x_0.wk (by decide)) x1 (i2_x1.wk (by decide))) ⟨rfl, rfl⟩ ⟨Nat.le_of_ble_eq_true rfl, Nat.le_of_ble_eq_true rfl⟩ ⟨Nat.le_of_ble_eq_true rfl, Nat.le_of_ble_eq_true rfl⟩ rfl rfl hl.1 (Nat.le_of_ble_eq_true rfl) dX4_canSit_21 (fun x9 G9 H locs hq hB => ?_)
          obtain ⟨rfl, i_x9⟩ := hq
          refine lv_if_eq (tgt := 29) hx hb dX4_canSit_24 (by decide) (fun c10 => ?_) (fun c10 => ?_)
          · skip
            have i10_x9 : iv_R 0 0 x9 := (i_x9.cutHi (n := 0) (iv_eq_r c10 q_0).2)
            refine iv_iinc hx hb i2_x1 (lo := 1) (hi := 9) (by decide) dX4_canSit_29 hl (k := 0) rfl (by decide) (fun x12 ls e_x12 i_x12 hl => ?_)
            have hl : lv_has ls 5 [(4, .int x12), (0, .int x_0), (1, .int x_1), (2, .ref h3), (3, .ref h4)] := hl
            refine lv_goto (tgt := 3) hx hb dX4_canSit_32 (by decide) ?_
            exact ih_3 _ _ hB x12 (i_x12.wk (by decide)) (iv_mup (c := 1) i_x1 (by decide) (by decide) (by omega) hn) _ (lv_sub hl [0, 1, 2, 3, 4] rfl)
          · skip
            have i12_x9 : iv_R 1 1 x9 := iv_ne_lo c10 i_x9 q_0 (by decide)
            refine lv_iconst (v := 0) hx hb dX4_canSit_27 (by decide) ?_
            exact iv_zret X hr hlocks hB (q_0.wk (by decide)) ⟨rfl, (q_0.wk (by decide)), fun _ => i3_x_0⟩ dX4_canSit_28
  exact L_3 _ _ _ hB 0 (q_0.wk (by decide)) (Nat.lt_succ_self _) _ (lv_sub hl [0, 1, 2, 3, 4] rfl)
theorem dX5_isRung_0 : decode cX5_isRung 0 = .ok (.aload_n 0, 1) := by decide +kernel
theorem dX5_isRung_1 : decode cX5_isRung 1 = .ok (.iload_n 1, 1) := by decide +kernel
theorem dX5_isRung_2 : decode cX5_isRung 2 = .ok (.invokevirtual 88, 3) := by decide +kernel
theorem dX5_isRung_5 : decode cX5_isRung 5 = .ok (.ifCond .eq 19, 3) := by decide +kernel
theorem dX5_isRung_8 : decode cX5_isRung 8 = .ok (.aload_n 0, 1) := by decide +kernel
theorem dX5_isRung_9 : decode cX5_isRung 9 = .ok (.getfield 11, 3) := by decide +kernel
theorem dX5_isRung_12 : decode cX5_isRung 12 = .ok (.iload_n 1, 1) := by decide +kernel
theorem dX5_isRung_13 : decode cX5_isRung 13 = .ok (.aaload, 1) := by decide +kernel
theorem dX5_isRung_14 : decode cX5_isRung 14 = .ok (.getfield 92, 3) := by decide +kernel
theorem dX5_isRung_17 : decode cX5_isRung 17 = .ok (.ifCond .ne 7, 3) := by decide +kernel
theorem dX5_isRung_20 : decode cX5_isRung 20 = .ok (.iconst 1, 1) := by decide +kernel
theorem dX5_isRung_21 : decode cX5_isRung 21 = .ok (.goto 4, 3) := by decide +kernel
theorem dX5_isRung_24 : decode cX5_isRung 24 = .ok (.iconst 0, 1) := by decide +kernel
theorem dX5_isRung_25 : decode cX5_isRung 25 = .ok (.ireturn, 1) := by decide +kernel
set_option maxHeartbeats 4000000 in
set_option maxRecDepth 100000 in
theorem c_X5_isRung (l : Launch) (D : va_G) (tys : List (ClassId × FieldType)) (base : Nat) (G : iv_G) (h0 : Nat) (g_h0 : Nat → Int32) (r_h0 : Nat → Nat) (a_h0 : G h0 = some (5, g_h0, r_h0)) (x_0 : Int32) (i_x_0 : iv_R (-2147483648) 2147483647 x_0) : Met l yX5_isRung (Cond.code yX5_isRung cX5_isRung 2 (some .boolean) :: iv_W0) ({ frames := 1, cells := 0, slots := 0, locals := 21 }) (iv_Pc iv_sh D classes tys base G [.ref h0, .int x_0]) (iv_Qi iv_sh D classes tys base (fun v G' => G = G' ∧ iv_R 0 1 v ∧ (¬ v = 0 → iv_R 0 9 x_0))) 0 0 (iv_A base) := by
  refine iv_head (by decide) (Nat.le_of_ble_eq_true rfl) ?_
  intro p e s m args below meth c ls X hr hlocks hname hB hl
  have X := X
  have hx := X.1.1
  have hb := X.1.2.1
  have hl : lv_has ls 2 [(0, .ref h0), (1, .int x_0)] := hl
  refine lv_aload_n hx hb dX5_isRung_0 rfl (lv_at hl 0 rfl) ?_
  refine lv_iload_n hx hb dX5_isRung_1 rfl (lv_at hl 1 rfl) ?_
  refine iv_cVi X k_good k_mf_X5_hasBell k_im_X5_hasBell k_sel_X5_hasBell k_ml_X5_88 ft_X5 hB a_h0 sh_5 (As := [.int x_0]) (c_X5_hasBell l D tys base G h0 g_h0 r_h0 a_h0 x_0 i_x_0) ⟨rfl, rfl⟩ ⟨Nat.le_of_ble_eq_true rfl, Nat.le_of_ble_eq_true rfl⟩ ⟨Nat.le_of_ble_eq_true rfl, Nat.le_of_ble_eq_true rfl⟩ rfl rfl hl.1 (Nat.le_of_ble_eq_true rfl) dX5_isRung_2 (fun x1 G9 H locs hq hB => ?_)
  obtain ⟨rfl, i_x1, hp2⟩ := hq
  refine lv_if_eq (tgt := 24) hx hb dX5_isRung_5 (by decide) (fun c3 => ?_) (fun c3 => ?_)
  · skip
    have i3_x1 : iv_R 0 0 x1 := (i_x1.cutHi (n := 0) (iv_eq_r c3 q_0).2)
    refine lv_iconst (v := 0) hx hb dX5_isRung_24 (by decide) ?_
    exact iv_zret X hr hlocks hB (q_0.wk (by decide)) ⟨rfl, (q_0.wk (by decide)), fun h => absurd (iv_z q_0) h⟩ dX5_isRung_25
  · skip
    have i4_x1 : iv_R 1 1 x1 := iv_ne_lo c3 i_x1 q_0 (by decide)
    have i5_x_0 : iv_R 0 9 x_0 := ((i_x_0.cutLo (n := 0) (hp2 c3).1).cutHi (n := 9) (hp2 c3).2)
    refine lv_aload_n hx hb dX5_isRung_8 rfl (lv_at hl 0 rfl) ?_
    refine iv_getr X ft_X5 hB a_h0 sh_5 0 (by decide) rfl k_fl_X5_11 dX5_isRung_9 (fun b7 g_b7 r_b7 e_b7 a_b7 => ?_)
    refine lv_iload_n hx hb dX5_isRung_12 rfl (lv_at hl 1 rfl) ?_
    refine iv_aald X hB a_b7 sh_40 (iv_in i5_x_0 (by decide)) dX5_isRung_13 (fun b8 g_b8 r_b8 e_b8 a_b8 => ?_)
    refine iv_geti X ft_X1 hB a_b8 sh_1 6 (by decide) rfl k_fl_X5_92 dX5_isRung_14 (fun x9 e_x9 i_x9 => ?_)
    refine lv_if_ne (tgt := 24) hx hb dX5_isRung_17 (by decide) (fun c10 => ?_) (fun c10 => ?_)
    · skip
      refine lv_iconst (v := 0) hx hb dX5_isRung_24 (by decide) ?_
      exact iv_zret X hr hlocks hB (q_0.wk (by decide)) ⟨rfl, (q_0.wk (by decide)), fun _ => i5_x_0⟩ dX5_isRung_25
    · skip
      have i10_x9 : iv_R 0 0 x9 := ((i_x9.cutLo (n := 0) (iv_eq_r c10 q_0).1).cutHi (n := 0) (iv_eq_r c10 q_0).2)
      refine lv_iconst (v := 1) hx hb dX5_isRung_20 (by decide) ?_
      refine lv_goto (tgt := 25) hx hb dX5_isRung_21 (by decide) ?_
      exact iv_zret X hr hlocks hB (q_1.wk (by decide)) ⟨rfl, (q_1.wk (by decide)), fun _ => i5_x_0⟩ dX5_isRung_25
theorem dX4_seatFrom_0 : decode cX4_seatFrom 0 = .ok (.iload_n 0, 1) := by decide +kernel
theorem dX4_seatFrom_1 : decode cX4_seatFrom 1 = .ok (.aload_n 3, 1) := by decide +kernel
theorem dX4_seatFrom_2 : decode cX4_seatFrom 2 = .ok (.getfield 33, 3) := by decide +kernel
theorem dX4_seatFrom_5 : decode cX4_seatFrom 5 = .ok (.if_icmp .ge 10, 3) := by decide +kernel
theorem dX4_seatFrom_8 : decode cX4_seatFrom 8 = .ok (.iload_n 0, 1) := by decide +kernel
theorem dX4_seatFrom_9 : decode cX4_seatFrom 9 = .ok (.aload 4, 2) := by decide +kernel
theorem dX4_seatFrom_11 : decode cX4_seatFrom 11 = .ok (.arraylength, 1) := by decide +kernel
theorem dX4_seatFrom_12 : decode cX4_seatFrom 12 = .ok (.if_icmp .lt 5, 3) := by decide +kernel
theorem dX4_seatFrom_15 : decode cX4_seatFrom 15 = .ok (.iconst 1, 1) := by decide +kernel
theorem dX4_seatFrom_16 : decode cX4_seatFrom 16 = .ok (.ireturn, 1) := by decide +kernel
theorem dX4_seatFrom_17 : decode cX4_seatFrom 17 = .ok (.aload 4, 2) := by decide +kernel
theorem dX4_seatFrom_19 : decode cX4_seatFrom 19 = .ok (.iload_n 0, 1) := by decide +kernel
theorem dX4_seatFrom_20 : decode cX4_seatFrom 20 = .ok (.iconst (-1), 1) := by decide +kernel
theorem dX4_seatFrom_21 : decode cX4_seatFrom 21 = .ok (.iastore, 1) := by decide +kernel
theorem dX4_seatFrom_22 : decode cX4_seatFrom 22 = .ok (.aload_n 3, 1) := by decide +kernel
theorem dX4_seatFrom_23 : decode cX4_seatFrom 23 = .ok (.iload_n 0, 1) := by decide +kernel
theorem dX4_seatFrom_24 : decode cX4_seatFrom 24 = .ok (.invokevirtual 39, 3) := by decide +kernel
theorem dX4_seatFrom_27 : decode cX4_seatFrom 27 = .ok (.ifCond .ne 15, 3) := by decide +kernel
theorem dX4_seatFrom_30 : decode cX4_seatFrom 30 = .ok (.iload_n 0, 1) := by decide +kernel
theorem dX4_seatFrom_31 : decode cX4_seatFrom 31 = .ok (.iconst 1, 1) := by decide +kernel
theorem dX4_seatFrom_32 : decode cX4_seatFrom 32 = .ok (.iadd, 1) := by decide +kernel
theorem dX4_seatFrom_33 : decode cX4_seatFrom 33 = .ok (.iload_n 1, 1) := by decide +kernel
theorem dX4_seatFrom_34 : decode cX4_seatFrom 34 = .ok (.iload_n 2, 1) := by decide +kernel
theorem dX4_seatFrom_35 : decode cX4_seatFrom 35 = .ok (.aload_n 3, 1) := by decide +kernel
theorem dX4_seatFrom_36 : decode cX4_seatFrom 36 = .ok (.aload 4, 2) := by decide +kernel
theorem dX4_seatFrom_38 : decode cX4_seatFrom 38 = .ok (.invokestatic 25, 3) := by decide +kernel
theorem dX4_seatFrom_41 : decode cX4_seatFrom 41 = .ok (.ireturn, 1) := by decide +kernel
theorem dX4_seatFrom_42 : decode cX4_seatFrom 42 = .ok (.iconst 0, 1) := by decide +kernel
theorem dX4_seatFrom_43 : decode cX4_seatFrom 43 = .ok (.istore 5, 2) := by decide +kernel
theorem dX4_seatFrom_45 : decode cX4_seatFrom 45 = .ok (.iload 5, 2) := by decide +kernel
theorem dX4_seatFrom_47 : decode cX4_seatFrom 47 = .ok (.iload_n 1, 1) := by decide +kernel
theorem dX4_seatFrom_48 : decode cX4_seatFrom 48 = .ok (.if_icmp .gt 56, 3) := by decide +kernel
theorem dX4_seatFrom_51 : decode cX4_seatFrom 51 = .ok (.iload 5, 2) := by decide +kernel
theorem dX4_seatFrom_53 : decode cX4_seatFrom 53 = .ok (.iload_n 2, 1) := by decide +kernel
theorem dX4_seatFrom_54 : decode cX4_seatFrom 54 = .ok (.if_icmp .ge 50, 3) := by decide +kernel
theorem dX4_seatFrom_57 : decode cX4_seatFrom 57 = .ok (.iload_n 0, 1) := by decide +kernel
theorem dX4_seatFrom_58 : decode cX4_seatFrom 58 = .ok (.iload 5, 2) := by decide +kernel
theorem dX4_seatFrom_60 : decode cX4_seatFrom 60 = .ok (.aload_n 3, 1) := by decide +kernel
theorem dX4_seatFrom_61 : decode cX4_seatFrom 61 = .ok (.aload 4, 2) := by decide +kernel
theorem dX4_seatFrom_63 : decode cX4_seatFrom 63 = .ok (.invokestatic 43, 3) := by decide +kernel
theorem dX4_seatFrom_66 : decode cX4_seatFrom 66 = .ok (.ifCond .eq 32, 3) := by decide +kernel
theorem dX4_seatFrom_69 : decode cX4_seatFrom 69 = .ok (.aload 4, 2) := by decide +kernel
theorem dX4_seatFrom_71 : decode cX4_seatFrom 71 = .ok (.iload_n 0, 1) := by decide +kernel
theorem dX4_seatFrom_72 : decode cX4_seatFrom 72 = .ok (.iload 5, 2) := by decide +kernel
theorem dX4_seatFrom_74 : decode cX4_seatFrom 74 = .ok (.iastore, 1) := by decide +kernel
theorem dX4_seatFrom_75 : decode cX4_seatFrom 75 = .ok (.iload_n 0, 1) := by decide +kernel
theorem dX4_seatFrom_76 : decode cX4_seatFrom 76 = .ok (.iconst 1, 1) := by decide +kernel
theorem dX4_seatFrom_77 : decode cX4_seatFrom 77 = .ok (.iadd, 1) := by decide +kernel
theorem dX4_seatFrom_78 : decode cX4_seatFrom 78 = .ok (.iload_n 1, 1) := by decide +kernel
theorem dX4_seatFrom_79 : decode cX4_seatFrom 79 = .ok (.iload 5, 2) := by decide +kernel
theorem dX4_seatFrom_81 : decode cX4_seatFrom 81 = .ok (.iconst 1, 1) := by decide +kernel
theorem dX4_seatFrom_82 : decode cX4_seatFrom 82 = .ok (.iadd, 1) := by decide +kernel
theorem dX4_seatFrom_83 : decode cX4_seatFrom 83 = .ok (.invokestatic 47, 3) := by decide +kernel
theorem dX4_seatFrom_86 : decode cX4_seatFrom 86 = .ok (.iload_n 2, 1) := by decide +kernel
theorem dX4_seatFrom_87 : decode cX4_seatFrom 87 = .ok (.aload_n 3, 1) := by decide +kernel
theorem dX4_seatFrom_88 : decode cX4_seatFrom 88 = .ok (.aload 4, 2) := by decide +kernel
theorem dX4_seatFrom_90 : decode cX4_seatFrom 90 = .ok (.invokestatic 25, 3) := by decide +kernel
theorem dX4_seatFrom_93 : decode cX4_seatFrom 93 = .ok (.ifCond .eq 5, 3) := by decide +kernel
theorem dX4_seatFrom_96 : decode cX4_seatFrom 96 = .ok (.iconst 1, 1) := by decide +kernel
theorem dX4_seatFrom_97 : decode cX4_seatFrom 97 = .ok (.ireturn, 1) := by decide +kernel
theorem dX4_seatFrom_98 : decode cX4_seatFrom 98 = .ok (.iinc 5 1, 3) := by decide +kernel
theorem dX4_seatFrom_101 : decode cX4_seatFrom 101 = .ok (.goto (-56), 3) := by decide +kernel
theorem dX4_seatFrom_104 : decode cX4_seatFrom 104 = .ok (.iconst 0, 1) := by decide +kernel
theorem dX4_seatFrom_105 : decode cX4_seatFrom 105 = .ok (.ireturn, 1) := by decide +kernel
set_option maxHeartbeats 4000000 in
set_option maxRecDepth 100000 in
theorem c_X4_seatFrom (l : Launch) (D : va_G) (tys : List (ClassId × FieldType)) (base : Nat) (G : iv_G) (x_0 : Int32) (i_x_0 : iv_R 0 10 x_0) (x_1 : Int32) (i_x_1 : iv_R 0 10 x_1) (x_2 : Int32) (i_x_2 : iv_R 0 10 x_2) (h4 : Nat) (g_h4 : Nat → Int32) (r_h4 : Nat → Nat) (a_h4 : G h4 = some (5, g_h4, r_h4)) (h5 : Nat) (g_h5 : Nat → Int32) (r_h5 : Nat → Nat) (a_h5 : G h5 = some (31, g_h5, r_h5)) : Met l yX4_seatFrom (Cond.code yX4_seatFrom cX4_seatFrom 6 (some .boolean) :: iv_W0) ({ frames := 3, cells := 0, slots := 0, locals := 59 }) (iv_Pc iv_sh D classes tys base G [.int x_0, .int x_1, .int x_2, .ref h4, .ref h5]) (iv_Qi iv_sh D classes tys base (fun v G' => iv_Md [31] G G' ∧ iv_R 0 1 v ∧ (v = 0 → iv_R 0 9 x_0))) 0 0 (iv_A base) := by
  refine iv_head (by decide) (Nat.le_of_ble_eq_true rfl) ?_
  intro p e s m args below meth c ls X hr hlocks hname hB hl
  have X := X
  have hx := X.1.1
  have hb := X.1.2.1
  have hM : iv_Md [31] G G := iv_Md.rf
  have hl : lv_has ls 6 [(0, .int x_0), (1, .int x_1), (2, .int x_2), (3, .ref h4), (4, .ref h5)] := hl
  refine lv_iload_n hx hb dX4_seatFrom_0 rfl (lv_at hl 0 rfl) ?_
  refine lv_aload_n hx hb dX4_seatFrom_1 rfl (lv_at hl 3 rfl) ?_
  refine iv_geti X ft_X5 hB a_h4 sh_5 1 (by decide) rfl k_fl_X4_33 dX4_seatFrom_2 (fun x1 e_x1 i_x1 => ?_)
  refine lv_icmp_ge (tgt := 15) hx hb dX4_seatFrom_5 (by decide) (fun c2 => ?_) (fun c2 => ?_)
  · skip
    refine lv_iconst (v := 1) hx hb dX4_seatFrom_15 (by decide) ?_
    exact iv_zret X hr hlocks hB (q_1.wk (by decide)) ⟨hM, (q_1.wk (by decide)), fun h => absurd h (iv_nz q_1 (by decide))⟩ dX4_seatFrom_16
  · skip
    have i2_x_0 : iv_R 0 9 x_0 := (i_x_0.cutHi (n := 9) (iv_lt_r (iv_nle c2) i_x1 (by decide)))
    have i3_x1 : iv_R 1 10 x1 := (i_x1.cutLo (n := 1) (iv_lt_l (iv_nle c2) i_x_0 (by decide)))
    refine lv_iload_n hx hb dX4_seatFrom_8 rfl (lv_at hl 0 rfl) ?_
    refine lv_aload hx hb dX4_seatFrom_9 (lv_at hl 4 rfl) ?_
    refine iv_alen X hB a_h5 sh_31 (v := 10) (by decide) dX4_seatFrom_11 ?_
    refine lv_icmp_lt (tgt := 17) hx hb dX4_seatFrom_12 (by decide) (fun c5 => ?_) (fun c5 => ?_)
    · skip
      refine lv_aload hx hb dX4_seatFrom_17 (lv_at hl 4 rfl) ?_
      refine lv_iload_n hx hb dX4_seatFrom_19 rfl (lv_at hl 0 rfl) ?_
      refine lv_iconst (v := (-1)) hx hb dX4_seatFrom_20 (by decide) ?_
      refine iv_ast X hB a_h5 sh_31 (iv_in i2_x_0 (by decide)) (q_n1.wk (by decide)) dX4_seatFrom_21 (fun H locs hB => ?_)
      have hm := iv_Md.ast (j := x_0.toNatClampNeg) (x := (-1)) a_h5 rfl (by decide)
      have h9 := iv_up_eq (G := G) (a := h5) (k := (31, upd g_h5 x_0.toNatClampNeg (-1), r_h5))
      generalize iv_up G h5 _ = G6 at hB hm h9
      have hM := hM.stp hm (by decide)
      generalize hgn_g7 : upd g_h5 _ _ = g7 at h9
      have a_h4 := hm.at a_h4 (by decide)
      have a_h5 := h9
      refine lv_aload_n hx hb dX4_seatFrom_22 rfl (lv_at hl 3 rfl) ?_
      refine lv_iload_n hx hb dX4_seatFrom_23 rfl (lv_at hl 0 rfl) ?_
      refine iv_cVi X k_good k_mf_X5_isRung k_im_X5_isRung k_sel_X5_isRung k_ml_X4_39 ft_X5 hB a_h4 sh_5 (As := [.int x_0]) (c_X5_isRung l D tys base G6 h4 g_h4 r_h4 a_h4 x_0 (i2_x_0.wk (by decide))) ⟨rfl, rfl⟩ ⟨Nat.le_of_ble_eq_true rfl, Nat.le_of_ble_eq_true rfl⟩ ⟨Nat.le_of_ble_eq_true rfl, Nat.le_of_ble_eq_true rfl⟩ rfl rfl hl.1 (Nat.le_of_ble_eq_true rfl) dX4_seatFrom_24 (fun x8 G9 H locs hq hB => ?_)
      obtain ⟨rfl, i_x8, hp9⟩ := hq
      refine lv_if_ne (tgt := 42) hx hb dX4_seatFrom_27 (by decide) (fun c10 => ?_) (fun c10 => ?_)
      · skip
        have i10_x8 : iv_R 1 1 x8 := iv_ne_lo c10 i_x8 q_0 (by decide)
        refine lv_iconst (v := 0) hx hb dX4_seatFrom_42 (by decide) ?_
        refine lv_istore (lv' := [(5, .int 0), (0, .int x_0), (1, .int x_1), (2, .int x_2), (3, .ref h4), (4, .ref h5)]) hx hb dX4_seatFrom_43 hl (by decide) rfl (fun ls hl => ?_)
        have L_45 : ∀ (n_45 : Nat) (G17 : iv_G) (hM : iv_Md [31] G G17) (H : Heap) (locs : List Loc) (hB : iv_B iv_sh D classes tys base G17 s.heap H locs) (g13 : Nat → Int32) (r14 : Nat → Nat) (a_h4 : G17 h4 = some (5, g13, r14)) (g15 : Nat → Int32) (r16 : Nat → Nat) (a_h5 : G17 h5 = some (31, g15, r16)) (x12 : Int32) (i_x12 : iv_R 0 10 x12) (hn : (11 - x12.toInt).toNat < n_45) (ls : Array Slot) (hl : lv_has ls 6 [(5, .int x12), (0, .int x_0), (1, .int x_1), (2, .int x_2), (3, .ref h4), (4, .ref h5)]), W p l e ({ frames := 3, cells := 0, slots := 0, locals := 59 } : Room) s m args below meth c H locs 0 0 (MQ below (iv_Qi iv_sh D classes tys base (fun v G' => iv_Md [31] G G' ∧ iv_R 0 1 v ∧ (v = 0 → iv_R 0 9 x_0))) args s 0 0 (iv_A base)) (F0 m 45 ls []) := by
          intro n_45
          induction n_45 with
          | zero => intro G17 hM H locs hB g13 r14 a_h4 g15 r16 a_h5 x12 i_x12 hn ls hl; exact absurd hn (Nat.not_lt_zero _)
          | succ n_45 ih_45 =>
            intro G17 hM H locs hB g13 r14 a_h4 g15 r16 a_h5 x12 i_x12 hn ls hl
            refine lv_iload hx hb dX4_seatFrom_45 (lv_at hl 0 rfl) ?_
            refine lv_iload_n hx hb dX4_seatFrom_47 rfl (lv_at hl 2 rfl) ?_
            refine lv_icmp_gt (tgt := 104) hx hb dX4_seatFrom_48 (by decide) (fun c18 => ?_) (fun c18 => ?_)
            · skip
              have i18_x_1 : iv_R 0 9 x_1 := (i_x_1.cutHi (n := 9) (iv_lt_r c18 i_x12 (by decide)))
              have i19_x12 : iv_R 1 10 x12 := (i_x12.cutLo (n := 1) (iv_lt_l c18 i_x_1 (by decide)))
              refine lv_iconst (v := 0) hx hb dX4_seatFrom_104 (by decide) ?_
              exact iv_zret X hr hlocks hB (q_0.wk (by decide)) ⟨hM, (q_0.wk (by decide)), fun _ => i2_x_0⟩ dX4_seatFrom_105
            · skip
              refine lv_iload hx hb dX4_seatFrom_51 (lv_at hl 0 rfl) ?_
              refine lv_iload_n hx hb dX4_seatFrom_53 rfl (lv_at hl 3 rfl) ?_
              refine lv_icmp_ge (tgt := 104) hx hb dX4_seatFrom_54 (by decide) (fun c21 => ?_) (fun c21 => ?_)
              · skip
                refine lv_iconst (v := 0) hx hb dX4_seatFrom_104 (by decide) ?_
                exact iv_zret X hr hlocks hB (q_0.wk (by decide)) ⟨hM, (q_0.wk (by decide)), fun _ => i2_x_0⟩ dX4_seatFrom_105
              · skip
                have i21_x12 : iv_R 0 9 x12 := (i_x12.cutHi (n := 9) (iv_lt_r (iv_nle c21) i_x_2 (by decide)))
                have i22_x_2 : iv_R 1 10 x_2 := (i_x_2.cutLo (n := 1) (iv_lt_l (iv_nle c21) i_x12 (by decide)))
                refine lv_iload_n hx hb dX4_seatFrom_57 rfl (lv_at hl 1 rfl) ?_
                refine lv_iload hx hb dX4_seatFrom_58 (lv_at hl 0 rfl) ?_
                refine lv_aload_n hx hb dX4_seatFrom_60 rfl (lv_at hl 4 rfl) ?_
                refine lv_aload hx hb dX4_seatFrom_61 (lv_at hl 5 rfl) ?_
                refine iv_cSi X k_good k_mf_X4_canSit k_st_X4_canSit k_ml_X4_43 hB (As := [.int x_0, .int x12, .ref h4, .ref h5]) (c_X4_canSit l D tys base G17 x_0 i2_x_0 x12 i21_x12 h4 g13 r14 a_h4 h5 g15 r16 a_h5) ⟨rfl, rfl⟩ ⟨Nat.le_of_ble_eq_true rfl, Nat.le_of_ble_eq_true rfl⟩ ⟨Nat.le_of_ble_eq_true rfl, Nat.le_of_ble_eq_true rfl⟩ rfl rfl hl.1 (Nat.le_of_ble_eq_true rfl) dX4_seatFrom_63 (fun x24 G9 H locs hq hB => ?_)
                obtain ⟨rfl, i_x24, hp25⟩ := hq
                refine lv_if_eq (tgt := 98) hx hb dX4_seatFrom_66 (by decide) (fun c26 => ?_) (fun c26 => ?_)
                · skip
                  have i26_x24 : iv_R 0 0 x24 := (i_x24.cutHi (n := 0) (iv_eq_r c26 q_0).2)
                  have i27_x_0 : iv_R 1 9 x_0 := (i2_x_0.cutLo (n := 1) (hp25 c26).1)
                  refine iv_iinc hx hb i21_x12 (lo := 1) (hi := 10) (by decide) dX4_seatFrom_98 hl (k := 0) rfl (by decide) (fun x29 ls e_x29 i_x29 hl => ?_)
                  have hl : lv_has ls 6 [(5, .int x29), (0, .int x_0), (1, .int x_1), (2, .int x_2), (3, .ref h4), (4, .ref h5)] := hl
                  refine lv_goto (tgt := 45) hx hb dX4_seatFrom_101 (by decide) ?_
                  exact ih_45 G17 hM _ _ hB g13 r14 a_h4 g15 r16 a_h5 x29 (i_x29.wk (by decide)) (iv_mup (c := 1) i_x12 (by decide) (by decide) (by omega) hn) _ (lv_sub hl [0, 1, 2, 3, 4, 5] rfl)
                · skip
                  have i29_x24 : iv_R 1 1 x24 := iv_ne_lo c26 i_x24 q_0 (by decide)
                  refine lv_aload hx hb dX4_seatFrom_69 (lv_at hl 5 rfl) ?_
                  refine lv_iload_n hx hb dX4_seatFrom_71 rfl (lv_at hl 1 rfl) ?_
                  refine lv_iload hx hb dX4_seatFrom_72 (lv_at hl 0 rfl) ?_
                  refine iv_ast X hB a_h5 sh_31 (iv_in i2_x_0 (by decide)) (i21_x12.wk (by decide)) dX4_seatFrom_74 (fun H locs hB => ?_)
                  have hm := iv_Md.ast (j := x_0.toNatClampNeg) (x := x12) a_h5 rfl (by decide)
                  have h9 := iv_up_eq (G := G17) (a := h5) (k := (31, upd g15 x_0.toNatClampNeg x12, r16))
                  generalize iv_up G17 h5 _ = G31 at hB hm h9
                  have hM := hM.stp hm (by decide)
                  generalize hgn_g32 : upd g15 _ _ = g32 at h9
                  have a_h4 := hm.at a_h4 (by decide)
                  have a_h5 := h9
                  refine lv_iload_n hx hb dX4_seatFrom_75 rfl (lv_at hl 1 rfl) ?_
                  refine lv_iconst (v := 1) hx hb dX4_seatFrom_76 (by decide) ?_
                  refine iv_iadd hx hb i2_x_0 q_1 (lo := 1) (hi := 10) (by decide) dX4_seatFrom_77 (fun x33 e_x33 i_x33 => ?_)
                  refine lv_iload_n hx hb dX4_seatFrom_78 rfl (lv_at hl 2 rfl) ?_
                  refine lv_iload hx hb dX4_seatFrom_79 (lv_at hl 0 rfl) ?_
                  refine lv_iconst (v := 1) hx hb dX4_seatFrom_81 (by decide) ?_
                  refine iv_iadd hx hb i21_x12 q_1 (lo := 1) (hi := 10) (by decide) dX4_seatFrom_82 (fun x34 e_x34 i_x34 => ?_)
                  refine iv_mmax X hl.1 k_mm_X4_47 ⟨Nat.le_of_ble_eq_true rfl, Nat.le_of_ble_eq_true rfl⟩ ⟨Nat.le_of_ble_eq_true rfl, Nat.le_of_ble_eq_true rfl⟩ i_x_1 i_x34 (lo := 1) (hi := 10) (by decide) dX4_seatFrom_83 (fun x35 e_x35 i_x35 => ?_)
                  refine lv_iload_n hx hb dX4_seatFrom_86 rfl (lv_at hl 3 rfl) ?_
                  refine lv_aload_n hx hb dX4_seatFrom_87 rfl (lv_at hl 4 rfl) ?_
                  refine lv_aload hx hb dX4_seatFrom_88 (lv_at hl 5 rfl) ?_
                  refine iv_cSi X k_good k_mf_X4_seatFrom k_st_X4_seatFrom k_ml_X4_25 hB (As := [.int x33, .int x35, .int x_2, .ref h4, .ref h5]) (c_X4_seatFrom l D tys base G31 x33 (i_x33.wk (by decide)) x35 (i_x35.wk (by decide)) x_2 (i22_x_2.wk (by decide)) h4 g13 r14 a_h4 h5 g32 r16 a_h5) ⟨rfl, rfl⟩ ⟨Nat.le_of_ble_eq_true rfl, Nat.le_of_ble_eq_true rfl⟩ ⟨Nat.le_of_ble_eq_true rfl, Nat.le_of_ble_eq_true rfl⟩ rfl rfl hl.1 (Nat.le_of_ble_eq_true rfl) dX4_seatFrom_90 (fun x36 G9 H locs hq hB => ?_)
                  obtain ⟨hm, i_x36, hp37⟩ := hq
                  obtain ⟨G38, hG9⟩ : ∃ g, g = G9 := ⟨_, rfl⟩
                  rw [← hG9] at hm hB
                  have hM := hM.stp hm (by decide)
                  have a_h4 := hm.at a_h4 (by decide)
                  obtain ⟨g39, r40, a_h5, f_g39⟩ := hm.ex a_h5
                  refine lv_if_eq (tgt := 98) hx hb dX4_seatFrom_93 (by decide) (fun c41 => ?_) (fun c41 => ?_)
                  · skip
                    have i41_x36 : iv_R 0 0 x36 := (i_x36.cutHi (n := 0) (iv_eq_r c41 q_0).2)
                    have i42_x33 : iv_R 1 9 x33 := (i_x33.cutHi (n := 9) (hp37 c41).2)
                    refine iv_iinc hx hb i21_x12 (lo := 1) (hi := 10) (by decide) dX4_seatFrom_98 hl (k := 0) rfl (by decide) (fun x44 ls e_x44 i_x44 hl => ?_)
                    have hl : lv_has ls 6 [(5, .int x44), (0, .int x_0), (1, .int x_1), (2, .int x_2), (3, .ref h4), (4, .ref h5)] := hl
                    refine lv_goto (tgt := 45) hx hb dX4_seatFrom_101 (by decide) ?_
                    exact ih_45 G38 hM _ _ hB g13 r14 a_h4 g39 r40 a_h5 x44 (i_x44.wk (by decide)) (iv_mup (c := 1) i_x12 (by decide) (by decide) (by omega) hn) _ (lv_sub hl [0, 1, 2, 3, 4, 5] rfl)
                  · skip
                    have i44_x36 : iv_R 1 1 x36 := iv_ne_lo c41 i_x36 q_0 (by decide)
                    refine lv_iconst (v := 1) hx hb dX4_seatFrom_96 (by decide) ?_
                    exact iv_zret X hr hlocks hB (q_1.wk (by decide)) ⟨hM, (q_1.wk (by decide)), fun _ => i2_x_0⟩ dX4_seatFrom_97
        exact L_45 _ G6 hM _ _ hB g_h4 r_h4 a_h4 g7 r_h5 a_h5 0 (q_0.wk (by decide)) (Nat.lt_succ_self _) _ (lv_sub hl [0, 1, 2, 3, 4, 5] rfl)
      · skip
        have i45_x8 : iv_R 0 0 x8 := (i_x8.cutHi (n := 0) (iv_eq_r c10 q_0).2)
        refine lv_iload_n hx hb dX4_seatFrom_30 rfl (lv_at hl 0 rfl) ?_
        refine lv_iconst (v := 1) hx hb dX4_seatFrom_31 (by decide) ?_
        refine iv_iadd hx hb i2_x_0 q_1 (lo := 1) (hi := 10) (by decide) dX4_seatFrom_32 (fun x47 e_x47 i_x47 => ?_)
        refine lv_iload_n hx hb dX4_seatFrom_33 rfl (lv_at hl 1 rfl) ?_
        refine lv_iload_n hx hb dX4_seatFrom_34 rfl (lv_at hl 2 rfl) ?_
        refine lv_aload_n hx hb dX4_seatFrom_35 rfl (lv_at hl 3 rfl) ?_
        refine lv_aload hx hb dX4_seatFrom_36 (lv_at hl 4 rfl) ?_
        refine iv_cSi X k_good k_mf_X4_seatFrom k_st_X4_seatFrom k_ml_X4_25 hB (As := [.int x47, .int x_1, .int x_2, .ref h4, .ref h5]) (c_X4_seatFrom l D tys base G6 x47 (i_x47.wk (by decide)) x_1 i_x_1 x_2 i_x_2 h4 g_h4 r_h4 a_h4 h5 g7 r_h5 a_h5) ⟨rfl, rfl⟩ ⟨Nat.le_of_ble_eq_true rfl, Nat.le_of_ble_eq_true rfl⟩ ⟨Nat.le_of_ble_eq_true rfl, Nat.le_of_ble_eq_true rfl⟩ rfl rfl hl.1 (Nat.le_of_ble_eq_true rfl) dX4_seatFrom_38 (fun x48 G9 H locs hq hB => ?_)
        obtain ⟨hm, i_x48, hp49⟩ := hq
        obtain ⟨G50, hG9⟩ : ∃ g, g = G9 := ⟨_, rfl⟩
        rw [← hG9] at hm hB
        have hM := hM.stp hm (by decide)
        have a_h4 := hm.at a_h4 (by decide)
        obtain ⟨g51, r52, a_h5, f_g51⟩ := hm.ex a_h5
        exact iv_zret X hr hlocks hB i_x48 ⟨hM, i_x48, fun _ => i2_x_0⟩ dX4_seatFrom_41
    · skip
      exact (q_10.cutHi (n := 9) (iv_le_r (iv_nlt c5) i2_x_0)).no (by decide)
theorem dX4_seatAll_0 : decode cX4_seatAll 0 = .ok (.iconst 0, 1) := by decide +kernel
theorem dX4_seatAll_1 : decode cX4_seatAll 1 = .ok (.istore_n 1, 1) := by decide +kernel
theorem dX4_seatAll_2 : decode cX4_seatAll 2 = .ok (.iconst 0, 1) := by decide +kernel
theorem dX4_seatAll_3 : decode cX4_seatAll 3 = .ok (.iconst 0, 1) := by decide +kernel
theorem dX4_seatAll_4 : decode cX4_seatAll 4 = .ok (.iload_n 1, 1) := by decide +kernel
theorem dX4_seatAll_5 : decode cX4_seatAll 5 = .ok (.aload_n 0, 1) := by decide +kernel
theorem dX4_seatAll_6 : decode cX4_seatAll 6 = .ok (.getfield 21, 3) := by decide +kernel
theorem dX4_seatAll_9 : decode cX4_seatAll 9 = .ok (.aload_n 0, 1) := by decide +kernel
theorem dX4_seatAll_10 : decode cX4_seatAll 10 = .ok (.getfield 9, 3) := by decide +kernel
theorem dX4_seatAll_13 : decode cX4_seatAll 13 = .ok (.invokestatic 25, 3) := by decide +kernel
theorem dX4_seatAll_16 : decode cX4_seatAll 16 = .ok (.ifCond .ne 15, 3) := by decide +kernel
theorem dX4_seatAll_19 : decode cX4_seatAll 19 = .ok (.iload_n 1, 1) := by decide +kernel
theorem dX4_seatAll_20 : decode cX4_seatAll 20 = .ok (.bipush 10, 2) := by decide +kernel
theorem dX4_seatAll_22 : decode cX4_seatAll 22 = .ok (.if_icmp .ge 9, 3) := by decide +kernel
theorem dX4_seatAll_25 : decode cX4_seatAll 25 = .ok (.iinc 1 1, 3) := by decide +kernel
theorem dX4_seatAll_28 : decode cX4_seatAll 28 = .ok (.goto (-26), 3) := by decide +kernel
theorem dX4_seatAll_31 : decode cX4_seatAll 31 = .ok (.iload_n 1, 1) := by decide +kernel
theorem dX4_seatAll_32 : decode cX4_seatAll 32 = .ok (.ireturn, 1) := by decide +kernel
set_option maxHeartbeats 4000000 in
set_option maxRecDepth 100000 in
theorem c_X4_seatAll (l : Launch) (D : va_G) (tys : List (ClassId × FieldType)) (base : Nat) (G : iv_G) (h0 : Nat) (g_h0 : Nat → Int32) (r_h0 : Nat → Nat) (a_h0 : G h0 = some (4, g_h0, r_h0)) : Met l yX4_seatAll (Cond.code yX4_seatAll cX4_seatAll 2 (some .int) :: iv_W0) ({ frames := 4, cells := 0, slots := 0, locals := 84 }) (iv_Pc iv_sh D classes tys base G [.ref h0]) (iv_Qi iv_sh D classes tys base (fun v G' => iv_Md [31] G G' ∧ iv_R 0 10 v)) 0 0 (iv_A base) := by
  refine iv_head (by decide) (Nat.le_of_ble_eq_true rfl) ?_
  intro p e s m args below meth c ls X hr hlocks hname hB hl
  have X := X
  have hx := X.1.1
  have hb := X.1.2.1
  have hM : iv_Md [31] G G := iv_Md.rf
  have hl : lv_has ls 2 [(0, .ref h0)] := hl
  refine lv_iconst (v := 0) hx hb dX4_seatAll_0 (by decide) ?_
  refine lv_istore_n (lv' := [(1, .int 0), (0, .ref h0)]) hx hb dX4_seatAll_1 rfl hl (by decide) rfl (fun ls hl => ?_)
  have L_2 : ∀ (n_2 : Nat) (G4 : iv_G) (hM : iv_Md [31] G G4) (H : Heap) (locs : List Loc) (hB : iv_B iv_sh D classes tys base G4 s.heap H locs) (g2 : Nat → Int32) (r3 : Nat → Nat) (a_h0 : G4 h0 = some (4, g2, r3)) (x1 : Int32) (i_x1 : iv_R 0 10 x1) (hn : (11 - x1.toInt).toNat < n_2) (ls : Array Slot) (hl : lv_has ls 2 [(1, .int x1), (0, .ref h0)]), W p l e ({ frames := 4, cells := 0, slots := 0, locals := 84 } : Room) s m args below meth c H locs 0 0 (MQ below (iv_Qi iv_sh D classes tys base (fun v G' => iv_Md [31] G G' ∧ iv_R 0 10 v)) args s 0 0 (iv_A base)) (F0 m 2 ls []) := by
    intro n_2
    induction n_2 with
    | zero => intro G4 hM H locs hB g2 r3 a_h0 x1 i_x1 hn ls hl; exact absurd hn (Nat.not_lt_zero _)
    | succ n_2 ih_2 =>
      intro G4 hM H locs hB g2 r3 a_h0 x1 i_x1 hn ls hl
      refine lv_iconst (v := 0) hx hb dX4_seatAll_2 (by decide) ?_
      refine lv_iconst (v := 0) hx hb dX4_seatAll_3 (by decide) ?_
      refine lv_iload_n hx hb dX4_seatAll_4 rfl (lv_at hl 0 rfl) ?_
      refine lv_aload_n hx hb dX4_seatAll_5 rfl (lv_at hl 1 rfl) ?_
      refine iv_getr X ft_X4 hB a_h0 sh_4 0 (by decide) rfl k_fl_X4_21 dX4_seatAll_6 (fun b5 g_b5 r_b5 e_b5 a_b5 => ?_)
      refine lv_aload_n hx hb dX4_seatAll_9 rfl (lv_at hl 1 rfl) ?_
      refine iv_getr X ft_X4 hB a_h0 sh_4 1 (by decide) rfl k_fl_X4_9 dX4_seatAll_10 (fun b6 g_b6 r_b6 e_b6 a_b6 => ?_)
      refine iv_cSi X k_good k_mf_X4_seatFrom k_st_X4_seatFrom k_ml_X4_25 hB (As := [.int 0, .int 0, .int x1, .ref b5, .ref b6]) (c_X4_seatFrom l D tys base G4 0 (q_0.wk (by decide)) 0 (q_0.wk (by decide)) x1 i_x1 b5 g_b5 r_b5 a_b5 b6 g_b6 r_b6 a_b6) ⟨rfl, rfl⟩ ⟨Nat.le_of_ble_eq_true rfl, Nat.le_of_ble_eq_true rfl⟩ ⟨Nat.le_of_ble_eq_true rfl, Nat.le_of_ble_eq_true rfl⟩ rfl rfl hl.1 (Nat.le_of_ble_eq_true rfl) dX4_seatAll_13 (fun x7 G9 H locs hq hB => ?_)
      obtain ⟨hm, i_x7, hp8⟩ := hq
      obtain ⟨G9, hG9⟩ : ∃ g, g = G9 := ⟨_, rfl⟩
      rw [← hG9] at hm hB
      have hM := hM.stp hm (by decide)
      have a_h0 := hm.at a_h0 (by decide)
      refine lv_if_ne (tgt := 31) hx hb dX4_seatAll_16 (by decide) (fun c10 => ?_) (fun c10 => ?_)
      · skip
        have i10_x7 : iv_R 1 1 x7 := iv_ne_lo c10 i_x7 q_0 (by decide)
        refine lv_iload_n hx hb dX4_seatAll_31 rfl (lv_at hl 0 rfl) ?_
        exact iv_iret X hr hlocks hB ⟨hM, i_x1⟩ dX4_seatAll_32
      · skip
        have i11_x7 : iv_R 0 0 x7 := (i_x7.cutHi (n := 0) (iv_eq_r c10 q_0).2)
        refine lv_iload_n hx hb dX4_seatAll_19 rfl (lv_at hl 0 rfl) ?_
        refine lv_bipush (v := 10) hx hb dX4_seatAll_20 (by decide) ?_
        refine lv_icmp_ge (tgt := 31) hx hb dX4_seatAll_22 (by decide) (fun c13 => ?_) (fun c13 => ?_)
        · skip
          have i13_x1 : iv_R 10 10 x1 := (i_x1.cutLo (n := 10) (iv_le_l c13 q_10))
          refine lv_iload_n hx hb dX4_seatAll_31 rfl (lv_at hl 0 rfl) ?_
          exact iv_iret X hr hlocks hB ⟨hM, (i13_x1.wk (by decide))⟩ dX4_seatAll_32
        · skip
          have i14_x1 : iv_R 0 9 x1 := (i_x1.cutHi (n := 9) (iv_lt_r (iv_nle c13) q_10 (by decide)))
          refine iv_iinc hx hb i14_x1 (lo := 1) (hi := 10) (by decide) dX4_seatAll_25 hl (k := 0) rfl (by decide) (fun x16 ls e_x16 i_x16 hl => ?_)
          have hl : lv_has ls 2 [(1, .int x16), (0, .ref h0)] := hl
          refine lv_goto (tgt := 2) hx hb dX4_seatAll_28 (by decide) ?_
          exact ih_2 G9 hM _ _ hB g2 r3 a_h0 x16 (i_x16.wk (by decide)) (iv_mup (c := 1) i_x1 (by decide) (by decide) (by omega) hn) _ (lv_sub hl [0, 1] rfl)
  exact L_2 _ G hM _ _ hB g_h0 r_h0 a_h0 0 (q_0.wk (by decide)) (Nat.lt_succ_self _) _ (lv_sub hl [0, 1] rfl)
theorem dX11_rows_0 : decode cX11_rows 0 = .ok (.iload_n 1, 1) := by decide +kernel
theorem dX11_rows_1 : decode cX11_rows 1 = .ok (.iconst 1, 1) := by decide +kernel
theorem dX11_rows_2 : decode cX11_rows 2 = .ok (.bipush 10, 2) := by decide +kernel
theorem dX11_rows_4 : decode cX11_rows 4 = .ok (.invokestatic 83, 3) := by decide +kernel
theorem dX11_rows_7 : decode cX11_rows 7 = .ok (.ifCond .eq 21, 3) := by decide +kernel
theorem dX11_rows_10 : decode cX11_rows 10 = .ok (.iload_n 2, 1) := by decide +kernel
theorem dX11_rows_11 : decode cX11_rows 11 = .ok (.ifCond .eq 19, 3) := by decide +kernel
theorem dX11_rows_14 : decode cX11_rows 14 = .ok (.aload_n 0, 1) := by decide +kernel
theorem dX11_rows_15 : decode cX11_rows 15 = .ok (.getfield 12, 3) := by decide +kernel
theorem dX11_rows_18 : decode cX11_rows 18 = .ok (.iload_n 2, 1) := by decide +kernel
theorem dX11_rows_19 : decode cX11_rows 19 = .ok (.bipush 10, 2) := by decide +kernel
theorem dX11_rows_21 : decode cX11_rows 21 = .ok (.isub, 1) := by decide +kernel
theorem dX11_rows_22 : decode cX11_rows 22 = .ok (.invokevirtual 119, 3) := by decide +kernel
theorem dX11_rows_25 : decode cX11_rows 25 = .ok (.ifCond .ne 5, 3) := by decide +kernel
theorem dX11_rows_28 : decode cX11_rows 28 = .ok (.iconst (-1), 1) := by decide +kernel
theorem dX11_rows_29 : decode cX11_rows 29 = .ok (.ireturn, 1) := by decide +kernel
theorem dX11_rows_30 : decode cX11_rows 30 = .ok (.aload_n 0, 1) := by decide +kernel
theorem dX11_rows_31 : decode cX11_rows 31 = .ok (.getfield 65, 3) := by decide +kernel
theorem dX11_rows_34 : decode cX11_rows 34 = .ok (.invokevirtual 306, 3) := by decide +kernel
theorem dX11_rows_37 : decode cX11_rows 37 = .ok (.istore_n 3, 1) := by decide +kernel
theorem dX11_rows_38 : decode cX11_rows 38 = .ok (.iload_n 3, 1) := by decide +kernel
theorem dX11_rows_39 : decode cX11_rows 39 = .ok (.iload_n 1, 1) := by decide +kernel
theorem dX11_rows_40 : decode cX11_rows 40 = .ok (.if_icmp .le 5, 3) := by decide +kernel
theorem dX11_rows_43 : decode cX11_rows 43 = .ok (.iconst (-1), 1) := by decide +kernel
theorem dX11_rows_44 : decode cX11_rows 44 = .ok (.ireturn, 1) := by decide +kernel
theorem dX11_rows_45 : decode cX11_rows 45 = .ok (.iload_n 2, 1) := by decide +kernel
theorem dX11_rows_46 : decode cX11_rows 46 = .ok (.ifCond .ne 7, 3) := by decide +kernel
theorem dX11_rows_49 : decode cX11_rows 49 = .ok (.iload_n 3, 1) := by decide +kernel
theorem dX11_rows_50 : decode cX11_rows 50 = .ok (.goto 14, 3) := by decide +kernel
theorem dX11_rows_53 : decode cX11_rows 53 = .ok (.aload_n 0, 1) := by decide +kernel
theorem dX11_rows_54 : decode cX11_rows 54 = .ok (.getfield 65, 3) := by decide +kernel
theorem dX11_rows_57 : decode cX11_rows 57 = .ok (.iload_n 2, 1) := by decide +kernel
theorem dX11_rows_58 : decode cX11_rows 58 = .ok (.bipush 10, 2) := by decide +kernel
theorem dX11_rows_60 : decode cX11_rows 60 = .ok (.isub, 1) := by decide +kernel
theorem dX11_rows_61 : decode cX11_rows 61 = .ok (.invokevirtual 310, 3) := by decide +kernel
theorem dX11_rows_64 : decode cX11_rows 64 = .ok (.ireturn, 1) := by decide +kernel
set_option maxHeartbeats 4000000 in
set_option maxRecDepth 100000 in
theorem c_X11_rows (l : Launch) (D : va_G) (tys : List (ClassId × FieldType)) (base : Nat) (G : iv_G) (h0 : Nat) (g_h0 : Nat → Int32) (r_h0 : Nat → Nat) (a_h0 : G h0 = some (11, g_h0, r_h0)) (x_0 : Int32) (i_x_0 : iv_R (-2147483648) 2147483647 x_0) (x_1 : Int32) (i_x_1 : iv_R (-2147483648) 2147483647 x_1) : Met l yX11_rows (Cond.code yX11_rows cX11_rows 4 (some .int) :: iv_W0) ({ frames := 5, cells := 0, slots := 0, locals := 105 }) (iv_Pc iv_sh D classes tys base G [.ref h0, .int x_0, .int x_1]) (iv_Qi iv_sh D classes tys base (fun v G' => iv_Md [31] G G' ∧ iv_R (-2147483648) 2147483647 v)) 0 0 (iv_A base) := by
  refine iv_head (by decide) (Nat.le_of_ble_eq_true rfl) ?_
  intro p e s m args below meth c ls X hr hlocks hname hB hl
  have X := X
  have hx := X.1.1
  have hb := X.1.2.1
  have hM : iv_Md [31] G G := iv_Md.rf
  have hl : lv_has ls 4 [(0, .ref h0), (1, .int x_0), (2, .int x_1)] := hl
  refine lv_iload_n hx hb dX11_rows_0 rfl (lv_at hl 1 rfl) ?_
  refine lv_iconst (v := 1) hx hb dX11_rows_1 (by decide) ?_
  refine lv_bipush (v := 10) hx hb dX11_rows_2 (by decide) ?_
  refine iv_cSi X k_good k_mf_X11_isWithin k_st_X11_isWithin k_ml_X11_83 hB (As := [.int x_0, .int 1, .int 10]) (c_X11_isWithin l D tys base G x_0 i_x_0 1 (q_1.wk (by decide)) 10 (q_10.wk (by decide))) ⟨rfl, rfl⟩ ⟨Nat.le_of_ble_eq_true rfl, Nat.le_of_ble_eq_true rfl⟩ ⟨Nat.le_of_ble_eq_true rfl, Nat.le_of_ble_eq_true rfl⟩ rfl rfl hl.1 (Nat.le_of_ble_eq_true rfl) dX11_rows_4 (fun x1 G9 H locs hq hB => ?_)
  obtain ⟨rfl, i_x1, hp2⟩ := hq
  have k3 : ¬ x1 = 0 → iv_R 1 10 x_0 := fun h => ⟨iv_max i_x_0.1 (Int.le_trans q_1.1 (hp2.1 h).1) (by decide), iv_min i_x_0.2 (Int.le_trans (hp2.1 h).2 q_10.2) (by decide)⟩
  refine lv_if_eq (tgt := 28) hx hb dX11_rows_7 (by decide) (fun c4 => ?_) (fun c4 => ?_)
  · skip
    have i4_x1 : iv_R 0 0 x1 := (i_x1.cutHi (n := 0) (iv_eq_r c4 q_0).2)
    refine lv_iconst (v := (-1)) hx hb dX11_rows_28 (by decide) ?_
    exact iv_iret X hr hlocks hB ⟨hM, (q_n1.wk (by decide))⟩ dX11_rows_29
  · skip
    have i5_x1 : iv_R 1 1 x1 := iv_ne_lo c4 i_x1 q_0 (by decide)
    have i6_x_0 : iv_R 1 10 x_0 := ((i_x_0.cutLo (n := 1) (k3 c4).1).cutHi (n := 10) (k3 c4).2)
    refine lv_iload_n hx hb dX11_rows_10 rfl (lv_at hl 2 rfl) ?_
    refine lv_if_eq (tgt := 30) hx hb dX11_rows_11 (by decide) (fun c8 => ?_) (fun c8 => ?_)
    · skip
      have i8_x_1 : iv_R 0 0 x_1 := ((i_x_1.cutLo (n := 0) (iv_eq_r c8 q_0).1).cutHi (n := 0) (iv_eq_r c8 q_0).2)
      refine lv_aload_n hx hb dX11_rows_30 rfl (lv_at hl 0 rfl) ?_
      refine iv_getr X ft_X11 hB a_h0 sh_11 10 (by decide) rfl k_fl_X11_65 dX11_rows_31 (fun b10 g_b10 r_b10 e_b10 a_b10 => ?_)
      refine iv_cVi X k_good k_mf_X4_seatAll k_im_X4_seatAll k_sel_X4_seatAll k_ml_X11_306 ft_X4 hB a_b10 sh_4 (As := []) (c_X4_seatAll l D tys base G b10 g_b10 r_b10 a_b10) ⟨rfl, rfl⟩ ⟨Nat.le_of_ble_eq_true rfl, Nat.le_of_ble_eq_true rfl⟩ ⟨Nat.le_of_ble_eq_true rfl, Nat.le_of_ble_eq_true rfl⟩ rfl rfl hl.1 (Nat.le_of_ble_eq_true rfl) dX11_rows_34 (fun x11 G9 H locs hq hB => ?_)
      obtain ⟨hm, i_x11⟩ := hq
      obtain ⟨G12, hG9⟩ : ∃ g, g = G9 := ⟨_, rfl⟩
      rw [← hG9] at hm hB
      have hM := hM.stp hm (by decide)
      have a_h0 := hm.at a_h0 (by decide)
      refine lv_istore_n (lv' := [(3, .int x11), (0, .ref h0), (1, .int x_0), (2, .int x_1)]) hx hb dX11_rows_37 rfl hl (by decide) rfl (fun ls hl => ?_)
      refine lv_iload_n hx hb dX11_rows_38 rfl (lv_at hl 0 rfl) ?_
      refine lv_iload_n hx hb dX11_rows_39 rfl (lv_at hl 2 rfl) ?_
      refine lv_icmp_le (tgt := 45) hx hb dX11_rows_40 (by decide) (fun c13 => ?_) (fun c13 => ?_)
      · skip
        refine lv_iload_n hx hb dX11_rows_45 rfl (lv_at hl 3 rfl) ?_
        refine lv_if_ne (tgt := 53) hx hb dX11_rows_46 (by decide) (fun c14 => ?_) (fun c14 => ?_)
        · skip
          exact (iv_ne_lo c14 i8_x_1 q_0 (a' := 1) (by decide)).no (by decide)
        · skip
          refine lv_iload_n hx hb dX11_rows_49 rfl (lv_at hl 0 rfl) ?_
          refine lv_goto (tgt := 64) hx hb dX11_rows_50 (by decide) ?_
          exact iv_iret X hr hlocks hB ⟨hM, (i_x11.wk (by decide))⟩ dX11_rows_64
      · skip
        have i14_x_0 : iv_R 1 9 x_0 := (i6_x_0.cutHi (n := 9) (iv_lt_r (iv_nle c13) i_x11 (by decide)))
        have i15_x11 : iv_R 2 10 x11 := (i_x11.cutLo (n := 2) (iv_lt_l (iv_nle c13) i6_x_0 (by decide)))
        refine lv_iconst (v := (-1)) hx hb dX11_rows_43 (by decide) ?_
        exact iv_iret X hr hlocks hB ⟨hM, (q_n1.wk (by decide))⟩ dX11_rows_44
    · skip
      refine lv_aload_n hx hb dX11_rows_14 rfl (lv_at hl 0 rfl) ?_
      refine iv_getr X ft_X11 hB a_h0 sh_11 0 (by decide) rfl k_fl_X11_12 dX11_rows_15 (fun b17 g_b17 r_b17 e_b17 a_b17 => ?_)
      refine lv_iload_n hx hb dX11_rows_18 rfl (lv_at hl 2 rfl) ?_
      refine lv_bipush (v := 10) hx hb dX11_rows_19 (by decide) ?_
      refine lv_isub hx hb dX11_rows_21 ?_
      refine lv_topi (fun x18 e_x18 => ?_)
      have i_x18 := iv_R.all x18
      refine iv_cVi X k_good k_mf_X5_hasBell k_im_X5_hasBell k_sel_X5_hasBell k_ml_X11_119 ft_X5 hB a_b17 sh_5 (As := [.int x18]) (c_X5_hasBell l D tys base G b17 g_b17 r_b17 a_b17 x18 i_x18) ⟨rfl, rfl⟩ ⟨Nat.le_of_ble_eq_true rfl, Nat.le_of_ble_eq_true rfl⟩ ⟨Nat.le_of_ble_eq_true rfl, Nat.le_of_ble_eq_true rfl⟩ rfl rfl hl.1 (Nat.le_of_ble_eq_true rfl) dX11_rows_22 (fun x19 G9 H locs hq hB => ?_)
      obtain ⟨rfl, i_x19, hp20⟩ := hq
      refine lv_if_ne (tgt := 30) hx hb dX11_rows_25 (by decide) (fun c21 => ?_) (fun c21 => ?_)
      · skip
        have i21_x19 : iv_R 1 1 x19 := iv_ne_lo c21 i_x19 q_0 (by decide)
        have i22_x18 : iv_R 0 9 x18 := ((i_x18.cutLo (n := 0) (hp20 c21).1).cutHi (n := 9) (hp20 c21).2)
        refine lv_aload_n hx hb dX11_rows_30 rfl (lv_at hl 0 rfl) ?_
        refine iv_getr X ft_X11 hB a_h0 sh_11 10 (by decide) rfl k_fl_X11_65 dX11_rows_31 (fun b24 g_b24 r_b24 e_b24 a_b24 => ?_)
        refine iv_cVi X k_good k_mf_X4_seatAll k_im_X4_seatAll k_sel_X4_seatAll k_ml_X11_306 ft_X4 hB a_b24 sh_4 (As := []) (c_X4_seatAll l D tys base G b24 g_b24 r_b24 a_b24) ⟨rfl, rfl⟩ ⟨Nat.le_of_ble_eq_true rfl, Nat.le_of_ble_eq_true rfl⟩ ⟨Nat.le_of_ble_eq_true rfl, Nat.le_of_ble_eq_true rfl⟩ rfl rfl hl.1 (Nat.le_of_ble_eq_true rfl) dX11_rows_34 (fun x25 G9 H locs hq hB => ?_)
        obtain ⟨hm, i_x25⟩ := hq
        obtain ⟨G26, hG9⟩ : ∃ g, g = G9 := ⟨_, rfl⟩
        rw [← hG9] at hm hB
        have hM := hM.stp hm (by decide)
        have a_h0 := hm.at a_h0 (by decide)
        refine lv_istore_n (lv' := [(3, .int x25), (0, .ref h0), (1, .int x_0), (2, .int x_1)]) hx hb dX11_rows_37 rfl hl (by decide) rfl (fun ls hl => ?_)
        refine lv_iload_n hx hb dX11_rows_38 rfl (lv_at hl 0 rfl) ?_
        refine lv_iload_n hx hb dX11_rows_39 rfl (lv_at hl 2 rfl) ?_
        refine lv_icmp_le (tgt := 45) hx hb dX11_rows_40 (by decide) (fun c27 => ?_) (fun c27 => ?_)
        · skip
          refine lv_iload_n hx hb dX11_rows_45 rfl (lv_at hl 3 rfl) ?_
          refine lv_if_ne (tgt := 53) hx hb dX11_rows_46 (by decide) (fun c28 => ?_) (fun c28 => ?_)
          · skip
            refine lv_aload_n hx hb dX11_rows_53 rfl (lv_at hl 1 rfl) ?_
            refine iv_getr X ft_X11 hB a_h0 sh_11 10 (by decide) rfl k_fl_X11_65 dX11_rows_54 (fun b29 g_b29 r_b29 e_b29 a_b29 => ?_)
            refine lv_iload_n hx hb dX11_rows_57 rfl (lv_at hl 3 rfl) ?_
            refine lv_bipush (v := 10) hx hb dX11_rows_58 (by decide) ?_
            refine lv_isub hx hb dX11_rows_60 ?_
            refine lv_topi (fun x30 e_x30 => ?_)
            have i_x30 := iv_R.all x30
            refine iv_cVi X k_good k_mf_X4_hourOf k_im_X4_hourOf k_sel_X4_hourOf k_ml_X11_310 ft_X4 hB a_b29 sh_4 (As := [.int x30]) (c_X4_hourOf l D tys base G26 b29 g_b29 r_b29 a_b29 x30 i_x30) ⟨rfl, rfl⟩ ⟨Nat.le_of_ble_eq_true rfl, Nat.le_of_ble_eq_true rfl⟩ ⟨Nat.le_of_ble_eq_true rfl, Nat.le_of_ble_eq_true rfl⟩ rfl rfl hl.1 (Nat.le_of_ble_eq_true rfl) dX11_rows_61 (fun x31 G9 H locs hq hB => ?_)
            obtain ⟨rfl, i_x31⟩ := hq
            exact iv_iret X hr hlocks hB ⟨hM, i_x31⟩ dX11_rows_64
          · skip
            have i31_x_1 : iv_R 0 0 x_1 := ((i_x_1.cutLo (n := 0) (iv_eq_r c28 q_0).1).cutHi (n := 0) (iv_eq_r c28 q_0).2)
            refine lv_iload_n hx hb dX11_rows_49 rfl (lv_at hl 0 rfl) ?_
            refine lv_goto (tgt := 64) hx hb dX11_rows_50 (by decide) ?_
            exact iv_iret X hr hlocks hB ⟨hM, (i_x25.wk (by decide))⟩ dX11_rows_64
        · skip
          have i32_x_0 : iv_R 1 9 x_0 := (i6_x_0.cutHi (n := 9) (iv_lt_r (iv_nle c27) i_x25 (by decide)))
          have i33_x25 : iv_R 2 10 x25 := (i_x25.cutLo (n := 2) (iv_lt_l (iv_nle c27) i6_x_0 (by decide)))
          refine lv_iconst (v := (-1)) hx hb dX11_rows_43 (by decide) ?_
          exact iv_iret X hr hlocks hB ⟨hM, (q_n1.wk (by decide))⟩ dX11_rows_44
      · skip
        have i34_x19 : iv_R 0 0 x19 := (i_x19.cutHi (n := 0) (iv_eq_r c21 q_0).2)
        refine lv_iconst (v := (-1)) hx hb dX11_rows_28 (by decide) ?_
        exact iv_iret X hr hlocks hB ⟨hM, (q_n1.wk (by decide))⟩ dX11_rows_29
theorem dX11_set_0 : decode cX11_set 0 = .ok (.iload_n 1, 1) := by decide +kernel
theorem dX11_set_1 : decode cX11_set 1 = .ok (.iconst 3, 1) := by decide +kernel
theorem dX11_set_2 : decode cX11_set 2 = .ok (.if_icmp .lt 13, 3) := by decide +kernel
theorem dX11_set_5 : decode cX11_set 5 = .ok (.aload_n 0, 1) := by decide +kernel
theorem dX11_set_6 : decode cX11_set 6 = .ok (.iload_n 1, 1) := by decide +kernel
theorem dX11_set_7 : decode cX11_set 7 = .ok (.iload_n 2, 1) := by decide +kernel
theorem dX11_set_8 : decode cX11_set 8 = .ok (.iload_n 3, 1) := by decide +kernel
theorem dX11_set_9 : decode cX11_set 9 = .ok (.invokevirtual 103, 3) := by decide +kernel
theorem dX11_set_12 : decode cX11_set 12 = .ok (.goto 9, 3) := by decide +kernel
theorem dX11_set_15 : decode cX11_set 15 = .ok (.aload_n 0, 1) := by decide +kernel
theorem dX11_set_16 : decode cX11_set 16 = .ok (.iload_n 1, 1) := by decide +kernel
theorem dX11_set_17 : decode cX11_set 17 = .ok (.iload_n 3, 1) := by decide +kernel
theorem dX11_set_18 : decode cX11_set 18 = .ok (.invokevirtual 106, 3) := by decide +kernel
theorem dX11_set_21 : decode cX11_set 21 = .ok (.istore 4, 2) := by decide +kernel
theorem dX11_set_23 : decode cX11_set 23 = .ok (.iload 4, 2) := by decide +kernel
theorem dX11_set_25 : decode cX11_set 25 = .ok (.ifCond .eq 10, 3) := by decide +kernel
theorem dX11_set_28 : decode cX11_set 28 = .ok (.aload_n 0, 1) := by decide +kernel
theorem dX11_set_29 : decode cX11_set 29 = .ok (.getfield 22, 3) := by decide +kernel
theorem dX11_set_32 : decode cX11_set 32 = .ok (.invokevirtual 76, 3) := by decide +kernel
theorem dX11_set_35 : decode cX11_set 35 = .ok (.iload 4, 2) := by decide +kernel
theorem dX11_set_37 : decode cX11_set 37 = .ok (.ireturn, 1) := by decide +kernel
set_option maxHeartbeats 4000000 in
set_option maxRecDepth 100000 in
theorem c_X11_set (l : Launch) (D : va_G) (tys : List (ClassId × FieldType)) (base : Nat) (G : iv_G) (h0 : Nat) (g_h0 : Nat → Int32) (r_h0 : Nat → Nat) (a_h0 : G h0 = some (11, g_h0, r_h0)) (x_0 : Int32) (i_x_0 : iv_R (-2147483648) 2147483647 x_0) (x_1 : Int32) (i_x_1 : iv_R (-2147483648) 2147483647 x_1) (x_2 : Int32) (i_x_2 : iv_R (-2147483648) 2147483647 x_2) : Met l yX11_set (Cond.code yX11_set cX11_set 5 (some .boolean) :: iv_W0) ({ frames := 2, cells := 0, slots := 0, locals := 46 }) (iv_Pc iv_sh D classes tys base G [.ref h0, .int x_0, .int x_1, .int x_2]) (iv_Qi iv_sh D classes tys base (fun v G' => iv_Md [1, 5, 6] G G' ∧ iv_R 0 1 v ∧ (¬ v = 0 → iv_R 0 5 x_0) ∧ (¬ v = 0 → iv_R 0 1000 x_2))) 0 0 (iv_A base) := by
  refine iv_head (by decide) (Nat.le_of_ble_eq_true rfl) ?_
  intro p e s m args below meth c ls X hr hlocks hname hB hl
  have X := X
  have hx := X.1.1
  have hb := X.1.2.1
  have hM : iv_Md [1, 5, 6] G G := iv_Md.rf
  have hl : lv_has ls 5 [(0, .ref h0), (1, .int x_0), (2, .int x_1), (3, .int x_2)] := hl
  refine lv_iload_n hx hb dX11_set_0 rfl (lv_at hl 1 rfl) ?_
  refine lv_iconst (v := 3) hx hb dX11_set_1 (by decide) ?_
  refine lv_icmp_lt (tgt := 15) hx hb dX11_set_2 (by decide) (fun c1 => ?_) (fun c1 => ?_)
  · skip
    have i1_x_0 : iv_R (-2147483648) 2 x_0 := (i_x_0.cutHi (n := 2) (iv_lt_r c1 q_3 (by decide)))
    refine lv_aload_n hx hb dX11_set_15 rfl (lv_at hl 0 rfl) ?_
    refine lv_iload_n hx hb dX11_set_16 rfl (lv_at hl 1 rfl) ?_
    refine lv_iload_n hx hb dX11_set_17 rfl (lv_at hl 3 rfl) ?_
    refine iv_cVi X k_good k_mf_X11_isSetForAll k_im_X11_isSetForAll k_sel_X11_isSetForAll k_ml_X11_106 ft_X11 hB a_h0 sh_11 (As := [.int x_0, .int x_2]) (c_X11_isSetForAll l D tys base G h0 g_h0 r_h0 a_h0 x_0 i1_x_0 x_2 i_x_2) ⟨rfl, rfl⟩ ⟨Nat.le_of_ble_eq_true rfl, Nat.le_of_ble_eq_true rfl⟩ ⟨Nat.le_of_ble_eq_true rfl, Nat.le_of_ble_eq_true rfl⟩ rfl rfl hl.1 (Nat.le_of_ble_eq_true rfl) dX11_set_18 (fun x3 G9 H locs hq hB => ?_)
    obtain ⟨hm, i_x3, hp4⟩ := hq
    obtain ⟨G5, hG9⟩ : ∃ g, g = G9 := ⟨_, rfl⟩
    rw [← hG9] at hm hB
    have hM := hM.stp hm (by decide)
    have a_h0 := hm.at a_h0 (by decide)
    refine lv_istore (lv' := [(4, .int x3), (0, .ref h0), (1, .int x_0), (2, .int x_1), (3, .int x_2)]) hx hb dX11_set_21 hl (by decide) rfl (fun ls hl => ?_)
    refine lv_iload hx hb dX11_set_23 (lv_at hl 0 rfl) ?_
    refine lv_if_eq (tgt := 35) hx hb dX11_set_25 (by decide) (fun c6 => ?_) (fun c6 => ?_)
    · skip
      have i6_x3 : iv_R 0 0 x3 := (i_x3.cutHi (n := 0) (iv_eq_r c6 q_0).2)
      refine lv_iload hx hb dX11_set_35 (lv_at hl 0 rfl) ?_
      exact iv_zret X hr hlocks hB (i6_x3.wk (by decide)) ⟨hM, (i6_x3.wk (by decide)), fun h => absurd (iv_z i6_x3) h, fun h => absurd (iv_z i6_x3) h⟩ dX11_set_37
    · skip
      have i7_x3 : iv_R 1 1 x3 := iv_ne_lo c6 i_x3 q_0 (by decide)
      have i8_x_0 : iv_R 0 2 x_0 := (i1_x_0.cutLo (n := 0) (hp4.1 c6).1)
      have i9_x_2 : iv_R 0 1000 x_2 := ((i_x_2.cutLo (n := 0) (hp4.2 c6).1).cutHi (n := 1000) (hp4.2 c6).2)
      refine lv_aload_n hx hb dX11_set_28 rfl (lv_at hl 1 rfl) ?_
      refine iv_getr X ft_X11 hB a_h0 sh_11 3 (by decide) rfl k_fl_X11_22 dX11_set_29 (fun b11 g_b11 r_b11 e_b11 a_b11 => ?_)
      refine iv_cVv X k_good k_mf_X6_forget k_im_X6_forget k_sel_X6_forget k_ml_X11_76 ft_X6 hB a_b11 sh_6 (As := []) (c_X6_forget l D tys base G5 b11 g_b11 r_b11 a_b11) ⟨rfl, rfl⟩ ⟨Nat.le_of_ble_eq_true rfl, Nat.le_of_ble_eq_true rfl⟩ ⟨Nat.le_of_ble_eq_true rfl, Nat.le_of_ble_eq_true rfl⟩ rfl rfl hl.1 (Nat.le_of_ble_eq_true rfl) dX11_set_32 (fun G9 H locs hq hB => ?_)
      have hm := hq
      obtain ⟨G12, hG9⟩ : ∃ g, g = G9 := ⟨_, rfl⟩
      rw [← hG9] at hm hB
      have hM := hM.stp hm (by decide)
      have a_h0 := hm.at a_h0 (by decide)
      refine lv_iload hx hb dX11_set_35 (lv_at hl 0 rfl) ?_
      exact iv_zret X hr hlocks hB (i7_x3.wk (by decide)) ⟨hM, (i7_x3.wk (by decide)), fun _ => (i8_x_0.wk (by decide)), fun _ => i9_x_2⟩ dX11_set_37
  · skip
    have i12_x_0 : iv_R 3 2147483647 x_0 := (i_x_0.cutLo (n := 3) (iv_le_l (iv_nlt c1) q_3))
    refine lv_aload_n hx hb dX11_set_5 rfl (lv_at hl 0 rfl) ?_
    refine lv_iload_n hx hb dX11_set_6 rfl (lv_at hl 1 rfl) ?_
    refine lv_iload_n hx hb dX11_set_7 rfl (lv_at hl 2 rfl) ?_
    refine lv_iload_n hx hb dX11_set_8 rfl (lv_at hl 3 rfl) ?_
    refine iv_cVi X k_good k_mf_X11_isSetForBell k_im_X11_isSetForBell k_sel_X11_isSetForBell k_ml_X11_103 ft_X11 hB a_h0 sh_11 (As := [.int x_0, .int x_1, .int x_2]) (c_X11_isSetForBell l D tys base G h0 g_h0 r_h0 a_h0 x_0 i12_x_0 x_1 i_x_1 x_2 i_x_2) ⟨rfl, rfl⟩ ⟨Nat.le_of_ble_eq_true rfl, Nat.le_of_ble_eq_true rfl⟩ ⟨Nat.le_of_ble_eq_true rfl, Nat.le_of_ble_eq_true rfl⟩ rfl rfl hl.1 (Nat.le_of_ble_eq_true rfl) dX11_set_9 (fun x14 G9 H locs hq hB => ?_)
    obtain ⟨hm, i_x14, hp15⟩ := hq
    obtain ⟨G16, hG9⟩ : ∃ g, g = G9 := ⟨_, rfl⟩
    rw [← hG9] at hm hB
    have hM := hM.stp hm (by decide)
    have a_h0 := hm.at a_h0 (by decide)
    refine lv_goto (tgt := 21) hx hb dX11_set_12 (by decide) ?_
    refine lv_istore (lv' := [(4, .int x14), (0, .ref h0), (1, .int x_0), (2, .int x_1), (3, .int x_2)]) hx hb dX11_set_21 hl (by decide) rfl (fun ls hl => ?_)
    refine lv_iload hx hb dX11_set_23 (lv_at hl 0 rfl) ?_
    refine lv_if_eq (tgt := 35) hx hb dX11_set_25 (by decide) (fun c17 => ?_) (fun c17 => ?_)
    · skip
      have i17_x14 : iv_R 0 0 x14 := (i_x14.cutHi (n := 0) (iv_eq_r c17 q_0).2)
      refine lv_iload hx hb dX11_set_35 (lv_at hl 0 rfl) ?_
      exact iv_zret X hr hlocks hB (i17_x14.wk (by decide)) ⟨hM, (i17_x14.wk (by decide)), fun h => absurd (iv_z i17_x14) h, fun h => absurd (iv_z i17_x14) h⟩ dX11_set_37
    · skip
      have i18_x14 : iv_R 1 1 x14 := iv_ne_lo c17 i_x14 q_0 (by decide)
      have i19_x_0 : iv_R 3 5 x_0 := (i12_x_0.cutHi (n := 5) (hp15.1 c17).2)
      have i20_x_1 : iv_R 0 9 x_1 := ((i_x_1.cutLo (n := 0) (hp15.2.1 c17).1).cutHi (n := 9) (hp15.2.1 c17).2)
      have i21_x_2 : iv_R 0 99 x_2 := ((i_x_2.cutLo (n := 0) (hp15.2.2 c17).1).cutHi (n := 99) (hp15.2.2 c17).2)
      refine lv_aload_n hx hb dX11_set_28 rfl (lv_at hl 1 rfl) ?_
      refine iv_getr X ft_X11 hB a_h0 sh_11 3 (by decide) rfl k_fl_X11_22 dX11_set_29 (fun b23 g_b23 r_b23 e_b23 a_b23 => ?_)
      refine iv_cVv X k_good k_mf_X6_forget k_im_X6_forget k_sel_X6_forget k_ml_X11_76 ft_X6 hB a_b23 sh_6 (As := []) (c_X6_forget l D tys base G16 b23 g_b23 r_b23 a_b23) ⟨rfl, rfl⟩ ⟨Nat.le_of_ble_eq_true rfl, Nat.le_of_ble_eq_true rfl⟩ ⟨Nat.le_of_ble_eq_true rfl, Nat.le_of_ble_eq_true rfl⟩ rfl rfl hl.1 (Nat.le_of_ble_eq_true rfl) dX11_set_32 (fun G9 H locs hq hB => ?_)
      have hm := hq
      obtain ⟨G24, hG9⟩ : ∃ g, g = G9 := ⟨_, rfl⟩
      rw [← hG9] at hm hB
      have hM := hM.stp hm (by decide)
      have a_h0 := hm.at a_h0 (by decide)
      refine lv_iload hx hb dX11_set_35 (lv_at hl 0 rfl) ?_
      exact iv_zret X hr hlocks hB (i18_x14.wk (by decide)) ⟨hM, (i18_x14.wk (by decide)), fun _ => (i19_x_0.wk (by decide)), fun _ => (i21_x_2.wk (by decide))⟩ dX11_set_37
theorem dX9_isPitchThere_0 : decode cX9_isPitchThere 0 = .ok (.iconst 0, 1) := by decide +kernel
theorem dX9_isPitchThere_1 : decode cX9_isPitchThere 1 = .ok (.istore_n 2, 1) := by decide +kernel
theorem dX9_isPitchThere_2 : decode cX9_isPitchThere 2 = .ok (.iload_n 2, 1) := by decide +kernel
theorem dX9_isPitchThere_3 : decode cX9_isPitchThere 3 = .ok (.aload_n 0, 1) := by decide +kernel
theorem dX9_isPitchThere_4 : decode cX9_isPitchThere 4 = .ok (.getfield 15, 3) := by decide +kernel
theorem dX9_isPitchThere_7 : decode cX9_isPitchThere 7 = .ok (.getfield 19, 3) := by decide +kernel
theorem dX9_isPitchThere_10 : decode cX9_isPitchThere 10 = .ok (.if_icmp .ge 43, 3) := by decide +kernel
theorem dX9_isPitchThere_13 : decode cX9_isPitchThere 13 = .ok (.aload_n 0, 1) := by decide +kernel
theorem dX9_isPitchThere_14 : decode cX9_isPitchThere 14 = .ok (.getfield 15, 3) := by decide +kernel
theorem dX9_isPitchThere_17 : decode cX9_isPitchThere 17 = .ok (.getfield 45, 3) := by decide +kernel
theorem dX9_isPitchThere_20 : decode cX9_isPitchThere 20 = .ok (.iload_n 2, 1) := by decide +kernel
theorem dX9_isPitchThere_21 : decode cX9_isPitchThere 21 = .ok (.aaload, 1) := by decide +kernel
theorem dX9_isPitchThere_22 : decode cX9_isPitchThere 22 = .ok (.getfield 49, 3) := by decide +kernel
theorem dX9_isPitchThere_25 : decode cX9_isPitchThere 25 = .ok (.iconst 2, 1) := by decide +kernel
theorem dX9_isPitchThere_26 : decode cX9_isPitchThere 26 = .ok (.if_icmp .eq 21, 3) := by decide +kernel
theorem dX9_isPitchThere_29 : decode cX9_isPitchThere 29 = .ok (.aload_n 0, 1) := by decide +kernel
theorem dX9_isPitchThere_30 : decode cX9_isPitchThere 30 = .ok (.getfield 15, 3) := by decide +kernel
theorem dX9_isPitchThere_33 : decode cX9_isPitchThere 33 = .ok (.getfield 45, 3) := by decide +kernel
theorem dX9_isPitchThere_36 : decode cX9_isPitchThere 36 = .ok (.iload_n 2, 1) := by decide +kernel
theorem dX9_isPitchThere_37 : decode cX9_isPitchThere 37 = .ok (.aaload, 1) := by decide +kernel
theorem dX9_isPitchThere_38 : decode cX9_isPitchThere 38 = .ok (.getfield 63, 3) := by decide +kernel
theorem dX9_isPitchThere_41 : decode cX9_isPitchThere 41 = .ok (.iload_n 1, 1) := by decide +kernel
theorem dX9_isPitchThere_42 : decode cX9_isPitchThere 42 = .ok (.if_icmp .ne 5, 3) := by decide +kernel
theorem dX9_isPitchThere_45 : decode cX9_isPitchThere 45 = .ok (.iconst 1, 1) := by decide +kernel
theorem dX9_isPitchThere_46 : decode cX9_isPitchThere 46 = .ok (.ireturn, 1) := by decide +kernel
theorem dX9_isPitchThere_47 : decode cX9_isPitchThere 47 = .ok (.iinc 2 1, 3) := by decide +kernel
theorem dX9_isPitchThere_50 : decode cX9_isPitchThere 50 = .ok (.goto (-48), 3) := by decide +kernel
theorem dX9_isPitchThere_53 : decode cX9_isPitchThere 53 = .ok (.iconst 0, 1) := by decide +kernel
theorem dX9_isPitchThere_54 : decode cX9_isPitchThere 54 = .ok (.ireturn, 1) := by decide +kernel
set_option maxHeartbeats 4000000 in
set_option maxRecDepth 100000 in
theorem c_X9_isPitchThere (l : Launch) (D : va_G) (tys : List (ClassId × FieldType)) (base : Nat) (G : iv_G) (h0 : Nat) (g_h0 : Nat → Int32) (r_h0 : Nat → Nat) (a_h0 : G h0 = some (9, g_h0, r_h0)) (x_0 : Int32) (i_x_0 : iv_R 0 1175 x_0) : Met l yX9_isPitchThere (Cond.code yX9_isPitchThere cX9_isPitchThere 3 (some .boolean) :: iv_W0) ({ frames := 0, cells := 0, slots := 0, locals := 0 }) (iv_Pc iv_sh D classes tys base G [.ref h0, .int x_0]) (iv_Qi iv_sh D classes tys base (fun v G' => G = G' ∧ iv_R 0 1 v)) 0 0 (iv_A base) := by
  refine iv_head (by decide) (Nat.le_of_ble_eq_true rfl) ?_
  intro p e s m args below meth c ls X hr hlocks hname hB hl
  have X := X
  have hx := X.1.1
  have hb := X.1.2.1
  have hl : lv_has ls 3 [(0, .ref h0), (1, .int x_0)] := hl
  refine lv_iconst (v := 0) hx hb dX9_isPitchThere_0 (by decide) ?_
  refine lv_istore_n (lv' := [(2, .int 0), (0, .ref h0), (1, .int x_0)]) hx hb dX9_isPitchThere_1 rfl hl (by decide) rfl (fun ls hl => ?_)
  have L_2 : ∀ (n_2 : Nat) (H : Heap) (locs : List Loc) (hB : iv_B iv_sh D classes tys base G s.heap H locs) (x1 : Int32) (i_x1 : iv_R 0 10 x1) (hn : (11 - x1.toInt).toNat < n_2) (ls : Array Slot) (hl : lv_has ls 3 [(2, .int x1), (0, .ref h0), (1, .int x_0)]), W p l e ({ frames := 0, cells := 0, slots := 0, locals := 0 } : Room) s m args below meth c H locs 0 0 (MQ below (iv_Qi iv_sh D classes tys base (fun v G' => G = G' ∧ iv_R 0 1 v)) args s 0 0 (iv_A base)) (F0 m 2 ls []) := by
    intro n_2
    induction n_2 with
    | zero => intro H locs hB x1 i_x1 hn ls hl; exact absurd hn (Nat.not_lt_zero _)
    | succ n_2 ih_2 =>
      intro H locs hB x1 i_x1 hn ls hl
      refine lv_iload_n hx hb dX9_isPitchThere_2 rfl (lv_at hl 0 rfl) ?_
      refine lv_aload_n hx hb dX9_isPitchThere_3 rfl (lv_at hl 1 rfl) ?_
      refine iv_getr X ft_X9 hB a_h0 sh_9 0 (by decide) rfl k_fl_X9_15 dX9_isPitchThere_4 (fun b2 g_b2 r_b2 e_b2 a_b2 => ?_)
      refine iv_geti X ft_X5 hB a_b2 sh_5 1 (by decide) rfl k_fl_X9_19 dX9_isPitchThere_7 (fun x3 e_x3 i_x3 => ?_)
      refine lv_icmp_ge (tgt := 53) hx hb dX9_isPitchThere_10 (by decide) (fun c4 => ?_) (fun c4 => ?_)
      · skip
        refine lv_iconst (v := 0) hx hb dX9_isPitchThere_53 (by decide) ?_
        exact iv_zret X hr hlocks hB (q_0.wk (by decide)) ⟨rfl, (q_0.wk (by decide))⟩ dX9_isPitchThere_54
      · skip
        have i4_x1 : iv_R 0 9 x1 := (i_x1.cutHi (n := 9) (iv_lt_r (iv_nle c4) i_x3 (by decide)))
        have i5_x3 : iv_R 1 10 x3 := (i_x3.cutLo (n := 1) (iv_lt_l (iv_nle c4) i_x1 (by decide)))
        refine lv_aload_n hx hb dX9_isPitchThere_13 rfl (lv_at hl 1 rfl) ?_
        refine iv_getr0 X ft_X9 hB a_h0 sh_9 0 (by decide) rfl k_fl_X9_15 dX9_isPitchThere_14 e_b2 ?_
        refine iv_getr X ft_X5 hB a_b2 sh_5 0 (by decide) rfl k_fl_X9_45 dX9_isPitchThere_17 (fun b7 g_b7 r_b7 e_b7 a_b7 => ?_)
        refine lv_iload_n hx hb dX9_isPitchThere_20 rfl (lv_at hl 0 rfl) ?_
        refine iv_aald X hB a_b7 sh_40 (iv_in i4_x1 (by decide)) dX9_isPitchThere_21 (fun b8 g_b8 r_b8 e_b8 a_b8 => ?_)
        refine iv_geti X ft_X1 hB a_b8 sh_1 6 (by decide) rfl k_fl_X9_49 dX9_isPitchThere_22 (fun x9 e_x9 i_x9 => ?_)
        refine lv_iconst (v := 2) hx hb dX9_isPitchThere_25 (by decide) ?_
        refine lv_icmp_eq (tgt := 47) hx hb dX9_isPitchThere_26 (by decide) (fun c10 => ?_) (fun c10 => ?_)
        · skip
          have i10_x9 : iv_R 2 2 x9 := ((i_x9.cutLo (n := 2) (iv_eq_r c10 q_2).1).cutHi (n := 2) (iv_eq_r c10 q_2).2)
          refine iv_iinc hx hb i4_x1 (lo := 1) (hi := 10) (by decide) dX9_isPitchThere_47 hl (k := 0) rfl (by decide) (fun x12 ls e_x12 i_x12 hl => ?_)
          have hl : lv_has ls 3 [(2, .int x12), (0, .ref h0), (1, .int x_0)] := hl
          refine lv_goto (tgt := 2) hx hb dX9_isPitchThere_50 (by decide) ?_
          exact ih_2 _ _ hB x12 (i_x12.wk (by decide)) (iv_mup (c := 1) i_x1 (by decide) (by decide) (by omega) hn) _ (lv_sub hl [0, 1, 2] rfl)
        · skip
          refine lv_aload_n hx hb dX9_isPitchThere_29 rfl (lv_at hl 1 rfl) ?_
          refine iv_getr0 X ft_X9 hB a_h0 sh_9 0 (by decide) rfl k_fl_X9_15 dX9_isPitchThere_30 e_b2 ?_
          refine iv_getr0 X ft_X5 hB a_b2 sh_5 0 (by decide) rfl k_fl_X9_45 dX9_isPitchThere_33 e_b7 ?_
          refine lv_iload_n hx hb dX9_isPitchThere_36 rfl (lv_at hl 0 rfl) ?_
          refine iv_aald X hB a_b7 sh_40 (iv_in i4_x1 (by decide)) dX9_isPitchThere_37 (fun b13 g_b13 r_b13 e_b13 a_b13 => ?_)
          refine iv_geti X ft_X1 hB a_b13 sh_1 1 (by decide) rfl k_fl_X9_63 dX9_isPitchThere_38 (fun x14 e_x14 i_x14 => ?_)
          refine lv_iload_n hx hb dX9_isPitchThere_41 rfl (lv_at hl 2 rfl) ?_
          refine lv_icmp_ne (tgt := 47) hx hb dX9_isPitchThere_42 (by decide) (fun c15 => ?_) (fun c15 => ?_)
          · skip
            refine iv_iinc hx hb i4_x1 (lo := 1) (hi := 10) (by decide) dX9_isPitchThere_47 hl (k := 0) rfl (by decide) (fun x16 ls e_x16 i_x16 hl => ?_)
            have hl : lv_has ls 3 [(2, .int x16), (0, .ref h0), (1, .int x_0)] := hl
            refine lv_goto (tgt := 2) hx hb dX9_isPitchThere_50 (by decide) ?_
            exact ih_2 _ _ hB x16 (i_x16.wk (by decide)) (iv_mup (c := 1) i_x1 (by decide) (by decide) (by omega) hn) _ (lv_sub hl [0, 1, 2] rfl)
          · skip
            have i16_x14 : iv_R 0 1175 x14 := ((i_x14.cutLo (n := 0) (iv_eq_r c15 i_x_0).1).cutHi (n := 1175) (iv_eq_r c15 i_x_0).2)
            refine lv_iconst (v := 1) hx hb dX9_isPitchThere_45 (by decide) ?_
            exact iv_zret X hr hlocks hB (q_1.wk (by decide)) ⟨rfl, (q_1.wk (by decide))⟩ dX9_isPitchThere_46
  exact L_2 _ _ _ hB 0 (q_0.wk (by decide)) (Nat.lt_succ_self _) _ (lv_sub hl [0, 1, 2] rfl)
theorem dX9_rowFrom_0 : decode cX9_rowFrom 0 = .ok (.iconst 0, 1) := by decide +kernel
theorem dX9_rowFrom_1 : decode cX9_rowFrom 1 = .ok (.istore_n 3, 1) := by decide +kernel
theorem dX9_rowFrom_2 : decode cX9_rowFrom 2 = .ok (.iload_n 3, 1) := by decide +kernel
theorem dX9_rowFrom_3 : decode cX9_rowFrom 3 = .ok (.bipush 47, 2) := by decide +kernel
theorem dX9_rowFrom_5 : decode cX9_rowFrom 5 = .ok (.if_icmp .gt 21, 3) := by decide +kernel
theorem dX9_rowFrom_8 : decode cX9_rowFrom 8 = .ok (.aload_n 0, 1) := by decide +kernel
theorem dX9_rowFrom_9 : decode cX9_rowFrom 9 = .ok (.iload_n 1, 1) := by decide +kernel
theorem dX9_rowFrom_10 : decode cX9_rowFrom 10 = .ok (.iload_n 3, 1) := by decide +kernel
theorem dX9_rowFrom_11 : decode cX9_rowFrom 11 = .ok (.iload_n 2, 1) := by decide +kernel
theorem dX9_rowFrom_12 : decode cX9_rowFrom 12 = .ok (.imul, 1) := by decide +kernel
theorem dX9_rowFrom_13 : decode cX9_rowFrom 13 = .ok (.iadd, 1) := by decide +kernel
theorem dX9_rowFrom_14 : decode cX9_rowFrom 14 = .ok (.invokevirtual 60, 3) := by decide +kernel
theorem dX9_rowFrom_17 : decode cX9_rowFrom 17 = .ok (.ifCond .eq 9, 3) := by decide +kernel
theorem dX9_rowFrom_20 : decode cX9_rowFrom 20 = .ok (.iinc 3 1, 3) := by decide +kernel
theorem dX9_rowFrom_23 : decode cX9_rowFrom 23 = .ok (.goto (-21), 3) := by decide +kernel
theorem dX9_rowFrom_26 : decode cX9_rowFrom 26 = .ok (.iload_n 3, 1) := by decide +kernel
theorem dX9_rowFrom_27 : decode cX9_rowFrom 27 = .ok (.ireturn, 1) := by decide +kernel
set_option maxHeartbeats 4000000 in
set_option maxRecDepth 100000 in
theorem c_X9_rowFrom (l : Launch) (D : va_G) (tys : List (ClassId × FieldType)) (base : Nat) (G : iv_G) (h0 : Nat) (g_h0 : Nat → Int32) (r_h0 : Nat → Nat) (a_h0 : G h0 = some (9, g_h0, r_h0)) (x_0 : Int32) (i_x_0 : iv_R 0 47 x_0) (x_1 : Int32) (i_x_1 : iv_R 1 24 x_1) : Met l yX9_rowFrom (Cond.code yX9_rowFrom cX9_rowFrom 4 (some .int) :: iv_W0) ({ frames := 1, cells := 0, slots := 0, locals := 22 }) (iv_Pc iv_sh D classes tys base G [.ref h0, .int x_0, .int x_1]) (iv_Qi iv_sh D classes tys base (fun v G' => G = G' ∧ iv_R 0 48 v)) 0 0 (iv_A base) := by
  refine iv_head (by decide) (Nat.le_of_ble_eq_true rfl) ?_
  intro p e s m args below meth c ls X hr hlocks hname hB hl
  have X := X
  have hx := X.1.1
  have hb := X.1.2.1
  have hl : lv_has ls 4 [(0, .ref h0), (1, .int x_0), (2, .int x_1)] := hl
  refine lv_iconst (v := 0) hx hb dX9_rowFrom_0 (by decide) ?_
  refine lv_istore_n (lv' := [(3, .int 0), (0, .ref h0), (1, .int x_0), (2, .int x_1)]) hx hb dX9_rowFrom_1 rfl hl (by decide) rfl (fun ls hl => ?_)
  have L_2 : ∀ (n_2 : Nat) (H : Heap) (locs : List Loc) (hB : iv_B iv_sh D classes tys base G s.heap H locs) (x1 : Int32) (i_x1 : iv_R 0 48 x1) (hn : (49 - x1.toInt).toNat < n_2) (ls : Array Slot) (hl : lv_has ls 4 [(3, .int x1), (0, .ref h0), (1, .int x_0), (2, .int x_1)]), W p l e ({ frames := 1, cells := 0, slots := 0, locals := 22 } : Room) s m args below meth c H locs 0 0 (MQ below (iv_Qi iv_sh D classes tys base (fun v G' => G = G' ∧ iv_R 0 48 v)) args s 0 0 (iv_A base)) (F0 m 2 ls []) := by
    intro n_2
    induction n_2 with
    | zero => intro H locs hB x1 i_x1 hn ls hl; exact absurd hn (Nat.not_lt_zero _)
    | succ n_2 ih_2 =>
      intro H locs hB x1 i_x1 hn ls hl
      refine lv_iload_n hx hb dX9_rowFrom_2 rfl (lv_at hl 0 rfl) ?_
      refine lv_bipush (v := 47) hx hb dX9_rowFrom_3 (by decide) ?_
      refine lv_icmp_gt (tgt := 26) hx hb dX9_rowFrom_5 (by decide) (fun c2 => ?_) (fun c2 => ?_)
      · skip
        have i2_x1 : iv_R 48 48 x1 := (i_x1.cutLo (n := 48) (iv_lt_l c2 q_47 (by decide)))
        refine lv_iload_n hx hb dX9_rowFrom_26 rfl (lv_at hl 0 rfl) ?_
        exact iv_iret X hr hlocks hB ⟨rfl, (i2_x1.wk (by decide))⟩ dX9_rowFrom_27
      · skip
        have i3_x1 : iv_R 0 47 x1 := (i_x1.cutHi (n := 47) (iv_le_r (iv_nlt c2) q_47))
        refine lv_aload_n hx hb dX9_rowFrom_8 rfl (lv_at hl 1 rfl) ?_
        refine lv_iload_n hx hb dX9_rowFrom_9 rfl (lv_at hl 2 rfl) ?_
        refine lv_iload_n hx hb dX9_rowFrom_10 rfl (lv_at hl 0 rfl) ?_
        refine lv_iload_n hx hb dX9_rowFrom_11 rfl (lv_at hl 3 rfl) ?_
        refine iv_imul hx hb i3_x1 i_x_1 (lo := 0) (hi := 1128) (by decide) dX9_rowFrom_12 (fun x5 e_x5 i_x5 => ?_)
        refine iv_iadd hx hb i_x_0 i_x5 (lo := 0) (hi := 1175) (by decide) dX9_rowFrom_13 (fun x6 e_x6 i_x6 => ?_)
        refine iv_cVi X k_good k_mf_X9_isPitchThere k_im_X9_isPitchThere k_sel_X9_isPitchThere k_ml_X9_60 ft_X9 hB a_h0 sh_9 (As := [.int x6]) (c_X9_isPitchThere l D tys base G h0 g_h0 r_h0 a_h0 x6 i_x6) ⟨rfl, rfl⟩ ⟨Nat.le_of_ble_eq_true rfl, Nat.le_of_ble_eq_true rfl⟩ ⟨Nat.le_of_ble_eq_true rfl, Nat.le_of_ble_eq_true rfl⟩ rfl rfl hl.1 (Nat.le_of_ble_eq_true rfl) dX9_rowFrom_14 (fun x7 G9 H locs hq hB => ?_)
        obtain ⟨rfl, i_x7⟩ := hq
        refine lv_if_eq (tgt := 26) hx hb dX9_rowFrom_17 (by decide) (fun c8 => ?_) (fun c8 => ?_)
        · skip
          have i8_x7 : iv_R 0 0 x7 := (i_x7.cutHi (n := 0) (iv_eq_r c8 q_0).2)
          refine lv_iload_n hx hb dX9_rowFrom_26 rfl (lv_at hl 0 rfl) ?_
          exact iv_iret X hr hlocks hB ⟨rfl, (i3_x1.wk (by decide))⟩ dX9_rowFrom_27
        · skip
          have i9_x7 : iv_R 1 1 x7 := iv_ne_lo c8 i_x7 q_0 (by decide)
          refine iv_iinc hx hb i3_x1 (lo := 1) (hi := 48) (by decide) dX9_rowFrom_20 hl (k := 0) rfl (by decide) (fun x11 ls e_x11 i_x11 hl => ?_)
          have hl : lv_has ls 4 [(3, .int x11), (0, .ref h0), (1, .int x_0), (2, .int x_1)] := hl
          refine lv_goto (tgt := 2) hx hb dX9_rowFrom_23 (by decide) ?_
          exact ih_2 _ _ hB x11 (i_x11.wk (by decide)) (iv_mup (c := 1) i_x1 (by decide) (by decide) (by omega) hn) _ (lv_sub hl [0, 1, 2, 3] rfl)
  exact L_2 _ _ _ hB 0 (q_0.wk (by decide)) (Nat.lt_succ_self _) _ (lv_sub hl [0, 1, 2, 3] rfl)
theorem dX11_siblings_0 : decode cX11_siblings 0 = .ok (.iload_n 1, 1) := by decide +kernel
theorem dX11_siblings_1 : decode cX11_siblings 1 = .ok (.iconst 1, 1) := by decide +kernel
theorem dX11_siblings_2 : decode cX11_siblings 2 = .ok (.bipush 24, 2) := by decide +kernel
theorem dX11_siblings_4 : decode cX11_siblings 4 = .ok (.invokestatic 83, 3) := by decide +kernel
theorem dX11_siblings_7 : decode cX11_siblings 7 = .ok (.ifCond .ne 5, 3) := by decide +kernel
theorem dX11_siblings_10 : decode cX11_siblings 10 = .ok (.iconst (-1), 1) := by decide +kernel
theorem dX11_siblings_11 : decode cX11_siblings 11 = .ok (.ireturn, 1) := by decide +kernel
theorem dX11_siblings_12 : decode cX11_siblings 12 = .ok (.iconst 0, 1) := by decide +kernel
theorem dX11_siblings_13 : decode cX11_siblings 13 = .ok (.istore_n 3, 1) := by decide +kernel
theorem dX11_siblings_14 : decode cX11_siblings 14 = .ok (.iconst (-1), 1) := by decide +kernel
theorem dX11_siblings_15 : decode cX11_siblings 15 = .ok (.istore 4, 2) := by decide +kernel
theorem dX11_siblings_17 : decode cX11_siblings 17 = .ok (.iconst 0, 1) := by decide +kernel
theorem dX11_siblings_18 : decode cX11_siblings 18 = .ok (.istore 5, 2) := by decide +kernel
theorem dX11_siblings_20 : decode cX11_siblings 20 = .ok (.iload 5, 2) := by decide +kernel
theorem dX11_siblings_22 : decode cX11_siblings 22 = .ok (.bipush 47, 2) := by decide +kernel
theorem dX11_siblings_24 : decode cX11_siblings 24 = .ok (.if_icmp .gt 34, 3) := by decide +kernel
theorem dX11_siblings_27 : decode cX11_siblings 27 = .ok (.aload_n 0, 1) := by decide +kernel
theorem dX11_siblings_28 : decode cX11_siblings 28 = .ok (.getfield 58, 3) := by decide +kernel
theorem dX11_siblings_31 : decode cX11_siblings 31 = .ok (.iload 5, 2) := by decide +kernel
theorem dX11_siblings_33 : decode cX11_siblings 33 = .ok (.iload_n 1, 1) := by decide +kernel
theorem dX11_siblings_34 : decode cX11_siblings 34 = .ok (.invokevirtual 319, 3) := by decide +kernel
theorem dX11_siblings_37 : decode cX11_siblings 37 = .ok (.istore 6, 2) := by decide +kernel
theorem dX11_siblings_39 : decode cX11_siblings 39 = .ok (.iload 6, 2) := by decide +kernel
theorem dX11_siblings_41 : decode cX11_siblings 41 = .ok (.iload_n 3, 1) := by decide +kernel
theorem dX11_siblings_42 : decode cX11_siblings 42 = .ok (.if_icmp .le 10, 3) := by decide +kernel
theorem dX11_siblings_45 : decode cX11_siblings 45 = .ok (.iload 6, 2) := by decide +kernel
theorem dX11_siblings_47 : decode cX11_siblings 47 = .ok (.istore_n 3, 1) := by decide +kernel
theorem dX11_siblings_48 : decode cX11_siblings 48 = .ok (.iload 5, 2) := by decide +kernel
theorem dX11_siblings_50 : decode cX11_siblings 50 = .ok (.istore 4, 2) := by decide +kernel
theorem dX11_siblings_52 : decode cX11_siblings 52 = .ok (.iinc 5 1, 3) := by decide +kernel
theorem dX11_siblings_55 : decode cX11_siblings 55 = .ok (.goto (-35), 3) := by decide +kernel
theorem dX11_siblings_58 : decode cX11_siblings 58 = .ok (.iload_n 2, 1) := by decide +kernel
theorem dX11_siblings_59 : decode cX11_siblings 59 = .ok (.iload_n 3, 1) := by decide +kernel
theorem dX11_siblings_60 : decode cX11_siblings 60 = .ok (.iload 4, 2) := by decide +kernel
theorem dX11_siblings_62 : decode cX11_siblings 62 = .ok (.invokestatic 282, 3) := by decide +kernel
theorem dX11_siblings_65 : decode cX11_siblings 65 = .ok (.ireturn, 1) := by decide +kernel
set_option maxHeartbeats 4000000 in
set_option maxRecDepth 100000 in
theorem c_X11_siblings (l : Launch) (D : va_G) (tys : List (ClassId × FieldType)) (base : Nat) (G : iv_G) (h0 : Nat) (g_h0 : Nat → Int32) (r_h0 : Nat → Nat) (a_h0 : G h0 = some (11, g_h0, r_h0)) (x_0 : Int32) (i_x_0 : iv_R (-2147483648) 2147483647 x_0) (x_1 : Int32) (i_x_1 : iv_R (-2147483648) 2147483647 x_1) : Met l yX11_siblings (Cond.code yX11_siblings cX11_siblings 7 (some .int) :: iv_W0) ({ frames := 2, cells := 0, slots := 0, locals := 45 }) (iv_Pc iv_sh D classes tys base G [.ref h0, .int x_0, .int x_1]) (iv_Qi iv_sh D classes tys base (fun v G' => G = G' ∧ iv_R (-2147483648) 2147483647 v)) 0 0 (iv_A base) := by
  refine iv_head (by decide) (Nat.le_of_ble_eq_true rfl) ?_
  intro p e s m args below meth c ls X hr hlocks hname hB hl
  have X := X
  have hx := X.1.1
  have hb := X.1.2.1
  have hl : lv_has ls 7 [(0, .ref h0), (1, .int x_0), (2, .int x_1)] := hl
  refine lv_iload_n hx hb dX11_siblings_0 rfl (lv_at hl 1 rfl) ?_
  refine lv_iconst (v := 1) hx hb dX11_siblings_1 (by decide) ?_
  refine lv_bipush (v := 24) hx hb dX11_siblings_2 (by decide) ?_
  refine iv_cSi X k_good k_mf_X11_isWithin k_st_X11_isWithin k_ml_X11_83 hB (As := [.int x_0, .int 1, .int 24]) (c_X11_isWithin l D tys base G x_0 i_x_0 1 (q_1.wk (by decide)) 24 (q_24.wk (by decide))) ⟨rfl, rfl⟩ ⟨Nat.le_of_ble_eq_true rfl, Nat.le_of_ble_eq_true rfl⟩ ⟨Nat.le_of_ble_eq_true rfl, Nat.le_of_ble_eq_true rfl⟩ rfl rfl hl.1 (Nat.le_of_ble_eq_true rfl) dX11_siblings_4 (fun x1 G9 H locs hq hB => ?_)
  obtain ⟨rfl, i_x1, hp2⟩ := hq
  have k3 : ¬ x1 = 0 → iv_R 1 24 x_0 := fun h => ⟨iv_max i_x_0.1 (Int.le_trans q_1.1 (hp2.1 h).1) (by decide), iv_min i_x_0.2 (Int.le_trans (hp2.1 h).2 q_24.2) (by decide)⟩
  refine lv_if_ne (tgt := 12) hx hb dX11_siblings_7 (by decide) (fun c4 => ?_) (fun c4 => ?_)
  · skip
    have i4_x1 : iv_R 1 1 x1 := iv_ne_lo c4 i_x1 q_0 (by decide)
    have i5_x_0 : iv_R 1 24 x_0 := ((i_x_0.cutLo (n := 1) (k3 c4).1).cutHi (n := 24) (k3 c4).2)
    refine lv_iconst (v := 0) hx hb dX11_siblings_12 (by decide) ?_
    refine lv_istore_n (lv' := [(3, .int 0), (0, .ref h0), (1, .int x_0), (2, .int x_1)]) hx hb dX11_siblings_13 rfl hl (by decide) rfl (fun ls hl => ?_)
    refine lv_iconst (v := (-1)) hx hb dX11_siblings_14 (by decide) ?_
    refine lv_istore (lv' := [(4, .int (-1)), (3, .int 0), (0, .ref h0), (1, .int x_0), (2, .int x_1)]) hx hb dX11_siblings_15 hl (by decide) rfl (fun ls hl => ?_)
    refine lv_iconst (v := 0) hx hb dX11_siblings_17 (by decide) ?_
    refine lv_istore (lv' := [(5, .int 0), (4, .int (-1)), (3, .int 0), (0, .ref h0), (1, .int x_0), (2, .int x_1)]) hx hb dX11_siblings_18 hl (by decide) rfl (fun ls hl => ?_)
    have L_20 : ∀ (n_20 : Nat) (H : Heap) (locs : List Loc) (hB : iv_B iv_sh D classes tys base G s.heap H locs) (x7 : Int32) (i_x7 : iv_R 0 48 x7) (x8 : Int32) (i_x8 : iv_R (-1) 47 x8) (x9 : Int32) (i_x9 : iv_R 0 48 x9) (hn : (49 - x9.toInt).toNat < n_20) (ls : Array Slot) (hl : lv_has ls 7 [(5, .int x9), (4, .int x8), (3, .int x7), (0, .ref h0), (1, .int x_0), (2, .int x_1)]), W p l e ({ frames := 2, cells := 0, slots := 0, locals := 45 } : Room) s m args below meth c H locs 0 0 (MQ below (iv_Qi iv_sh D classes tys base (fun v G' => G = G' ∧ iv_R (-2147483648) 2147483647 v)) args s 0 0 (iv_A base)) (F0 m 20 ls []) := by
      intro n_20
      induction n_20 with
      | zero => intro H locs hB x7 i_x7 x8 i_x8 x9 i_x9 hn ls hl; exact absurd hn (Nat.not_lt_zero _)
      | succ n_20 ih_20 =>
        intro H locs hB x7 i_x7 x8 i_x8 x9 i_x9 hn ls hl
        refine lv_iload hx hb dX11_siblings_20 (lv_at hl 0 rfl) ?_
        refine lv_bipush (v := 47) hx hb dX11_siblings_22 (by decide) ?_
        refine lv_icmp_gt (tgt := 58) hx hb dX11_siblings_24 (by decide) (fun c10 => ?_) (fun c10 => ?_)
        · skip
          have i10_x9 : iv_R 48 48 x9 := (i_x9.cutLo (n := 48) (iv_lt_l c10 q_47 (by decide)))
          refine lv_iload_n hx hb dX11_siblings_58 rfl (lv_at hl 5 rfl) ?_
          refine lv_iload_n hx hb dX11_siblings_59 rfl (lv_at hl 2 rfl) ?_
          refine lv_iload hx hb dX11_siblings_60 (lv_at hl 1 rfl) ?_
          refine iv_cSi X k_good k_mf_X11_chosen k_st_X11_chosen k_ml_X11_282 hB (As := [.int x_1, .int x7, .int x8]) (c_X11_chosen l D tys base G x_1 i_x_1 x7 (i_x7.wk (by decide)) x8 (i_x8.wk (by decide))) ⟨rfl, rfl⟩ ⟨Nat.le_of_ble_eq_true rfl, Nat.le_of_ble_eq_true rfl⟩ ⟨Nat.le_of_ble_eq_true rfl, Nat.le_of_ble_eq_true rfl⟩ rfl rfl hl.1 (Nat.le_of_ble_eq_true rfl) dX11_siblings_62 (fun x12 G9 H locs hq hB => ?_)
          obtain ⟨rfl, i_x12⟩ := hq
          exact iv_iret X hr hlocks hB ⟨rfl, i_x12⟩ dX11_siblings_65
        · skip
          have i12_x9 : iv_R 0 47 x9 := (i_x9.cutHi (n := 47) (iv_le_r (iv_nlt c10) q_47))
          refine lv_aload_n hx hb dX11_siblings_27 rfl (lv_at hl 3 rfl) ?_
          refine iv_getr X ft_X11 hB a_h0 sh_11 9 (by decide) rfl k_fl_X11_58 dX11_siblings_28 (fun b14 g_b14 r_b14 e_b14 a_b14 => ?_)
          refine lv_iload hx hb dX11_siblings_31 (lv_at hl 0 rfl) ?_
          refine lv_iload_n hx hb dX11_siblings_33 rfl (lv_at hl 4 rfl) ?_
          refine iv_cVi X k_good k_mf_X9_rowFrom k_im_X9_rowFrom k_sel_X9_rowFrom k_ml_X11_319 ft_X9 hB a_b14 sh_9 (As := [.int x9, .int x_0]) (c_X9_rowFrom l D tys base G b14 g_b14 r_b14 a_b14 x9 i12_x9 x_0 i5_x_0) ⟨rfl, rfl⟩ ⟨Nat.le_of_ble_eq_true rfl, Nat.le_of_ble_eq_true rfl⟩ ⟨Nat.le_of_ble_eq_true rfl, Nat.le_of_ble_eq_true rfl⟩ rfl rfl hl.1 (Nat.le_of_ble_eq_true rfl) dX11_siblings_34 (fun x15 G9 H locs hq hB => ?_)
          obtain ⟨rfl, i_x15⟩ := hq
          refine lv_istore (lv' := [(6, .int x15), (5, .int x9), (4, .int x8), (3, .int x7), (0, .ref h0), (1, .int x_0), (2, .int x_1)]) hx hb dX11_siblings_37 hl (by decide) rfl (fun ls hl => ?_)
          refine lv_iload hx hb dX11_siblings_39 (lv_at hl 0 rfl) ?_
          refine lv_iload_n hx hb dX11_siblings_41 rfl (lv_at hl 3 rfl) ?_
          refine lv_icmp_le (tgt := 52) hx hb dX11_siblings_42 (by decide) (fun c16 => ?_) (fun c16 => ?_)
          · skip
            refine iv_iinc hx hb i12_x9 (lo := 1) (hi := 48) (by decide) dX11_siblings_52 hl (k := 1) rfl (by decide) (fun x17 ls e_x17 i_x17 hl => ?_)
            have hl : lv_has ls 7 [(5, .int x17), (6, .int x15), (4, .int x8), (3, .int x7), (0, .ref h0), (1, .int x_0), (2, .int x_1)] := hl
            refine lv_goto (tgt := 20) hx hb dX11_siblings_55 (by decide) ?_
            exact ih_20 _ _ hB x7 i_x7 x8 i_x8 x17 (i_x17.wk (by decide)) (iv_mup (c := 1) i_x9 (by decide) (by decide) (by omega) hn) _ (lv_sub hl [0, 2, 3, 4, 5, 6] rfl)
          · skip
            have i17_x7 : iv_R 0 47 x7 := (i_x7.cutHi (n := 47) (iv_lt_r (iv_nle c16) i_x15 (by decide)))
            have i18_x15 : iv_R 1 48 x15 := (i_x15.cutLo (n := 1) (iv_lt_l (iv_nle c16) i_x7 (by decide)))
            refine lv_iload hx hb dX11_siblings_45 (lv_at hl 0 rfl) ?_
            refine lv_istore_n (lv' := [(3, .int x15), (6, .int x15), (5, .int x9), (4, .int x8), (0, .ref h0), (1, .int x_0), (2, .int x_1)]) hx hb dX11_siblings_47 rfl hl (by decide) rfl (fun ls hl => ?_)
            refine lv_iload hx hb dX11_siblings_48 (lv_at hl 2 rfl) ?_
            refine lv_istore (lv' := [(4, .int x9), (3, .int x15), (6, .int x15), (5, .int x9), (0, .ref h0), (1, .int x_0), (2, .int x_1)]) hx hb dX11_siblings_50 hl (by decide) rfl (fun ls hl => ?_)
            refine iv_iinc hx hb i12_x9 (lo := 1) (hi := 48) (by decide) dX11_siblings_52 hl (k := 3) rfl (by decide) (fun x20 ls e_x20 i_x20 hl => ?_)
            have hl : lv_has ls 7 [(5, .int x20), (4, .int x9), (3, .int x15), (6, .int x15), (0, .ref h0), (1, .int x_0), (2, .int x_1)] := hl
            refine lv_goto (tgt := 20) hx hb dX11_siblings_55 (by decide) ?_
            exact ih_20 _ _ hB x15 (i18_x15.wk (by decide)) x9 (i12_x9.wk (by decide)) x20 (i_x20.wk (by decide)) (iv_mup (c := 1) i_x9 (by decide) (by decide) (by omega) hn) _ (lv_sub hl [0, 1, 2, 4, 5, 6] rfl)
    exact L_20 _ _ _ hB 0 (q_0.wk (by decide)) (-1) (q_n1.wk (by decide)) 0 (q_0.wk (by decide)) (Nat.lt_succ_self _) _ (lv_sub hl [0, 1, 2, 3, 4, 5] rfl)
  · skip
    have i20_x1 : iv_R 0 0 x1 := (i_x1.cutHi (n := 0) (iv_eq_r c4 q_0).2)
    refine lv_iconst (v := (-1)) hx hb dX11_siblings_10 (by decide) ?_
    exact iv_iret X hr hlocks hB ⟨rfl, (q_n1.wk (by decide))⟩ dX11_siblings_11
theorem dX5_silentFrom_0 : decode cX5_silentFrom 0 = .ok (.iconst 0, 1) := by decide +kernel
theorem dX5_silentFrom_1 : decode cX5_silentFrom 1 = .ok (.istore_n 2, 1) := by decide +kernel
theorem dX5_silentFrom_2 : decode cX5_silentFrom 2 = .ok (.iload_n 2, 1) := by decide +kernel
theorem dX5_silentFrom_3 : decode cX5_silentFrom 3 = .ok (.bipush 24, 2) := by decide +kernel
theorem dX5_silentFrom_5 : decode cX5_silentFrom 5 = .ok (.if_icmp .ge 22, 3) := by decide +kernel
theorem dX5_silentFrom_8 : decode cX5_silentFrom 8 = .ok (.aload_n 0, 1) := by decide +kernel
theorem dX5_silentFrom_9 : decode cX5_silentFrom 9 = .ok (.iload_n 1, 1) := by decide +kernel
theorem dX5_silentFrom_10 : decode cX5_silentFrom 10 = .ok (.iload_n 2, 1) := by decide +kernel
theorem dX5_silentFrom_11 : decode cX5_silentFrom 11 = .ok (.iadd, 1) := by decide +kernel
theorem dX5_silentFrom_12 : decode cX5_silentFrom 12 = .ok (.bipush 24, 2) := by decide +kernel
theorem dX5_silentFrom_14 : decode cX5_silentFrom 14 = .ok (.irem, 1) := by decide +kernel
theorem dX5_silentFrom_15 : decode cX5_silentFrom 15 = .ok (.invokevirtual 103, 3) := by decide +kernel
theorem dX5_silentFrom_18 : decode cX5_silentFrom 18 = .ok (.ifCond .ne 9, 3) := by decide +kernel
theorem dX5_silentFrom_21 : decode cX5_silentFrom 21 = .ok (.iinc 2 1, 3) := by decide +kernel
theorem dX5_silentFrom_24 : decode cX5_silentFrom 24 = .ok (.goto (-22), 3) := by decide +kernel
theorem dX5_silentFrom_27 : decode cX5_silentFrom 27 = .ok (.iload_n 2, 1) := by decide +kernel
theorem dX5_silentFrom_28 : decode cX5_silentFrom 28 = .ok (.ireturn, 1) := by decide +kernel
set_option maxHeartbeats 4000000 in
set_option maxRecDepth 100000 in
theorem c_X5_silentFrom (l : Launch) (D : va_G) (tys : List (ClassId × FieldType)) (base : Nat) (G : iv_G) (h0 : Nat) (g_h0 : Nat → Int32) (r_h0 : Nat → Nat) (a_h0 : G h0 = some (5, g_h0, r_h0)) (x_0 : Int32) (i_x_0 : iv_R 0 23 x_0) : Met l yX5_silentFrom (Cond.code yX5_silentFrom cX5_silentFrom 3 (some .int) :: iv_W0) ({ frames := 4, cells := 0, slots := 0, locals := 87 }) (iv_Pc iv_sh D classes tys base G [.ref h0, .int x_0]) (iv_Qi iv_sh D classes tys base (fun v G' => G = G' ∧ iv_R 0 24 v)) 0 0 (iv_A base) := by
  refine iv_head (by decide) (Nat.le_of_ble_eq_true rfl) ?_
  intro p e s m args below meth c ls X hr hlocks hname hB hl
  have X := X
  have hx := X.1.1
  have hb := X.1.2.1
  have hl : lv_has ls 3 [(0, .ref h0), (1, .int x_0)] := hl
  refine lv_iconst (v := 0) hx hb dX5_silentFrom_0 (by decide) ?_
  refine lv_istore_n (lv' := [(2, .int 0), (0, .ref h0), (1, .int x_0)]) hx hb dX5_silentFrom_1 rfl hl (by decide) rfl (fun ls hl => ?_)
  have L_2 : ∀ (n_2 : Nat) (H : Heap) (locs : List Loc) (hB : iv_B iv_sh D classes tys base G s.heap H locs) (x1 : Int32) (i_x1 : iv_R 0 24 x1) (hn : (25 - x1.toInt).toNat < n_2) (ls : Array Slot) (hl : lv_has ls 3 [(2, .int x1), (0, .ref h0), (1, .int x_0)]), W p l e ({ frames := 4, cells := 0, slots := 0, locals := 87 } : Room) s m args below meth c H locs 0 0 (MQ below (iv_Qi iv_sh D classes tys base (fun v G' => G = G' ∧ iv_R 0 24 v)) args s 0 0 (iv_A base)) (F0 m 2 ls []) := by
    intro n_2
    induction n_2 with
    | zero => intro H locs hB x1 i_x1 hn ls hl; exact absurd hn (Nat.not_lt_zero _)
    | succ n_2 ih_2 =>
      intro H locs hB x1 i_x1 hn ls hl
      refine lv_iload_n hx hb dX5_silentFrom_2 rfl (lv_at hl 0 rfl) ?_
      refine lv_bipush (v := 24) hx hb dX5_silentFrom_3 (by decide) ?_
      refine lv_icmp_ge (tgt := 27) hx hb dX5_silentFrom_5 (by decide) (fun c2 => ?_) (fun c2 => ?_)
      · skip
        have i2_x1 : iv_R 24 24 x1 := (i_x1.cutLo (n := 24) (iv_le_l c2 q_24))
        refine lv_iload_n hx hb dX5_silentFrom_27 rfl (lv_at hl 0 rfl) ?_
        exact iv_iret X hr hlocks hB ⟨rfl, (i2_x1.wk (by decide))⟩ dX5_silentFrom_28
      · skip
        have i3_x1 : iv_R 0 23 x1 := (i_x1.cutHi (n := 23) (iv_lt_r (iv_nle c2) q_24 (by decide)))
        refine lv_aload_n hx hb dX5_silentFrom_8 rfl (lv_at hl 1 rfl) ?_
        refine lv_iload_n hx hb dX5_silentFrom_9 rfl (lv_at hl 2 rfl) ?_
        refine lv_iload_n hx hb dX5_silentFrom_10 rfl (lv_at hl 0 rfl) ?_
        refine iv_iadd hx hb i_x_0 i3_x1 (lo := 0) (hi := 46) (by decide) dX5_silentFrom_11 (fun x5 e_x5 i_x5 => ?_)
        refine lv_bipush (v := 24) hx hb dX5_silentFrom_12 (by decide) ?_
        refine iv_iremp hx hb i_x5 q_24 (lo := 0) (hi := 23) (by decide) dX5_silentFrom_14 (fun x6 e_x6 i_x6 => ?_)
        refine iv_cVi X k_good k_mf_X5_howManySound k_im_X5_howManySound k_sel_X5_howManySound k_ml_X5_103 ft_X5 hB a_h0 sh_5 (As := [.int x6]) (c_X5_howManySound l D tys base G h0 g_h0 r_h0 a_h0 x6 i_x6) ⟨rfl, rfl⟩ ⟨Nat.le_of_ble_eq_true rfl, Nat.le_of_ble_eq_true rfl⟩ ⟨Nat.le_of_ble_eq_true rfl, Nat.le_of_ble_eq_true rfl⟩ rfl rfl hl.1 (Nat.le_of_ble_eq_true rfl) dX5_silentFrom_15 (fun x7 G9 H locs hq hB => ?_)
        obtain ⟨rfl, i_x7⟩ := hq
        refine lv_if_ne (tgt := 27) hx hb dX5_silentFrom_18 (by decide) (fun c8 => ?_) (fun c8 => ?_)
        · skip
          refine lv_iload_n hx hb dX5_silentFrom_27 rfl (lv_at hl 0 rfl) ?_
          exact iv_iret X hr hlocks hB ⟨rfl, (i3_x1.wk (by decide))⟩ dX5_silentFrom_28
        · skip
          have i8_x7 : iv_R 0 0 x7 := ((i_x7.cutLo (n := 0) (iv_eq_r c8 q_0).1).cutHi (n := 0) (iv_eq_r c8 q_0).2)
          refine iv_iinc hx hb i3_x1 (lo := 1) (hi := 24) (by decide) dX5_silentFrom_21 hl (k := 0) rfl (by decide) (fun x10 ls e_x10 i_x10 hl => ?_)
          have hl : lv_has ls 3 [(2, .int x10), (0, .ref h0), (1, .int x_0)] := hl
          refine lv_goto (tgt := 2) hx hb dX5_silentFrom_24 (by decide) ?_
          exact ih_2 _ _ hB x10 (i_x10.wk (by decide)) (iv_mup (c := 1) i_x1 (by decide) (by decide) (by omega) hn) _ (lv_sub hl [0, 1, 2] rfl)
  exact L_2 _ _ _ hB 0 (q_0.wk (by decide)) (Nat.lt_succ_self _) _ (lv_sub hl [0, 1, 2] rfl)
theorem dX11_silence_0 : decode cX11_silence 0 = .ok (.iconst 0, 1) := by decide +kernel
theorem dX11_silence_1 : decode cX11_silence 1 = .ok (.istore_n 2, 1) := by decide +kernel
theorem dX11_silence_2 : decode cX11_silence 2 = .ok (.iconst (-1), 1) := by decide +kernel
theorem dX11_silence_3 : decode cX11_silence 3 = .ok (.istore_n 3, 1) := by decide +kernel
theorem dX11_silence_4 : decode cX11_silence 4 = .ok (.iconst 0, 1) := by decide +kernel
theorem dX11_silence_5 : decode cX11_silence 5 = .ok (.istore 4, 2) := by decide +kernel
theorem dX11_silence_7 : decode cX11_silence 7 = .ok (.iload 4, 2) := by decide +kernel
theorem dX11_silence_9 : decode cX11_silence 9 = .ok (.bipush 24, 2) := by decide +kernel
theorem dX11_silence_11 : decode cX11_silence 11 = .ok (.if_icmp .ge 32, 3) := by decide +kernel
theorem dX11_silence_14 : decode cX11_silence 14 = .ok (.aload_n 0, 1) := by decide +kernel
theorem dX11_silence_15 : decode cX11_silence 15 = .ok (.getfield 12, 3) := by decide +kernel
theorem dX11_silence_18 : decode cX11_silence 18 = .ok (.iload 4, 2) := by decide +kernel
theorem dX11_silence_20 : decode cX11_silence 20 = .ok (.invokevirtual 279, 3) := by decide +kernel
theorem dX11_silence_23 : decode cX11_silence 23 = .ok (.istore 5, 2) := by decide +kernel
theorem dX11_silence_25 : decode cX11_silence 25 = .ok (.iload 5, 2) := by decide +kernel
theorem dX11_silence_27 : decode cX11_silence 27 = .ok (.iload_n 2, 1) := by decide +kernel
theorem dX11_silence_28 : decode cX11_silence 28 = .ok (.if_icmp .le 9, 3) := by decide +kernel
theorem dX11_silence_31 : decode cX11_silence 31 = .ok (.iload 5, 2) := by decide +kernel
theorem dX11_silence_33 : decode cX11_silence 33 = .ok (.istore_n 2, 1) := by decide +kernel
theorem dX11_silence_34 : decode cX11_silence 34 = .ok (.iload 4, 2) := by decide +kernel
theorem dX11_silence_36 : decode cX11_silence 36 = .ok (.istore_n 3, 1) := by decide +kernel
theorem dX11_silence_37 : decode cX11_silence 37 = .ok (.iinc 4 1, 3) := by decide +kernel
theorem dX11_silence_40 : decode cX11_silence 40 = .ok (.goto (-33), 3) := by decide +kernel
theorem dX11_silence_43 : decode cX11_silence 43 = .ok (.iload_n 1, 1) := by decide +kernel
theorem dX11_silence_44 : decode cX11_silence 44 = .ok (.iload_n 2, 1) := by decide +kernel
theorem dX11_silence_45 : decode cX11_silence 45 = .ok (.iload_n 3, 1) := by decide +kernel
theorem dX11_silence_46 : decode cX11_silence 46 = .ok (.invokestatic 282, 3) := by decide +kernel
theorem dX11_silence_49 : decode cX11_silence 49 = .ok (.ireturn, 1) := by decide +kernel
set_option maxHeartbeats 4000000 in
set_option maxRecDepth 100000 in
theorem c_X11_silence (l : Launch) (D : va_G) (tys : List (ClassId × FieldType)) (base : Nat) (G : iv_G) (h0 : Nat) (g_h0 : Nat → Int32) (r_h0 : Nat → Nat) (a_h0 : G h0 = some (11, g_h0, r_h0)) (x_0 : Int32) (i_x_0 : iv_R (-2147483648) 2147483647 x_0) : Met l yX11_silence (Cond.code yX11_silence cX11_silence 6 (some .int) :: iv_W0) ({ frames := 5, cells := 0, slots := 0, locals := 109 }) (iv_Pc iv_sh D classes tys base G [.ref h0, .int x_0]) (iv_Qi iv_sh D classes tys base (fun v G' => G = G' ∧ iv_R (-2147483648) 2147483647 v)) 0 0 (iv_A base) := by
  refine iv_head (by decide) (Nat.le_of_ble_eq_true rfl) ?_
  intro p e s m args below meth c ls X hr hlocks hname hB hl
  have X := X
  have hx := X.1.1
  have hb := X.1.2.1
  have hl : lv_has ls 6 [(0, .ref h0), (1, .int x_0)] := hl
  refine lv_iconst (v := 0) hx hb dX11_silence_0 (by decide) ?_
  refine lv_istore_n (lv' := [(2, .int 0), (0, .ref h0), (1, .int x_0)]) hx hb dX11_silence_1 rfl hl (by decide) rfl (fun ls hl => ?_)
  refine lv_iconst (v := (-1)) hx hb dX11_silence_2 (by decide) ?_
  refine lv_istore_n (lv' := [(3, .int (-1)), (2, .int 0), (0, .ref h0), (1, .int x_0)]) hx hb dX11_silence_3 rfl hl (by decide) rfl (fun ls hl => ?_)
  refine lv_iconst (v := 0) hx hb dX11_silence_4 (by decide) ?_
  refine lv_istore (lv' := [(4, .int 0), (3, .int (-1)), (2, .int 0), (0, .ref h0), (1, .int x_0)]) hx hb dX11_silence_5 hl (by decide) rfl (fun ls hl => ?_)
  have L_7 : ∀ (n_7 : Nat) (H : Heap) (locs : List Loc) (hB : iv_B iv_sh D classes tys base G s.heap H locs) (x1 : Int32) (i_x1 : iv_R 0 24 x1) (x2 : Int32) (i_x2 : iv_R (-1) 23 x2) (x3 : Int32) (i_x3 : iv_R 0 24 x3) (hn : (25 - x3.toInt).toNat < n_7) (ls : Array Slot) (hl : lv_has ls 6 [(4, .int x3), (3, .int x2), (2, .int x1), (0, .ref h0), (1, .int x_0)]), W p l e ({ frames := 5, cells := 0, slots := 0, locals := 109 } : Room) s m args below meth c H locs 0 0 (MQ below (iv_Qi iv_sh D classes tys base (fun v G' => G = G' ∧ iv_R (-2147483648) 2147483647 v)) args s 0 0 (iv_A base)) (F0 m 7 ls []) := by
    intro n_7
    induction n_7 with
    | zero => intro H locs hB x1 i_x1 x2 i_x2 x3 i_x3 hn ls hl; exact absurd hn (Nat.not_lt_zero _)
    | succ n_7 ih_7 =>
      intro H locs hB x1 i_x1 x2 i_x2 x3 i_x3 hn ls hl
      refine lv_iload hx hb dX11_silence_7 (lv_at hl 0 rfl) ?_
      refine lv_bipush (v := 24) hx hb dX11_silence_9 (by decide) ?_
      refine lv_icmp_ge (tgt := 43) hx hb dX11_silence_11 (by decide) (fun c4 => ?_) (fun c4 => ?_)
      · skip
        have i4_x3 : iv_R 24 24 x3 := (i_x3.cutLo (n := 24) (iv_le_l c4 q_24))
        refine lv_iload_n hx hb dX11_silence_43 rfl (lv_at hl 4 rfl) ?_
        refine lv_iload_n hx hb dX11_silence_44 rfl (lv_at hl 2 rfl) ?_
        refine lv_iload_n hx hb dX11_silence_45 rfl (lv_at hl 1 rfl) ?_
        refine iv_cSi X k_good k_mf_X11_chosen k_st_X11_chosen k_ml_X11_282 hB (As := [.int x_0, .int x1, .int x2]) (c_X11_chosen l D tys base G x_0 i_x_0 x1 (i_x1.wk (by decide)) x2 (i_x2.wk (by decide))) ⟨rfl, rfl⟩ ⟨Nat.le_of_ble_eq_true rfl, Nat.le_of_ble_eq_true rfl⟩ ⟨Nat.le_of_ble_eq_true rfl, Nat.le_of_ble_eq_true rfl⟩ rfl rfl hl.1 (Nat.le_of_ble_eq_true rfl) dX11_silence_46 (fun x6 G9 H locs hq hB => ?_)
        obtain ⟨rfl, i_x6⟩ := hq
        exact iv_iret X hr hlocks hB ⟨rfl, i_x6⟩ dX11_silence_49
      · skip
        have i6_x3 : iv_R 0 23 x3 := (i_x3.cutHi (n := 23) (iv_lt_r (iv_nle c4) q_24 (by decide)))
        refine lv_aload_n hx hb dX11_silence_14 rfl (lv_at hl 3 rfl) ?_
        refine iv_getr X ft_X11 hB a_h0 sh_11 0 (by decide) rfl k_fl_X11_12 dX11_silence_15 (fun b8 g_b8 r_b8 e_b8 a_b8 => ?_)
        refine lv_iload hx hb dX11_silence_18 (lv_at hl 0 rfl) ?_
        refine iv_cVi X k_good k_mf_X5_silentFrom k_im_X5_silentFrom k_sel_X5_silentFrom k_ml_X11_279 ft_X5 hB a_b8 sh_5 (As := [.int x3]) (c_X5_silentFrom l D tys base G b8 g_b8 r_b8 a_b8 x3 i6_x3) ⟨rfl, rfl⟩ ⟨Nat.le_of_ble_eq_true rfl, Nat.le_of_ble_eq_true rfl⟩ ⟨Nat.le_of_ble_eq_true rfl, Nat.le_of_ble_eq_true rfl⟩ rfl rfl hl.1 (Nat.le_of_ble_eq_true rfl) dX11_silence_20 (fun x9 G9 H locs hq hB => ?_)
        obtain ⟨rfl, i_x9⟩ := hq
        refine lv_istore (lv' := [(5, .int x9), (4, .int x3), (3, .int x2), (2, .int x1), (0, .ref h0), (1, .int x_0)]) hx hb dX11_silence_23 hl (by decide) rfl (fun ls hl => ?_)
        refine lv_iload hx hb dX11_silence_25 (lv_at hl 0 rfl) ?_
        refine lv_iload_n hx hb dX11_silence_27 rfl (lv_at hl 3 rfl) ?_
        refine lv_icmp_le (tgt := 37) hx hb dX11_silence_28 (by decide) (fun c10 => ?_) (fun c10 => ?_)
        · skip
          refine iv_iinc hx hb i6_x3 (lo := 1) (hi := 24) (by decide) dX11_silence_37 hl (k := 1) rfl (by decide) (fun x11 ls e_x11 i_x11 hl => ?_)
          have hl : lv_has ls 6 [(4, .int x11), (5, .int x9), (3, .int x2), (2, .int x1), (0, .ref h0), (1, .int x_0)] := hl
          refine lv_goto (tgt := 7) hx hb dX11_silence_40 (by decide) ?_
          exact ih_7 _ _ hB x1 i_x1 x2 i_x2 x11 (i_x11.wk (by decide)) (iv_mup (c := 1) i_x3 (by decide) (by decide) (by omega) hn) _ (lv_sub hl [0, 2, 3, 4, 5] rfl)
        · skip
          have i11_x1 : iv_R 0 23 x1 := (i_x1.cutHi (n := 23) (iv_lt_r (iv_nle c10) i_x9 (by decide)))
          have i12_x9 : iv_R 1 24 x9 := (i_x9.cutLo (n := 1) (iv_lt_l (iv_nle c10) i_x1 (by decide)))
          refine lv_iload hx hb dX11_silence_31 (lv_at hl 0 rfl) ?_
          refine lv_istore_n (lv' := [(2, .int x9), (5, .int x9), (4, .int x3), (3, .int x2), (0, .ref h0), (1, .int x_0)]) hx hb dX11_silence_33 rfl hl (by decide) rfl (fun ls hl => ?_)
          refine lv_iload hx hb dX11_silence_34 (lv_at hl 2 rfl) ?_
          refine lv_istore_n (lv' := [(3, .int x3), (2, .int x9), (5, .int x9), (4, .int x3), (0, .ref h0), (1, .int x_0)]) hx hb dX11_silence_36 rfl hl (by decide) rfl (fun ls hl => ?_)
          refine iv_iinc hx hb i6_x3 (lo := 1) (hi := 24) (by decide) dX11_silence_37 hl (k := 3) rfl (by decide) (fun x14 ls e_x14 i_x14 hl => ?_)
          have hl : lv_has ls 6 [(4, .int x14), (3, .int x3), (2, .int x9), (5, .int x9), (0, .ref h0), (1, .int x_0)] := hl
          refine lv_goto (tgt := 7) hx hb dX11_silence_40 (by decide) ?_
          exact ih_7 _ _ hB x9 (i12_x9.wk (by decide)) x3 (i6_x3.wk (by decide)) x14 (i_x14.wk (by decide)) (iv_mup (c := 1) i_x3 (by decide) (by decide) (by omega) hn) _ (lv_sub hl [0, 1, 2, 4, 5] rfl)
  exact L_7 _ _ _ hB 0 (q_0.wk (by decide)) (-1) (q_n1.wk (by decide)) 0 (q_0.wk (by decide)) (Nat.lt_succ_self _) _ (lv_sub hl [0, 1, 2, 3, 4] rfl)
theorem dX11_state_0 : decode cX11_state 0 = .ok (.aload_n 0, 1) := by decide +kernel
theorem dX11_state_1 : decode cX11_state 1 = .ok (.getfield 12, 3) := by decide +kernel
theorem dX11_state_4 : decode cX11_state 4 = .ok (.getfield 72, 3) := by decide +kernel
theorem dX11_state_7 : decode cX11_state 7 = .ok (.istore_n 2, 1) := by decide +kernel
theorem dX11_state_8 : decode cX11_state 8 = .ok (.aload_n 0, 1) := by decide +kernel
theorem dX11_state_9 : decode cX11_state 9 = .ok (.getfield 12, 3) := by decide +kernel
theorem dX11_state_12 : decode cX11_state 12 = .ok (.iload_n 1, 1) := by decide +kernel
theorem dX11_state_13 : decode cX11_state 13 = .ok (.putfield 72, 3) := by decide +kernel
theorem dX11_state_16 : decode cX11_state 16 = .ok (.aload_n 0, 1) := by decide +kernel
theorem dX11_state_17 : decode cX11_state 17 = .ok (.getfield 22, 3) := by decide +kernel
theorem dX11_state_20 : decode cX11_state 20 = .ok (.invokevirtual 76, 3) := by decide +kernel
theorem dX11_state_23 : decode cX11_state 23 = .ok (.iload_n 2, 1) := by decide +kernel
theorem dX11_state_24 : decode cX11_state 24 = .ok (.ireturn, 1) := by decide +kernel
set_option maxHeartbeats 4000000 in
set_option maxRecDepth 100000 in
theorem c_X11_state (l : Launch) (D : va_G) (tys : List (ClassId × FieldType)) (base : Nat) (G : iv_G) (h0 : Nat) (g_h0 : Nat → Int32) (r_h0 : Nat → Nat) (a_h0 : G h0 = some (11, g_h0, r_h0)) (x_0 : Int32) (i_x_0 : iv_R (-2147483648) 2147483647 x_0) : Met l yX11_state (Cond.code yX11_state cX11_state 3 (some .int) :: iv_W0) ({ frames := 1, cells := 0, slots := 0, locals := 20 }) (iv_Pc iv_sh D classes tys base G [.ref h0, .int x_0]) (iv_Qi iv_sh D classes tys base (fun v G' => iv_Md [5, 6] G G' ∧ iv_R (-2147483648) 2147483647 v)) 0 0 (iv_A base) := by
  refine iv_head (by decide) (Nat.le_of_ble_eq_true rfl) ?_
  intro p e s m args below meth c ls X hr hlocks hname hB hl
  have X := X
  have hx := X.1.1
  have hb := X.1.2.1
  have hM : iv_Md [5, 6] G G := iv_Md.rf
  have hl : lv_has ls 3 [(0, .ref h0), (1, .int x_0)] := hl
  refine lv_aload_n hx hb dX11_state_0 rfl (lv_at hl 0 rfl) ?_
  refine iv_getr X ft_X11 hB a_h0 sh_11 0 (by decide) rfl k_fl_X11_12 dX11_state_1 (fun b1 g_b1 r_b1 e_b1 a_b1 => ?_)
  refine iv_geti X ft_X5 hB a_b1 sh_5 7 (by decide) rfl k_fl_X11_72 dX11_state_4 (fun x2 e_x2 i_x2 => ?_)
  refine lv_istore_n (lv' := [(2, .int x2), (0, .ref h0), (1, .int x_0)]) hx hb dX11_state_7 rfl hl (by decide) rfl (fun ls hl => ?_)
  refine lv_aload_n hx hb dX11_state_8 rfl (lv_at hl 1 rfl) ?_
  refine iv_getr0 X ft_X11 hB a_h0 sh_11 0 (by decide) rfl k_fl_X11_12 dX11_state_9 e_b1 ?_
  refine lv_iload_n hx hb dX11_state_12 rfl (lv_at hl 2 rfl) ?_
  refine iv_puti X ft_X5 hB a_b1 sh_5 7 (by decide) rfl rfl k_fl_X11_72 rfl i_x_0 rfl rfl dX11_state_13 (fun H locs hB => ?_)
  have hm := iv_Md.put (x := x_0) a_b1 (j := 7) (by decide) (by decide)
  have h9 := iv_up_eq (G := G) (a := b1) (k := (5, upd g_b1 7 x_0, r_b1))
  generalize iv_up G b1 _ = G3 at hB hm h9
  have hM := hM.stp hm (by decide)
  have a_h0 := hm.at a_h0 (by decide)
  refine lv_aload_n hx hb dX11_state_16 rfl (lv_at hl 1 rfl) ?_
  refine iv_getr X ft_X11 hB a_h0 sh_11 3 (by decide) rfl k_fl_X11_22 dX11_state_17 (fun b5 g_b5 r_b5 e_b5 a_b5 => ?_)
  refine iv_cVv X k_good k_mf_X6_forget k_im_X6_forget k_sel_X6_forget k_ml_X11_76 ft_X6 hB a_b5 sh_6 (As := []) (c_X6_forget l D tys base G3 b5 g_b5 r_b5 a_b5) ⟨rfl, rfl⟩ ⟨Nat.le_of_ble_eq_true rfl, Nat.le_of_ble_eq_true rfl⟩ ⟨Nat.le_of_ble_eq_true rfl, Nat.le_of_ble_eq_true rfl⟩ rfl rfl hl.1 (Nat.le_of_ble_eq_true rfl) dX11_state_20 (fun G9 H locs hq hB => ?_)
  have hm := hq
  obtain ⟨G6, hG9⟩ : ∃ g, g = G9 := ⟨_, rfl⟩
  rw [← hG9] at hm hB
  have hM := hM.stp hm (by decide)
  have a_h0 := hm.at a_h0 (by decide)
  refine lv_iload_n hx hb dX11_state_23 rfl (lv_at hl 0 rfl) ?_
  exact iv_iret X hr hlocks hB ⟨hM, i_x2⟩ dX11_state_24
theorem dX8_change_0 : decode cX8_change 0 = .ok (.aload_n 0, 1) := by decide +kernel
theorem dX8_change_1 : decode cX8_change 1 = .ok (.iload_n 1, 1) := by decide +kernel
theorem dX8_change_2 : decode cX8_change 2 = .ok (.invokevirtual 22, 3) := by decide +kernel
theorem dX8_change_5 : decode cX8_change 5 = .ok (.ifCond .eq 31, 3) := by decide +kernel
theorem dX8_change_8 : decode cX8_change 8 = .ok (.iload_n 2, 1) := by decide +kernel
theorem dX8_change_9 : decode cX8_change 9 = .ok (.iconst 0, 1) := by decide +kernel
theorem dX8_change_10 : decode cX8_change 10 = .ok (.aload_n 0, 1) := by decide +kernel
theorem dX8_change_11 : decode cX8_change 11 = .ok (.getfield 9, 3) := by decide +kernel
theorem dX8_change_14 : decode cX8_change 14 = .ok (.iconst 1, 1) := by decide +kernel
theorem dX8_change_15 : decode cX8_change 15 = .ok (.isub, 1) := by decide +kernel
theorem dX8_change_16 : decode cX8_change 16 = .ok (.invokestatic 26, 3) := by decide +kernel
theorem dX8_change_19 : decode cX8_change 19 = .ok (.ifCond .eq 17, 3) := by decide +kernel
theorem dX8_change_22 : decode cX8_change 22 = .ok (.aload_n 0, 1) := by decide +kernel
theorem dX8_change_23 : decode cX8_change 23 = .ok (.getfield 15, 3) := by decide +kernel
theorem dX8_change_26 : decode cX8_change 26 = .ok (.iload_n 1, 1) := by decide +kernel
theorem dX8_change_27 : decode cX8_change 27 = .ok (.aload_n 0, 1) := by decide +kernel
theorem dX8_change_28 : decode cX8_change 28 = .ok (.getfield 9, 3) := by decide +kernel
theorem dX8_change_31 : decode cX8_change 31 = .ok (.imul, 1) := by decide +kernel
theorem dX8_change_32 : decode cX8_change 32 = .ok (.iload_n 2, 1) := by decide +kernel
theorem dX8_change_33 : decode cX8_change 33 = .ok (.iadd, 1) := by decide +kernel
theorem dX8_change_34 : decode cX8_change 34 = .ok (.iload_n 3, 1) := by decide +kernel
theorem dX8_change_35 : decode cX8_change 35 = .ok (.iastore, 1) := by decide +kernel
theorem dX8_change_36 : decode cX8_change 36 = .ok (.return_, 1) := by decide +kernel
set_option maxHeartbeats 4000000 in
set_option maxRecDepth 100000 in
theorem c_X8_change_8 (l : Launch) (D : va_G) (tys : List (ClassId × FieldType)) (base : Nat) (G : iv_G) (h0 : Nat) (g_h0 : Nat → Int32) (r_h0 : Nat → Nat) (a_h0 : G h0 = some (8, g_h0, r_h0)) (x_0 : Int32) (i_x_0 : iv_R 0 19 x_0) (x_1 : Int32) (i_x_1 : iv_R 1 1 x_1) (x_2 : Int32) (i_x_2 : iv_R (-2147483648) 2147483647 x_2) : Met l yX8_change (Cond.code yX8_change cX8_change 4 none :: iv_W0) ({ frames := 1, cells := 0, slots := 0, locals := 22 }) (iv_Pc iv_sh D classes tys base G [.ref h0, .int x_0, .int x_1, .int x_2]) (iv_Qv iv_sh D classes tys base (fun G' => iv_Md [22] G G')) 0 0 (iv_A base) := by
  refine iv_head (by decide) (Nat.le_of_ble_eq_true rfl) ?_
  intro p e s m args below meth c ls X hr hlocks hname hB hl
  have X := X
  have hx := X.1.1
  have hb := X.1.2.1
  have hM : iv_Md [22] G G := iv_Md.rf
  have hl : lv_has ls 4 [(0, .ref h0), (1, .int x_0), (2, .int x_1), (3, .int x_2)] := hl
  refine lv_aload_n hx hb dX8_change_0 rfl (lv_at hl 0 rfl) ?_
  refine lv_iload_n hx hb dX8_change_1 rfl (lv_at hl 1 rfl) ?_
  refine iv_cVi X k_good k_mf_X8_has k_im_X8_has k_sel_X8_has k_ml_X8_22 ft_X8 hB a_h0 sh_8 (As := [.int x_0]) (c_X8_has_8 l D tys base G h0 g_h0 r_h0 a_h0 x_0 (i_x_0.wk (by decide))) ⟨rfl, rfl⟩ ⟨Nat.le_of_ble_eq_true rfl, Nat.le_of_ble_eq_true rfl⟩ ⟨Nat.le_of_ble_eq_true rfl, Nat.le_of_ble_eq_true rfl⟩ rfl rfl hl.1 (Nat.le_of_ble_eq_true rfl) dX8_change_2 (fun x1 G9 H locs hq hB => ?_)
  obtain ⟨rfl, i_x1, hp2⟩ := hq
  refine lv_if_eq (tgt := 36) hx hb dX8_change_5 (by decide) (fun c3 => ?_) (fun c3 => ?_)
  · skip
    have i3_x1 : iv_R 0 0 x1 := (i_x1.cutHi (n := 0) (iv_eq_r c3 q_0).2)
    exact iv_vret X hr hlocks hB hM dX8_change_36
  · skip
    have i4_x1 : iv_R 1 1 x1 := iv_ne_lo c3 i_x1 q_0 (by decide)
    refine lv_iload_n hx hb dX8_change_8 rfl (lv_at hl 2 rfl) ?_
    refine lv_iconst (v := 0) hx hb dX8_change_9 (by decide) ?_
    refine lv_aload_n hx hb dX8_change_10 rfl (lv_at hl 0 rfl) ?_
    refine iv_geti X ft_X8 hB a_h0 sh_8 0 (by decide) rfl k_fl_X8_9 dX8_change_11 (fun x6 e_x6 i_x6 => ?_)
    refine lv_iconst (v := 1) hx hb dX8_change_14 (by decide) ?_
    refine iv_isub hx hb i_x6 q_1 (lo := 2) (hi := 2) (by decide) dX8_change_15 (fun x7 e_x7 i_x7 => ?_)
    refine iv_cSNi X k_good k_mf_X11_isWithin k_st_X11_isWithin (k_mn_X8_26 X.2.2) hB (As := [.int x_1, .int 0, .int x7]) (c_X11_isWithin l D tys base G x_1 (i_x_1.wk (by decide)) 0 (q_0.wk (by decide)) x7 (i_x7.wk (by decide))) ⟨rfl, rfl⟩ ⟨Nat.le_of_ble_eq_true rfl, Nat.le_of_ble_eq_true rfl⟩ ⟨Nat.le_of_ble_eq_true rfl, Nat.le_of_ble_eq_true rfl⟩ rfl rfl hl.1 (Nat.le_of_ble_eq_true rfl) dX8_change_16 (fun x8 G9 H locs hq hB => ?_)
    obtain ⟨rfl, i_x8, hp9⟩ := hq
    have k10 : ¬ x8 = 0 → iv_R 1 1 x_1 := fun h => ⟨iv_max i_x_1.1 (Int.le_trans q_0.1 (hp9.1 h).1) (by decide), iv_min i_x_1.2 (Int.le_trans (hp9.1 h).2 i_x7.2) (by decide)⟩
    refine lv_if_eq (tgt := 36) hx hb dX8_change_19 (by decide) (fun c11 => ?_) (fun c11 => ?_)
    · skip
      have i11_x8 : iv_R 0 0 x8 := (i_x8.cutHi (n := 0) (iv_eq_r c11 q_0).2)
      exact iv_vret X hr hlocks hB hM dX8_change_36
    · skip
      have i12_x8 : iv_R 1 1 x8 := iv_ne_lo c11 i_x8 q_0 (by decide)
      refine lv_aload_n hx hb dX8_change_22 rfl (lv_at hl 0 rfl) ?_
      refine iv_getr X ft_X8 hB a_h0 sh_8 1 (by decide) rfl k_fl_X8_15 dX8_change_23 (fun b14 g_b14 r_b14 e_b14 a_b14 => ?_)
      refine lv_iload_n hx hb dX8_change_26 rfl (lv_at hl 1 rfl) ?_
      refine lv_aload_n hx hb dX8_change_27 rfl (lv_at hl 0 rfl) ?_
      refine iv_geti0 X ft_X8 hB a_h0 sh_8 0 (by decide) rfl k_fl_X8_9 dX8_change_28 e_x6 ?_
      refine iv_imul hx hb i_x_0 i_x6 (lo := 0) (hi := 57) (by decide) dX8_change_31 (fun x15 e_x15 i_x15 => ?_)
      refine lv_iload_n hx hb dX8_change_32 rfl (lv_at hl 2 rfl) ?_
      refine iv_iadd hx hb i_x15 i_x_1 (lo := 1) (hi := 58) (by decide) dX8_change_33 (fun x16 e_x16 i_x16 => ?_)
      refine lv_iload_n hx hb dX8_change_34 rfl (lv_at hl 3 rfl) ?_
      refine iv_ast X hB a_b14 sh_22 (iv_in i_x16 (by decide)) i_x_2 dX8_change_35 (fun H locs hB => ?_)
      have hm := iv_Md.ast (j := x16.toNatClampNeg) (x := x_2) a_b14 rfl (by decide)
      have h9 := iv_up_eq (G := G) (a := b14) (k := (22, upd g_b14 x16.toNatClampNeg x_2, r_b14))
      generalize iv_up G b14 _ = G17 at hB hm h9
      have hM := hM.stp hm (by decide)
      have a_h0 := hm.at a_h0 (by decide)
      exact iv_vret X hr hlocks hB hM dX8_change_36
theorem dX8_cut_0 : decode cX8_cut 0 = .ok (.iload_n 1, 1) := by decide +kernel
theorem dX8_cut_1 : decode cX8_cut 1 = .ok (.ifCond .lt 16, 3) := by decide +kernel
theorem dX8_cut_4 : decode cX8_cut 4 = .ok (.iload_n 1, 1) := by decide +kernel
theorem dX8_cut_5 : decode cX8_cut 5 = .ok (.aload_n 0, 1) := by decide +kernel
theorem dX8_cut_6 : decode cX8_cut 6 = .ok (.getfield 19, 3) := by decide +kernel
theorem dX8_cut_9 : decode cX8_cut 9 = .ok (.if_icmp .gt 8, 3) := by decide +kernel
theorem dX8_cut_12 : decode cX8_cut 12 = .ok (.aload_n 0, 1) := by decide +kernel
theorem dX8_cut_13 : decode cX8_cut 13 = .ok (.iload_n 1, 1) := by decide +kernel
theorem dX8_cut_14 : decode cX8_cut 14 = .ok (.putfield 19, 3) := by decide +kernel
theorem dX8_cut_17 : decode cX8_cut 17 = .ok (.return_, 1) := by decide +kernel
set_option maxHeartbeats 4000000 in
set_option maxRecDepth 100000 in
theorem c_X8_cut_13 (l : Launch) (D : va_G) (tys : List (ClassId × FieldType)) (base : Nat) (G : iv_G) (h0 : Nat) (g_h0 : Nat → Int32) (r_h0 : Nat → Nat) (a_h0 : G h0 = some (13, g_h0, r_h0)) (x_0 : Int32) (i_x_0 : iv_R (-2147483648) 2147483647 x_0) : Met l yX8_cut (Cond.code yX8_cut cX8_cut 2 none :: iv_W0) ({ frames := 0, cells := 0, slots := 0, locals := 0 }) (iv_Pc iv_sh D classes tys base G [.ref h0, .int x_0]) (iv_Qv iv_sh D classes tys base (fun G' => iv_Md [13] G G')) 0 0 (iv_A base) := by
  refine iv_head (by decide) (Nat.le_of_ble_eq_true rfl) ?_
  intro p e s m args below meth c ls X hr hlocks hname hB hl
  have X := X
  have hx := X.1.1
  have hb := X.1.2.1
  have hM : iv_Md [13] G G := iv_Md.rf
  have hl : lv_has ls 2 [(0, .ref h0), (1, .int x_0)] := hl
  refine lv_iload_n hx hb dX8_cut_0 rfl (lv_at hl 1 rfl) ?_
  refine lv_if_lt (tgt := 17) hx hb dX8_cut_1 (by decide) (fun c1 => ?_) (fun c1 => ?_)
  · skip
    have i1_x_0 : iv_R (-2147483648) (-1) x_0 := (i_x_0.cutHi (n := (-1)) (iv_lt_r c1 q_0 (by decide)))
    exact iv_vret X hr hlocks hB hM dX8_cut_17
  · skip
    have i2_x_0 : iv_R 0 2147483647 x_0 := (i_x_0.cutLo (n := 0) (iv_le_l (iv_nlt c1) q_0))
    refine lv_iload_n hx hb dX8_cut_4 rfl (lv_at hl 1 rfl) ?_
    refine lv_aload_n hx hb dX8_cut_5 rfl (lv_at hl 0 rfl) ?_
    refine iv_geti X ft_X8 hB a_h0 sh_13 2 (by decide) rfl k_fl_X8_19 dX8_cut_6 (fun x4 e_x4 i_x4 => ?_)
    refine lv_icmp_gt (tgt := 17) hx hb dX8_cut_9 (by decide) (fun c5 => ?_) (fun c5 => ?_)
    · skip
      have i5_x_0 : iv_R 1 2147483647 x_0 := (i2_x_0.cutLo (n := 1) (iv_lt_l c5 i_x4 (by decide)))
      exact iv_vret X hr hlocks hB hM dX8_cut_17
    · skip
      have i6_x_0 : iv_R 0 120 x_0 := (i2_x_0.cutHi (n := 120) (iv_le_r (iv_nlt c5) i_x4))
      refine lv_aload_n hx hb dX8_cut_12 rfl (lv_at hl 0 rfl) ?_
      refine lv_iload_n hx hb dX8_cut_13 rfl (lv_at hl 1 rfl) ?_
      refine iv_puti X ft_X8 hB a_h0 sh_13 2 (by decide) rfl rfl k_fl_X8_19 rfl i6_x_0 rfl rfl dX8_cut_14 (fun H locs hB => ?_)
      have hm := iv_Md.put (x := x_0) a_h0 (j := 2) (by decide) (by decide)
      have h9 := iv_up_eq (G := G) (a := h0) (k := (13, upd g_h0 2 x_0, r_h0))
      generalize iv_up G h0 _ = G8 at hB hm h9
      have hM := hM.stp hm (by decide)
      generalize hgn_g9 : upd g_h0 _ _ = g9 at h9
      have a_h0 := h9
      have e9_g9 : x_0 = g9 2 := by rw [← hgn_g9]; simp [upd]
      exact iv_vret X hr hlocks hB hM dX8_cut_17
set_option maxHeartbeats 4000000 in
set_option maxRecDepth 100000 in
theorem c_X8_cut_8 (l : Launch) (D : va_G) (tys : List (ClassId × FieldType)) (base : Nat) (G : iv_G) (h0 : Nat) (g_h0 : Nat → Int32) (r_h0 : Nat → Nat) (a_h0 : G h0 = some (8, g_h0, r_h0)) (x_0 : Int32) (i_x_0 : iv_R (-2147483648) 2147483647 x_0) : Met l yX8_cut (Cond.code yX8_cut cX8_cut 2 none :: iv_W0) ({ frames := 0, cells := 0, slots := 0, locals := 0 }) (iv_Pc iv_sh D classes tys base G [.ref h0, .int x_0]) (iv_Qv iv_sh D classes tys base (fun G' => iv_Md [8] G G')) 0 0 (iv_A base) := by
  refine iv_head (by decide) (Nat.le_of_ble_eq_true rfl) ?_
  intro p e s m args below meth c ls X hr hlocks hname hB hl
  have X := X
  have hx := X.1.1
  have hb := X.1.2.1
  have hM : iv_Md [8] G G := iv_Md.rf
  have hl : lv_has ls 2 [(0, .ref h0), (1, .int x_0)] := hl
  refine lv_iload_n hx hb dX8_cut_0 rfl (lv_at hl 1 rfl) ?_
  refine lv_if_lt (tgt := 17) hx hb dX8_cut_1 (by decide) (fun c1 => ?_) (fun c1 => ?_)
  · skip
    have i1_x_0 : iv_R (-2147483648) (-1) x_0 := (i_x_0.cutHi (n := (-1)) (iv_lt_r c1 q_0 (by decide)))
    exact iv_vret X hr hlocks hB hM dX8_cut_17
  · skip
    have i2_x_0 : iv_R 0 2147483647 x_0 := (i_x_0.cutLo (n := 0) (iv_le_l (iv_nlt c1) q_0))
    refine lv_iload_n hx hb dX8_cut_4 rfl (lv_at hl 1 rfl) ?_
    refine lv_aload_n hx hb dX8_cut_5 rfl (lv_at hl 0 rfl) ?_
    refine iv_geti X ft_X8 hB a_h0 sh_8 2 (by decide) rfl k_fl_X8_19 dX8_cut_6 (fun x4 e_x4 i_x4 => ?_)
    refine lv_icmp_gt (tgt := 17) hx hb dX8_cut_9 (by decide) (fun c5 => ?_) (fun c5 => ?_)
    · skip
      have i5_x_0 : iv_R 1 2147483647 x_0 := (i2_x_0.cutLo (n := 1) (iv_lt_l c5 i_x4 (by decide)))
      exact iv_vret X hr hlocks hB hM dX8_cut_17
    · skip
      have i6_x_0 : iv_R 0 20 x_0 := (i2_x_0.cutHi (n := 20) (iv_le_r (iv_nlt c5) i_x4))
      refine lv_aload_n hx hb dX8_cut_12 rfl (lv_at hl 0 rfl) ?_
      refine lv_iload_n hx hb dX8_cut_13 rfl (lv_at hl 1 rfl) ?_
      refine iv_puti X ft_X8 hB a_h0 sh_8 2 (by decide) rfl rfl k_fl_X8_19 rfl i6_x_0 rfl rfl dX8_cut_14 (fun H locs hB => ?_)
      have hm := iv_Md.put (x := x_0) a_h0 (j := 2) (by decide) (by decide)
      have h9 := iv_up_eq (G := G) (a := h0) (k := (8, upd g_h0 2 x_0, r_h0))
      generalize iv_up G h0 _ = G8 at hB hm h9
      have hM := hM.stp hm (by decide)
      generalize hgn_g9 : upd g_h0 _ _ = g9 at h9
      have a_h0 := h9
      have e9_g9 : x_0 = g9 2 := by rw [← hgn_g9]; simp [upd]
      exact iv_vret X hr hlocks hB hM dX8_cut_17
theorem dX6_giveBack_0 : decode cX6_giveBack 0 = .ok (.aload_n 0, 1) := by decide +kernel
theorem dX6_giveBack_1 : decode cX6_giveBack 1 = .ok (.getfield 16, 3) := by decide +kernel
theorem dX6_giveBack_4 : decode cX6_giveBack 4 = .ok (.ifCond .ne 5, 3) := by decide +kernel
theorem dX6_giveBack_7 : decode cX6_giveBack 7 = .ok (.iconst 0, 1) := by decide +kernel
theorem dX6_giveBack_8 : decode cX6_giveBack 8 = .ok (.ireturn, 1) := by decide +kernel
theorem dX6_giveBack_9 : decode cX6_giveBack 9 = .ok (.aload_n 0, 1) := by decide +kernel
theorem dX6_giveBack_10 : decode cX6_giveBack 10 = .ok (.getfield 13, 3) := by decide +kernel
theorem dX6_giveBack_13 : decode cX6_giveBack 13 = .ok (.aload_n 0, 1) := by decide +kernel
theorem dX6_giveBack_14 : decode cX6_giveBack 14 = .ok (.getfield 20, 3) := by decide +kernel
theorem dX6_giveBack_17 : decode cX6_giveBack 17 = .ok (.aaload, 1) := by decide +kernel
theorem dX6_giveBack_18 : decode cX6_giveBack 18 = .ok (.astore_n 2, 1) := by decide +kernel
theorem dX6_giveBack_19 : decode cX6_giveBack 19 = .ok (.iconst 0, 1) := by decide +kernel
theorem dX6_giveBack_20 : decode cX6_giveBack 20 = .ok (.istore_n 3, 1) := by decide +kernel
theorem dX6_giveBack_21 : decode cX6_giveBack 21 = .ok (.iload_n 3, 1) := by decide +kernel
theorem dX6_giveBack_22 : decode cX6_giveBack 22 = .ok (.bipush 10, 2) := by decide +kernel
theorem dX6_giveBack_24 : decode cX6_giveBack 24 = .ok (.if_icmp .ge 63, 3) := by decide +kernel
theorem dX6_giveBack_27 : decode cX6_giveBack 27 = .ok (.aload_n 1, 1) := by decide +kernel
theorem dX6_giveBack_28 : decode cX6_giveBack 28 = .ok (.getfield 29, 3) := by decide +kernel
theorem dX6_giveBack_31 : decode cX6_giveBack 31 = .ok (.iload_n 3, 1) := by decide +kernel
theorem dX6_giveBack_32 : decode cX6_giveBack 32 = .ok (.aaload, 1) := by decide +kernel
theorem dX6_giveBack_33 : decode cX6_giveBack 33 = .ok (.astore 4, 2) := by decide +kernel
theorem dX6_giveBack_35 : decode cX6_giveBack 35 = .ok (.aload 4, 2) := by decide +kernel
theorem dX6_giveBack_37 : decode cX6_giveBack 37 = .ok (.aload_n 2, 1) := by decide +kernel
theorem dX6_giveBack_38 : decode cX6_giveBack 38 = .ok (.iload_n 3, 1) := by decide +kernel
theorem dX6_giveBack_39 : decode cX6_giveBack 39 = .ok (.iconst 4, 1) := by decide +kernel
theorem dX6_giveBack_40 : decode cX6_giveBack 40 = .ok (.imul, 1) := by decide +kernel
theorem dX6_giveBack_41 : decode cX6_giveBack 41 = .ok (.iaload, 1) := by decide +kernel
theorem dX6_giveBack_42 : decode cX6_giveBack 42 = .ok (.putfield 35, 3) := by decide +kernel
theorem dX6_giveBack_45 : decode cX6_giveBack 45 = .ok (.aload 4, 2) := by decide +kernel
theorem dX6_giveBack_47 : decode cX6_giveBack 47 = .ok (.aload_n 2, 1) := by decide +kernel
theorem dX6_giveBack_48 : decode cX6_giveBack 48 = .ok (.iload_n 3, 1) := by decide +kernel
theorem dX6_giveBack_49 : decode cX6_giveBack 49 = .ok (.iconst 4, 1) := by decide +kernel
theorem dX6_giveBack_50 : decode cX6_giveBack 50 = .ok (.imul, 1) := by decide +kernel
theorem dX6_giveBack_51 : decode cX6_giveBack 51 = .ok (.iconst 1, 1) := by decide +kernel
theorem dX6_giveBack_52 : decode cX6_giveBack 52 = .ok (.iadd, 1) := by decide +kernel
theorem dX6_giveBack_53 : decode cX6_giveBack 53 = .ok (.iaload, 1) := by decide +kernel
theorem dX6_giveBack_54 : decode cX6_giveBack 54 = .ok (.putfield 40, 3) := by decide +kernel
theorem dX6_giveBack_57 : decode cX6_giveBack 57 = .ok (.aload 4, 2) := by decide +kernel
theorem dX6_giveBack_59 : decode cX6_giveBack 59 = .ok (.aload_n 2, 1) := by decide +kernel
theorem dX6_giveBack_60 : decode cX6_giveBack 60 = .ok (.iload_n 3, 1) := by decide +kernel
theorem dX6_giveBack_61 : decode cX6_giveBack 61 = .ok (.iconst 4, 1) := by decide +kernel
theorem dX6_giveBack_62 : decode cX6_giveBack 62 = .ok (.imul, 1) := by decide +kernel
theorem dX6_giveBack_63 : decode cX6_giveBack 63 = .ok (.iconst 2, 1) := by decide +kernel
theorem dX6_giveBack_64 : decode cX6_giveBack 64 = .ok (.iadd, 1) := by decide +kernel
theorem dX6_giveBack_65 : decode cX6_giveBack 65 = .ok (.iaload, 1) := by decide +kernel
theorem dX6_giveBack_66 : decode cX6_giveBack 66 = .ok (.putfield 43, 3) := by decide +kernel
theorem dX6_giveBack_69 : decode cX6_giveBack 69 = .ok (.aload 4, 2) := by decide +kernel
theorem dX6_giveBack_71 : decode cX6_giveBack 71 = .ok (.aload_n 2, 1) := by decide +kernel
theorem dX6_giveBack_72 : decode cX6_giveBack 72 = .ok (.iload_n 3, 1) := by decide +kernel
theorem dX6_giveBack_73 : decode cX6_giveBack 73 = .ok (.iconst 4, 1) := by decide +kernel
theorem dX6_giveBack_74 : decode cX6_giveBack 74 = .ok (.imul, 1) := by decide +kernel
theorem dX6_giveBack_75 : decode cX6_giveBack 75 = .ok (.iconst 3, 1) := by decide +kernel
theorem dX6_giveBack_76 : decode cX6_giveBack 76 = .ok (.iadd, 1) := by decide +kernel
theorem dX6_giveBack_77 : decode cX6_giveBack 77 = .ok (.iaload, 1) := by decide +kernel
theorem dX6_giveBack_78 : decode cX6_giveBack 78 = .ok (.putfield 46, 3) := by decide +kernel
theorem dX6_giveBack_81 : decode cX6_giveBack 81 = .ok (.iinc 3 1, 3) := by decide +kernel
theorem dX6_giveBack_84 : decode cX6_giveBack 84 = .ok (.goto (-63), 3) := by decide +kernel
theorem dX6_giveBack_87 : decode cX6_giveBack 87 = .ok (.aload_n 1, 1) := by decide +kernel
theorem dX6_giveBack_88 : decode cX6_giveBack 88 = .ok (.getfield 49, 3) := by decide +kernel
theorem dX6_giveBack_91 : decode cX6_giveBack 91 = .ok (.aload_n 2, 1) := by decide +kernel
theorem dX6_giveBack_92 : decode cX6_giveBack 92 = .ok (.bipush 60, 2) := by decide +kernel
theorem dX6_giveBack_94 : decode cX6_giveBack 94 = .ok (.iaload, 1) := by decide +kernel
theorem dX6_giveBack_95 : decode cX6_giveBack 95 = .ok (.invokevirtual 73, 3) := by decide +kernel
theorem dX6_giveBack_98 : decode cX6_giveBack 98 = .ok (.aload_n 1, 1) := by decide +kernel
theorem dX6_giveBack_99 : decode cX6_giveBack 99 = .ok (.getfield 61, 3) := by decide +kernel
theorem dX6_giveBack_102 : decode cX6_giveBack 102 = .ok (.aload_n 2, 1) := by decide +kernel
theorem dX6_giveBack_103 : decode cX6_giveBack 103 = .ok (.bipush 61, 2) := by decide +kernel
theorem dX6_giveBack_105 : decode cX6_giveBack 105 = .ok (.iaload, 1) := by decide +kernel
theorem dX6_giveBack_106 : decode cX6_giveBack 106 = .ok (.invokevirtual 73, 3) := by decide +kernel
theorem dX6_giveBack_109 : decode cX6_giveBack 109 = .ok (.iconst 0, 1) := by decide +kernel
theorem dX6_giveBack_110 : decode cX6_giveBack 110 = .ok (.istore_n 3, 1) := by decide +kernel
theorem dX6_giveBack_111 : decode cX6_giveBack 111 = .ok (.iload_n 3, 1) := by decide +kernel
theorem dX6_giveBack_112 : decode cX6_giveBack 112 = .ok (.bipush 20, 2) := by decide +kernel
theorem dX6_giveBack_114 : decode cX6_giveBack 114 = .ok (.if_icmp .ge 24, 3) := by decide +kernel
theorem dX6_giveBack_117 : decode cX6_giveBack 117 = .ok (.aload_n 1, 1) := by decide +kernel
theorem dX6_giveBack_118 : decode cX6_giveBack 118 = .ok (.getfield 49, 3) := by decide +kernel
theorem dX6_giveBack_121 : decode cX6_giveBack 121 = .ok (.iload_n 3, 1) := by decide +kernel
theorem dX6_giveBack_122 : decode cX6_giveBack 122 = .ok (.iconst 1, 1) := by decide +kernel
theorem dX6_giveBack_123 : decode cX6_giveBack 123 = .ok (.aload_n 2, 1) := by decide +kernel
theorem dX6_giveBack_124 : decode cX6_giveBack 124 = .ok (.bipush 40, 2) := by decide +kernel
theorem dX6_giveBack_126 : decode cX6_giveBack 126 = .ok (.iload_n 3, 1) := by decide +kernel
theorem dX6_giveBack_127 : decode cX6_giveBack 127 = .ok (.iadd, 1) := by decide +kernel
theorem dX6_giveBack_128 : decode cX6_giveBack 128 = .ok (.iaload, 1) := by decide +kernel
theorem dX6_giveBack_129 : decode cX6_giveBack 129 = .ok (.invokevirtual 77, 3) := by decide +kernel
theorem dX6_giveBack_132 : decode cX6_giveBack 132 = .ok (.iinc 3 1, 3) := by decide +kernel
theorem dX6_giveBack_135 : decode cX6_giveBack 135 = .ok (.goto (-24), 3) := by decide +kernel
theorem dX6_giveBack_138 : decode cX6_giveBack 138 = .ok (.aload_n 1, 1) := by decide +kernel
theorem dX6_giveBack_139 : decode cX6_giveBack 139 = .ok (.aload_n 2, 1) := by decide +kernel
theorem dX6_giveBack_140 : decode cX6_giveBack 140 = .ok (.bipush 62, 2) := by decide +kernel
theorem dX6_giveBack_142 : decode cX6_giveBack 142 = .ok (.iaload, 1) := by decide +kernel
theorem dX6_giveBack_143 : decode cX6_giveBack 143 = .ok (.putfield 64, 3) := by decide +kernel
theorem dX6_giveBack_146 : decode cX6_giveBack 146 = .ok (.aload_n 1, 1) := by decide +kernel
theorem dX6_giveBack_147 : decode cX6_giveBack 147 = .ok (.aload_n 2, 1) := by decide +kernel
theorem dX6_giveBack_148 : decode cX6_giveBack 148 = .ok (.bipush 63, 2) := by decide +kernel
theorem dX6_giveBack_150 : decode cX6_giveBack 150 = .ok (.iaload, 1) := by decide +kernel
theorem dX6_giveBack_151 : decode cX6_giveBack 151 = .ok (.putfield 67, 3) := by decide +kernel
theorem dX6_giveBack_154 : decode cX6_giveBack 154 = .ok (.aload_n 1, 1) := by decide +kernel
theorem dX6_giveBack_155 : decode cX6_giveBack 155 = .ok (.aload_n 2, 1) := by decide +kernel
theorem dX6_giveBack_156 : decode cX6_giveBack 156 = .ok (.bipush 64, 2) := by decide +kernel
theorem dX6_giveBack_158 : decode cX6_giveBack 158 = .ok (.iaload, 1) := by decide +kernel
theorem dX6_giveBack_159 : decode cX6_giveBack 159 = .ok (.putfield 70, 3) := by decide +kernel
theorem dX6_giveBack_162 : decode cX6_giveBack 162 = .ok (.aload_n 0, 1) := by decide +kernel
theorem dX6_giveBack_163 : decode cX6_giveBack 163 = .ok (.aload_n 0, 1) := by decide +kernel
theorem dX6_giveBack_164 : decode cX6_giveBack 164 = .ok (.getfield 20, 3) := by decide +kernel
theorem dX6_giveBack_167 : decode cX6_giveBack 167 = .ok (.bipush 6, 2) := by decide +kernel
theorem dX6_giveBack_169 : decode cX6_giveBack 169 = .ok (.iadd, 1) := by decide +kernel
theorem dX6_giveBack_170 : decode cX6_giveBack 170 = .ok (.iconst 1, 1) := by decide +kernel
theorem dX6_giveBack_171 : decode cX6_giveBack 171 = .ok (.isub, 1) := by decide +kernel
theorem dX6_giveBack_172 : decode cX6_giveBack 172 = .ok (.bipush 6, 2) := by decide +kernel
theorem dX6_giveBack_174 : decode cX6_giveBack 174 = .ok (.irem, 1) := by decide +kernel
theorem dX6_giveBack_175 : decode cX6_giveBack 175 = .ok (.putfield 20, 3) := by decide +kernel
theorem dX6_giveBack_178 : decode cX6_giveBack 178 = .ok (.aload_n 0, 1) := by decide +kernel
theorem dX6_giveBack_179 : decode cX6_giveBack 179 = .ok (.dup, 1) := by decide +kernel
theorem dX6_giveBack_180 : decode cX6_giveBack 180 = .ok (.getfield 16, 3) := by decide +kernel
theorem dX6_giveBack_183 : decode cX6_giveBack 183 = .ok (.iconst 1, 1) := by decide +kernel
theorem dX6_giveBack_184 : decode cX6_giveBack 184 = .ok (.isub, 1) := by decide +kernel
theorem dX6_giveBack_185 : decode cX6_giveBack 185 = .ok (.putfield 16, 3) := by decide +kernel
theorem dX6_giveBack_188 : decode cX6_giveBack 188 = .ok (.iconst 1, 1) := by decide +kernel
theorem dX6_giveBack_189 : decode cX6_giveBack 189 = .ok (.ireturn, 1) := by decide +kernel
set_option maxHeartbeats 4000000 in
set_option maxRecDepth 100000 in
theorem c_X6_giveBack (l : Launch) (D : va_G) (tys : List (ClassId × FieldType)) (base : Nat) (G : iv_G) (h0 : Nat) (g_h0 : Nat → Int32) (r_h0 : Nat → Nat) (a_h0 : G h0 = some (6, g_h0, r_h0)) (h1 : Nat) (g_h1 : Nat → Int32) (r_h1 : Nat → Nat) (a_h1 : G h1 = some (5, g_h1, r_h1)) : Met l yX6_giveBack (Cond.code yX6_giveBack cX6_giveBack 5 (some .boolean) :: iv_W0) ({ frames := 2, cells := 0, slots := 0, locals := 45 }) (iv_Pc iv_sh D classes tys base G [.ref h0, .ref h1]) (iv_Qi iv_sh D classes tys base (fun v G' => iv_Md [1, 5, 6, 8, 13, 22] G G' ∧ iv_R 0 1 v)) 0 0 (iv_A base) := by
  refine iv_head (by decide) (Nat.le_of_ble_eq_true rfl) ?_
  intro p e s m args below meth c ls X hr hlocks hname hB hl
  have X := X
  have hx := X.1.1
  have hb := X.1.2.1
  have hM : iv_Md [1, 5, 6, 8, 13, 22] G G := iv_Md.rf
  have hl : lv_has ls 5 [(0, .ref h0), (1, .ref h1)] := hl
  refine lv_aload_n hx hb dX6_giveBack_0 rfl (lv_at hl 0 rfl) ?_
  refine iv_geti X ft_X6 hB a_h0 sh_6 2 (by decide) rfl k_fl_X6_16 dX6_giveBack_1 (fun x1 e_x1 i_x1 => ?_)
  refine lv_if_ne (tgt := 9) hx hb dX6_giveBack_4 (by decide) (fun c2 => ?_) (fun c2 => ?_)
  · skip
    refine lv_aload_n hx hb dX6_giveBack_9 rfl (lv_at hl 0 rfl) ?_
    refine iv_getr X ft_X6 hB a_h0 sh_6 0 (by decide) rfl k_fl_X6_13 dX6_giveBack_10 (fun b3 g_b3 r_b3 e_b3 a_b3 => ?_)
    refine lv_aload_n hx hb dX6_giveBack_13 rfl (lv_at hl 0 rfl) ?_
    refine iv_geti X ft_X6 hB a_h0 sh_6 1 (by decide) rfl k_fl_X6_20 dX6_giveBack_14 (fun x4 e_x4 i_x4 => ?_)
    refine iv_aald X hB a_b3 sh_41 (iv_in i_x4 (by decide)) dX6_giveBack_17 (fun b5 g_b5 r_b5 e_b5 a_b5 => ?_)
    refine lv_astore_n (lv' := [(2, .ref b5), (0, .ref h0), (1, .ref h1)]) hx hb dX6_giveBack_18 rfl hl (by decide) rfl (fun ls hl => ?_)
    refine lv_iconst (v := 0) hx hb dX6_giveBack_19 (by decide) ?_
    refine lv_istore_n (lv' := [(3, .int 0), (2, .ref b5), (0, .ref h0), (1, .ref h1)]) hx hb dX6_giveBack_20 rfl hl (by decide) rfl (fun ls hl => ?_)
    have L_21 : ∀ (n_21 : Nat) (G13 : iv_G) (hM : iv_Md [1, 5, 6, 8, 13, 22] G G13) (H : Heap) (locs : List Loc) (hB : iv_B iv_sh D classes tys base G13 s.heap H locs) (g7 : Nat → Int32) (r8 : Nat → Nat) (a_h0 : G13 h0 = some (6, g7, r8)) (g9 : Nat → Int32) (r10 : Nat → Nat) (a_h1 : G13 h1 = some (5, g9, r10)) (g11 : Nat → Int32) (r12 : Nat → Nat) (a_b5 : G13 b5 = some (27, g11, r12)) (x6 : Int32) (i_x6 : iv_R 0 10 x6) (hn : (11 - x6.toInt).toNat < n_21) (ls : Array Slot) (hl : lv_has ls 5 [(3, .int x6), (2, .ref b5), (0, .ref h0), (1, .ref h1)]), W p l e ({ frames := 2, cells := 0, slots := 0, locals := 45 } : Room) s m args below meth c H locs 0 0 (MQ below (iv_Qi iv_sh D classes tys base (fun v G' => iv_Md [1, 5, 6, 8, 13, 22] G G' ∧ iv_R 0 1 v)) args s 0 0 (iv_A base)) (F0 m 21 ls []) := by
      intro n_21
      induction n_21 with
      | zero => intro G13 hM H locs hB g7 r8 a_h0 g9 r10 a_h1 g11 r12 a_b5 x6 i_x6 hn ls hl; exact absurd hn (Nat.not_lt_zero _)
      | succ n_21 ih_21 =>
        intro G13 hM H locs hB g7 r8 a_h0 g9 r10 a_h1 g11 r12 a_b5 x6 i_x6 hn ls hl
        refine lv_iload_n hx hb dX6_giveBack_21 rfl (lv_at hl 0 rfl) ?_
        refine lv_bipush (v := 10) hx hb dX6_giveBack_22 (by decide) ?_
        refine lv_icmp_ge (tgt := 87) hx hb dX6_giveBack_24 (by decide) (fun c14 => ?_) (fun c14 => ?_)
        · skip
          have i14_x6 : iv_R 10 10 x6 := (i_x6.cutLo (n := 10) (iv_le_l c14 q_10))
          refine lv_aload_n hx hb dX6_giveBack_87 rfl (lv_at hl 3 rfl) ?_
          refine iv_getr X ft_X5 hB a_h1 sh_5 8 (by decide) rfl k_fl_X6_49 dX6_giveBack_88 (fun b16 g_b16 r_b16 e_b16 a_b16 => ?_)
          refine lv_aload_n hx hb dX6_giveBack_91 rfl (lv_at hl 1 rfl) ?_
          refine lv_bipush (v := 60) hx hb dX6_giveBack_92 (by decide) ?_
          refine iv_ald X hB a_b5 sh_27 (iv_in q_60 (by decide)) dX6_giveBack_94 (fun x17 e_x17 i_x17 => ?_)
          refine iv_cVv X k_good k_mf_X8_cut k_im_X8_cut k_sel_X8_cut k_ml_X6_73 ft_X8 hB a_b16 sh_8 (As := [.int x17]) (c_X8_cut_8 l D tys base G13 b16 g_b16 r_b16 a_b16 x17 i_x17) ⟨rfl, rfl⟩ ⟨Nat.le_of_ble_eq_true rfl, Nat.le_of_ble_eq_true rfl⟩ ⟨Nat.le_of_ble_eq_true rfl, Nat.le_of_ble_eq_true rfl⟩ rfl rfl hl.1 (Nat.le_of_ble_eq_true rfl) dX6_giveBack_95 (fun G9 H locs hq hB => ?_)
          have hm := hq
          obtain ⟨G18, hG9⟩ : ∃ g, g = G9 := ⟨_, rfl⟩
          rw [← hG9] at hm hB
          have hM := hM.stp hm (by decide)
          have a_h0 := hm.at a_h0 (by decide)
          have a_h1 := hm.at a_h1 (by decide)
          have a_b5 := hm.at a_b5 (by decide)
          refine lv_aload_n hx hb dX6_giveBack_98 rfl (lv_at hl 3 rfl) ?_
          refine iv_getr X ft_X5 hB a_h1 sh_5 9 (by decide) rfl k_fl_X6_61 dX6_giveBack_99 (fun b19 g_b19 r_b19 e_b19 a_b19 => ?_)
          refine lv_aload_n hx hb dX6_giveBack_102 rfl (lv_at hl 1 rfl) ?_
          refine lv_bipush (v := 61) hx hb dX6_giveBack_103 (by decide) ?_
          refine iv_ald X hB a_b5 sh_27 (iv_in q_61 (by decide)) dX6_giveBack_105 (fun x20 e_x20 i_x20 => ?_)
          refine iv_cVv X k_good k_mf_X8_cut k_im_X8_cut k_sel_X8_cut k_ml_X6_73 ft_X8 hB a_b19 sh_13 (As := [.int x20]) (c_X8_cut_13 l D tys base G18 b19 g_b19 r_b19 a_b19 x20 i_x20) ⟨rfl, rfl⟩ ⟨Nat.le_of_ble_eq_true rfl, Nat.le_of_ble_eq_true rfl⟩ ⟨Nat.le_of_ble_eq_true rfl, Nat.le_of_ble_eq_true rfl⟩ rfl rfl hl.1 (Nat.le_of_ble_eq_true rfl) dX6_giveBack_106 (fun G9 H locs hq hB => ?_)
          have hm := hq
          obtain ⟨G21, hG9⟩ : ∃ g, g = G9 := ⟨_, rfl⟩
          rw [← hG9] at hm hB
          have hM := hM.stp hm (by decide)
          have a_h0 := hm.at a_h0 (by decide)
          have a_h1 := hm.at a_h1 (by decide)
          have a_b5 := hm.at a_b5 (by decide)
          refine lv_iconst (v := 0) hx hb dX6_giveBack_109 (by decide) ?_
          refine lv_istore_n (lv' := [(3, .int 0), (2, .ref b5), (0, .ref h0), (1, .ref h1)]) hx hb dX6_giveBack_110 rfl hl (by decide) rfl (fun ls hl => ?_)
          have L_111 : ∀ (n_111 : Nat) (G29 : iv_G) (hM : iv_Md [1, 5, 6, 8, 13, 22] G G29) (H : Heap) (locs : List Loc) (hB : iv_B iv_sh D classes tys base G29 s.heap H locs) (g23 : Nat → Int32) (r24 : Nat → Nat) (a_h0 : G29 h0 = some (6, g23, r24)) (g25 : Nat → Int32) (r26 : Nat → Nat) (a_h1 : G29 h1 = some (5, g25, r26)) (g27 : Nat → Int32) (r28 : Nat → Nat) (a_b5 : G29 b5 = some (27, g27, r28)) (x22 : Int32) (i_x22 : iv_R 0 20 x22) (hn : (21 - x22.toInt).toNat < n_111) (ls : Array Slot) (hl : lv_has ls 5 [(3, .int x22), (2, .ref b5), (0, .ref h0), (1, .ref h1)]), W p l e ({ frames := 2, cells := 0, slots := 0, locals := 45 } : Room) s m args below meth c H locs 0 0 (MQ below (iv_Qi iv_sh D classes tys base (fun v G' => iv_Md [1, 5, 6, 8, 13, 22] G G' ∧ iv_R 0 1 v)) args s 0 0 (iv_A base)) (F0 m 111 ls []) := by
            intro n_111
            induction n_111 with
            | zero => intro G29 hM H locs hB g23 r24 a_h0 g25 r26 a_h1 g27 r28 a_b5 x22 i_x22 hn ls hl; exact absurd hn (Nat.not_lt_zero _)
            | succ n_111 ih_111 =>
              intro G29 hM H locs hB g23 r24 a_h0 g25 r26 a_h1 g27 r28 a_b5 x22 i_x22 hn ls hl
              refine lv_iload_n hx hb dX6_giveBack_111 rfl (lv_at hl 0 rfl) ?_
              refine lv_bipush (v := 20) hx hb dX6_giveBack_112 (by decide) ?_
              refine lv_icmp_ge (tgt := 138) hx hb dX6_giveBack_114 (by decide) (fun c30 => ?_) (fun c30 => ?_)
              · skip
                have i30_x22 : iv_R 20 20 x22 := (i_x22.cutLo (n := 20) (iv_le_l c30 q_20))
                refine lv_aload_n hx hb dX6_giveBack_138 rfl (lv_at hl 3 rfl) ?_
                refine lv_aload_n hx hb dX6_giveBack_139 rfl (lv_at hl 1 rfl) ?_
                refine lv_bipush (v := 62) hx hb dX6_giveBack_140 (by decide) ?_
                refine iv_ald X hB a_b5 sh_27 (iv_in q_62 (by decide)) dX6_giveBack_142 (fun x32 e_x32 i_x32 => ?_)
                refine iv_puti X ft_X5 hB a_h1 sh_5 6 (by decide) rfl rfl k_fl_X6_64 rfl i_x32 rfl rfl dX6_giveBack_143 (fun H locs hB => ?_)
                have hm := iv_Md.put (x := x32) a_h1 (j := 6) (by decide) (by decide)
                have h9 := iv_up_eq (G := G29) (a := h1) (k := (5, upd g25 6 x32, r26))
                generalize iv_up G29 h1 _ = G33 at hB hm h9
                have hM := hM.stp hm (by decide)
                generalize hgn_g34 : upd g25 _ _ = g34 at h9
                have a_h0 := hm.at a_h0 (by decide)
                have a_b5 := hm.at a_b5 (by decide)
                have a_h1 := h9
                have e9_g34 : x32 = g34 6 := by rw [← hgn_g34]; simp [upd]
                refine lv_aload_n hx hb dX6_giveBack_146 rfl (lv_at hl 3 rfl) ?_
                refine lv_aload_n hx hb dX6_giveBack_147 rfl (lv_at hl 1 rfl) ?_
                refine lv_bipush (v := 63) hx hb dX6_giveBack_148 (by decide) ?_
                refine iv_ald X hB a_b5 sh_27 (iv_in q_63 (by decide)) dX6_giveBack_150 (fun x35 e_x35 i_x35 => ?_)
                refine iv_puti X ft_X5 hB a_h1 sh_5 4 (by decide) rfl rfl k_fl_X6_67 rfl i_x35 rfl rfl dX6_giveBack_151 (fun H locs hB => ?_)
                have hm := iv_Md.put (x := x35) a_h1 (j := 4) (by decide) (by decide)
                have h9 := iv_up_eq (G := G33) (a := h1) (k := (5, upd g34 4 x35, r26))
                generalize iv_up G33 h1 _ = G36 at hB hm h9
                have hM := hM.stp hm (by decide)
                generalize hgn_g37 : upd g34 _ _ = g37 at h9
                have a_h0 := hm.at a_h0 (by decide)
                have a_b5 := hm.at a_b5 (by decide)
                have a_h1 := h9
                have e_x32_g37 : x32 = g37 6 := by rw [← hgn_g37]; exact e9_g34
                have e9_g37 : x35 = g37 4 := by rw [← hgn_g37]; simp [upd]
                refine lv_aload_n hx hb dX6_giveBack_154 rfl (lv_at hl 3 rfl) ?_
                refine lv_aload_n hx hb dX6_giveBack_155 rfl (lv_at hl 1 rfl) ?_
                refine lv_bipush (v := 64) hx hb dX6_giveBack_156 (by decide) ?_
                refine iv_ald X hB a_b5 sh_27 (iv_in q_64 (by decide)) dX6_giveBack_158 (fun x38 e_x38 i_x38 => ?_)
                refine iv_puti X ft_X5 hB a_h1 sh_5 7 (by decide) rfl rfl k_fl_X6_70 rfl i_x38 rfl rfl dX6_giveBack_159 (fun H locs hB => ?_)
                have hm := iv_Md.put (x := x38) a_h1 (j := 7) (by decide) (by decide)
                have h9 := iv_up_eq (G := G36) (a := h1) (k := (5, upd g37 7 x38, r26))
                generalize iv_up G36 h1 _ = G39 at hB hm h9
                have hM := hM.stp hm (by decide)
                generalize hgn_g40 : upd g37 _ _ = g40 at h9
                have a_h0 := hm.at a_h0 (by decide)
                have a_b5 := hm.at a_b5 (by decide)
                have a_h1 := h9
                have e_x32_g40 : x32 = g40 6 := by rw [← hgn_g40]; exact e_x32_g37
                have e_x35_g40 : x35 = g40 4 := by rw [← hgn_g40]; exact e9_g37
                have e9_g40 : x38 = g40 7 := by rw [← hgn_g40]; simp [upd]
                refine lv_aload_n hx hb dX6_giveBack_162 rfl (lv_at hl 2 rfl) ?_
                refine lv_aload_n hx hb dX6_giveBack_163 rfl (lv_at hl 2 rfl) ?_
                refine iv_geti X ft_X6 hB a_h0 sh_6 1 (by decide) rfl k_fl_X6_20 dX6_giveBack_164 (fun x41 e_x41 i_x41 => ?_)
                refine lv_bipush (v := 6) hx hb dX6_giveBack_167 (by decide) ?_
                refine iv_iadd hx hb i_x41 q_6 (lo := 6) (hi := 11) (by decide) dX6_giveBack_169 (fun x42 e_x42 i_x42 => ?_)
                refine lv_iconst (v := 1) hx hb dX6_giveBack_170 (by decide) ?_
                refine iv_isub hx hb i_x42 q_1 (lo := 5) (hi := 10) (by decide) dX6_giveBack_171 (fun x43 e_x43 i_x43 => ?_)
                refine lv_bipush (v := 6) hx hb dX6_giveBack_172 (by decide) ?_
                refine iv_iremp hx hb i_x43 q_6 (lo := 0) (hi := 5) (by decide) dX6_giveBack_174 (fun x44 e_x44 i_x44 => ?_)
                refine iv_puti X ft_X6 hB a_h0 sh_6 1 (by decide) rfl rfl k_fl_X6_20 rfl i_x44 rfl rfl dX6_giveBack_175 (fun H locs hB => ?_)
                have hm := iv_Md.put (x := x44) a_h0 (j := 1) (by decide) (by decide)
                have h9 := iv_up_eq (G := G39) (a := h0) (k := (6, upd g23 1 x44, r24))
                generalize iv_up G39 h0 _ = G45 at hB hm h9
                have hM := hM.stp hm (by decide)
                generalize hgn_g46 : upd g23 _ _ = g46 at h9
                have a_b5 := hm.at a_b5 (by decide)
                have a_h1 := hm.at a_h1 (by decide)
                have a_h0 := h9
                have e9_g46 : x44 = g46 1 := by rw [← hgn_g46]; simp [upd]
                refine lv_aload_n hx hb dX6_giveBack_178 rfl (lv_at hl 2 rfl) ?_
                refine lv_dup hx hb dX6_giveBack_179 rfl ?_
                refine iv_geti X ft_X6 hB a_h0 sh_6 2 (by decide) rfl k_fl_X6_16 dX6_giveBack_180 (fun x47 e_x47 i_x47 => ?_)
                refine lv_iconst (v := 1) hx hb dX6_giveBack_183 (by decide) ?_
                refine lv_isub hx hb dX6_giveBack_184 ?_
                refine lv_topi (fun x48 e_x48 => ?_)
                have i_x48 := iv_R.all x48
                refine iv_puti X ft_X6 hB a_h0 sh_6 2 (by decide) rfl rfl k_fl_X6_16 rfl i_x48 rfl rfl dX6_giveBack_185 (fun H locs hB => ?_)
                have hm := iv_Md.put (x := x48) a_h0 (j := 2) (by decide) (by decide)
                have h9 := iv_up_eq (G := G45) (a := h0) (k := (6, upd g46 2 x48, r24))
                generalize iv_up G45 h0 _ = G49 at hB hm h9
                have hM := hM.stp hm (by decide)
                generalize hgn_g50 : upd g46 _ _ = g50 at h9
                have a_b5 := hm.at a_b5 (by decide)
                have a_h1 := hm.at a_h1 (by decide)
                have a_h0 := h9
                have e_x44_g50 : x44 = g50 1 := by rw [← hgn_g50]; exact e9_g46
                have e9_g50 : x48 = g50 2 := by rw [← hgn_g50]; simp [upd]
                refine lv_iconst (v := 1) hx hb dX6_giveBack_188 (by decide) ?_
                exact iv_zret X hr hlocks hB (q_1.wk (by decide)) ⟨hM, (q_1.wk (by decide))⟩ dX6_giveBack_189
              · skip
                have i50_x22 : iv_R 0 19 x22 := (i_x22.cutHi (n := 19) (iv_lt_r (iv_nle c30) q_20 (by decide)))
                refine lv_aload_n hx hb dX6_giveBack_117 rfl (lv_at hl 3 rfl) ?_
                refine iv_getr X ft_X5 hB a_h1 sh_5 8 (by decide) rfl k_fl_X6_49 dX6_giveBack_118 (fun b52 g_b52 r_b52 e_b52 a_b52 => ?_)
                refine lv_iload_n hx hb dX6_giveBack_121 rfl (lv_at hl 0 rfl) ?_
                refine lv_iconst (v := 1) hx hb dX6_giveBack_122 (by decide) ?_
                refine lv_aload_n hx hb dX6_giveBack_123 rfl (lv_at hl 1 rfl) ?_
                refine lv_bipush (v := 40) hx hb dX6_giveBack_124 (by decide) ?_
                refine lv_iload_n hx hb dX6_giveBack_126 rfl (lv_at hl 0 rfl) ?_
                refine iv_iadd hx hb q_40 i50_x22 (lo := 40) (hi := 59) (by decide) dX6_giveBack_127 (fun x53 e_x53 i_x53 => ?_)
                refine iv_ald X hB a_b5 sh_27 (iv_in i_x53 (by decide)) dX6_giveBack_128 (fun x54 e_x54 i_x54 => ?_)
                refine iv_cVv X k_good k_mf_X8_change k_im_X8_change k_sel_X8_change k_ml_X6_77 ft_X8 hB a_b52 sh_8 (As := [.int x22, .int 1, .int x54]) (c_X8_change_8 l D tys base G29 b52 g_b52 r_b52 a_b52 x22 i50_x22 1 q_1 x54 i_x54) ⟨rfl, rfl⟩ ⟨Nat.le_of_ble_eq_true rfl, Nat.le_of_ble_eq_true rfl⟩ ⟨Nat.le_of_ble_eq_true rfl, Nat.le_of_ble_eq_true rfl⟩ rfl rfl hl.1 (Nat.le_of_ble_eq_true rfl) dX6_giveBack_129 (fun G9 H locs hq hB => ?_)
                have hm := hq
                obtain ⟨G55, hG9⟩ : ∃ g, g = G9 := ⟨_, rfl⟩
                rw [← hG9] at hm hB
                have hM := hM.stp hm (by decide)
                have a_h0 := hm.at a_h0 (by decide)
                have a_h1 := hm.at a_h1 (by decide)
                have a_b5 := hm.at a_b5 (by decide)
                refine iv_iinc hx hb i50_x22 (lo := 1) (hi := 20) (by decide) dX6_giveBack_132 hl (k := 0) rfl (by decide) (fun x56 ls e_x56 i_x56 hl => ?_)
                have hl : lv_has ls 5 [(3, .int x56), (2, .ref b5), (0, .ref h0), (1, .ref h1)] := hl
                refine lv_goto (tgt := 111) hx hb dX6_giveBack_135 (by decide) ?_
                exact ih_111 G55 hM _ _ hB g23 r24 a_h0 g25 r26 a_h1 g27 r28 a_b5 x56 (i_x56.wk (by decide)) (iv_mup (c := 1) i_x22 (by decide) (by decide) (by omega) hn) _ (lv_sub hl [0, 1, 2, 3] rfl)
          exact L_111 _ G21 hM _ _ hB g7 r8 a_h0 g9 r10 a_h1 g11 r12 a_b5 0 (q_0.wk (by decide)) (Nat.lt_succ_self _) _ (lv_sub hl [0, 1, 2, 3] rfl)
        · skip
          have i56_x6 : iv_R 0 9 x6 := (i_x6.cutHi (n := 9) (iv_lt_r (iv_nle c14) q_10 (by decide)))
          refine lv_aload_n hx hb dX6_giveBack_27 rfl (lv_at hl 3 rfl) ?_
          refine iv_getr X ft_X5 hB a_h1 sh_5 0 (by decide) rfl k_fl_X6_29 dX6_giveBack_28 (fun b58 g_b58 r_b58 e_b58 a_b58 => ?_)
          refine lv_iload_n hx hb dX6_giveBack_31 rfl (lv_at hl 0 rfl) ?_
          refine iv_aald X hB a_b58 sh_40 (iv_in i56_x6 (by decide)) dX6_giveBack_32 (fun b59 g_b59 r_b59 e_b59 a_b59 => ?_)
          refine lv_astore (lv' := [(4, .ref b59), (3, .int x6), (2, .ref b5), (0, .ref h0), (1, .ref h1)]) hx hb dX6_giveBack_33 hl (by decide) rfl (fun ls hl => ?_)
          refine lv_aload hx hb dX6_giveBack_35 (lv_at hl 0 rfl) ?_
          refine lv_aload_n hx hb dX6_giveBack_37 rfl (lv_at hl 2 rfl) ?_
          refine lv_iload_n hx hb dX6_giveBack_38 rfl (lv_at hl 1 rfl) ?_
          refine lv_iconst (v := 4) hx hb dX6_giveBack_39 (by decide) ?_
          refine iv_imul hx hb i56_x6 q_4 (lo := 0) (hi := 36) (by decide) dX6_giveBack_40 (fun x60 e_x60 i_x60 => ?_)
          refine iv_ald X hB a_b5 sh_27 (iv_in i_x60 (by decide)) dX6_giveBack_41 (fun x61 e_x61 i_x61 => ?_)
          refine iv_puti X ft_X1 hB a_b59 sh_1 3 (by decide) rfl rfl k_fl_X6_35 rfl i_x61 rfl rfl dX6_giveBack_42 (fun H locs hB => ?_)
          have hm := iv_Md.put (x := x61) a_b59 (j := 3) (by decide) (by decide)
          have h9 := iv_up_eq (G := G13) (a := b59) (k := (1, upd g_b59 3 x61, r_b59))
          generalize iv_up G13 b59 _ = G62 at hB hm h9
          have hM := hM.stp hm (by decide)
          generalize hgn_g63 : upd g_b59 _ _ = g63 at h9
          have a_h0 := hm.at a_h0 (by decide)
          have a_h1 := hm.at a_h1 (by decide)
          have a_b5 := hm.at a_b5 (by decide)
          have a_b59 := h9
          have e9_g63 : x61 = g63 3 := by rw [← hgn_g63]; simp [upd]
          refine lv_aload hx hb dX6_giveBack_45 (lv_at hl 0 rfl) ?_
          refine lv_aload_n hx hb dX6_giveBack_47 rfl (lv_at hl 2 rfl) ?_
          refine lv_iload_n hx hb dX6_giveBack_48 rfl (lv_at hl 1 rfl) ?_
          refine lv_iconst (v := 4) hx hb dX6_giveBack_49 (by decide) ?_
          refine iv_imul hx hb i56_x6 q_4 (lo := 0) (hi := 36) (by decide) dX6_giveBack_50 (fun x64 e_x64 i_x64 => ?_)
          refine lv_iconst (v := 1) hx hb dX6_giveBack_51 (by decide) ?_
          refine iv_iadd hx hb i_x64 q_1 (lo := 1) (hi := 37) (by decide) dX6_giveBack_52 (fun x65 e_x65 i_x65 => ?_)
          refine iv_ald X hB a_b5 sh_27 (iv_in i_x65 (by decide)) dX6_giveBack_53 (fun x66 e_x66 i_x66 => ?_)
          refine iv_puti X ft_X1 hB a_b59 sh_1 5 (by decide) rfl rfl k_fl_X6_40 rfl i_x66 rfl rfl dX6_giveBack_54 (fun H locs hB => ?_)
          have hm := iv_Md.put (x := x66) a_b59 (j := 5) (by decide) (by decide)
          have h9 := iv_up_eq (G := G62) (a := b59) (k := (1, upd g63 5 x66, r_b59))
          generalize iv_up G62 b59 _ = G67 at hB hm h9
          have hM := hM.stp hm (by decide)
          generalize hgn_g68 : upd g63 _ _ = g68 at h9
          have a_h0 := hm.at a_h0 (by decide)
          have a_h1 := hm.at a_h1 (by decide)
          have a_b5 := hm.at a_b5 (by decide)
          have a_b59 := h9
          have e_x61_g68 : x61 = g68 3 := by rw [← hgn_g68]; exact e9_g63
          have e9_g68 : x66 = g68 5 := by rw [← hgn_g68]; simp [upd]
          refine lv_aload hx hb dX6_giveBack_57 (lv_at hl 0 rfl) ?_
          refine lv_aload_n hx hb dX6_giveBack_59 rfl (lv_at hl 2 rfl) ?_
          refine lv_iload_n hx hb dX6_giveBack_60 rfl (lv_at hl 1 rfl) ?_
          refine lv_iconst (v := 4) hx hb dX6_giveBack_61 (by decide) ?_
          refine iv_imul hx hb i56_x6 q_4 (lo := 0) (hi := 36) (by decide) dX6_giveBack_62 (fun x69 e_x69 i_x69 => ?_)
          refine lv_iconst (v := 2) hx hb dX6_giveBack_63 (by decide) ?_
          refine iv_iadd hx hb i_x69 q_2 (lo := 2) (hi := 38) (by decide) dX6_giveBack_64 (fun x70 e_x70 i_x70 => ?_)
          refine iv_ald X hB a_b5 sh_27 (iv_in i_x70 (by decide)) dX6_giveBack_65 (fun x71 e_x71 i_x71 => ?_)
          refine iv_puti X ft_X1 hB a_b59 sh_1 6 (by decide) rfl rfl k_fl_X6_43 rfl i_x71 rfl rfl dX6_giveBack_66 (fun H locs hB => ?_)
          have hm := iv_Md.put (x := x71) a_b59 (j := 6) (by decide) (by decide)
          have h9 := iv_up_eq (G := G67) (a := b59) (k := (1, upd g68 6 x71, r_b59))
          generalize iv_up G67 b59 _ = G72 at hB hm h9
          have hM := hM.stp hm (by decide)
          generalize hgn_g73 : upd g68 _ _ = g73 at h9
          have a_h0 := hm.at a_h0 (by decide)
          have a_h1 := hm.at a_h1 (by decide)
          have a_b5 := hm.at a_b5 (by decide)
          have a_b59 := h9
          have e_x61_g73 : x61 = g73 3 := by rw [← hgn_g73]; exact e_x61_g68
          have e_x66_g73 : x66 = g73 5 := by rw [← hgn_g73]; exact e9_g68
          have e9_g73 : x71 = g73 6 := by rw [← hgn_g73]; simp [upd]
          refine lv_aload hx hb dX6_giveBack_69 (lv_at hl 0 rfl) ?_
          refine lv_aload_n hx hb dX6_giveBack_71 rfl (lv_at hl 2 rfl) ?_
          refine lv_iload_n hx hb dX6_giveBack_72 rfl (lv_at hl 1 rfl) ?_
          refine lv_iconst (v := 4) hx hb dX6_giveBack_73 (by decide) ?_
          refine iv_imul hx hb i56_x6 q_4 (lo := 0) (hi := 36) (by decide) dX6_giveBack_74 (fun x74 e_x74 i_x74 => ?_)
          refine lv_iconst (v := 3) hx hb dX6_giveBack_75 (by decide) ?_
          refine iv_iadd hx hb i_x74 q_3 (lo := 3) (hi := 39) (by decide) dX6_giveBack_76 (fun x75 e_x75 i_x75 => ?_)
          refine iv_ald X hB a_b5 sh_27 (iv_in i_x75 (by decide)) dX6_giveBack_77 (fun x76 e_x76 i_x76 => ?_)
          refine iv_puti X ft_X1 hB a_b59 sh_1 7 (by decide) rfl rfl k_fl_X6_46 rfl i_x76 rfl rfl dX6_giveBack_78 (fun H locs hB => ?_)
          have hm := iv_Md.put (x := x76) a_b59 (j := 7) (by decide) (by decide)
          have h9 := iv_up_eq (G := G72) (a := b59) (k := (1, upd g73 7 x76, r_b59))
          generalize iv_up G72 b59 _ = G77 at hB hm h9
          have hM := hM.stp hm (by decide)
          generalize hgn_g78 : upd g73 _ _ = g78 at h9
          have a_h0 := hm.at a_h0 (by decide)
          have a_h1 := hm.at a_h1 (by decide)
          have a_b5 := hm.at a_b5 (by decide)
          have a_b59 := h9
          have e_x61_g78 : x61 = g78 3 := by rw [← hgn_g78]; exact e_x61_g73
          have e_x66_g78 : x66 = g78 5 := by rw [← hgn_g78]; exact e_x66_g73
          have e_x71_g78 : x71 = g78 6 := by rw [← hgn_g78]; exact e9_g73
          have e9_g78 : x76 = g78 7 := by rw [← hgn_g78]; simp [upd]
          refine iv_iinc hx hb i56_x6 (lo := 1) (hi := 10) (by decide) dX6_giveBack_81 hl (k := 1) rfl (by decide) (fun x79 ls e_x79 i_x79 hl => ?_)
          have hl : lv_has ls 5 [(3, .int x79), (4, .ref b59), (2, .ref b5), (0, .ref h0), (1, .ref h1)] := hl
          refine lv_goto (tgt := 21) hx hb dX6_giveBack_84 (by decide) ?_
          exact ih_21 G77 hM _ _ hB g7 r8 a_h0 g9 r10 a_h1 g11 r12 a_b5 x79 (i_x79.wk (by decide)) (iv_mup (c := 1) i_x6 (by decide) (by decide) (by omega) hn) _ (lv_sub hl [0, 2, 3, 4] rfl)
    exact L_21 _ G hM _ _ hB g_h0 r_h0 a_h0 g_h1 r_h1 a_h1 g_b5 r_b5 a_b5 0 (q_0.wk (by decide)) (Nat.lt_succ_self _) _ (lv_sub hl [0, 1, 2, 3] rfl)
  · skip
    have i79_x1 : iv_R 0 0 x1 := ((i_x1.cutLo (n := 0) (iv_eq_r c2 q_0).1).cutHi (n := 0) (iv_eq_r c2 q_0).2)
    refine lv_iconst (v := 0) hx hb dX6_giveBack_7 (by decide) ?_
    exact iv_zret X hr hlocks hB (q_0.wk (by decide)) ⟨hM, (q_0.wk (by decide))⟩ dX6_giveBack_8
theorem dX11_undo_0 : decode cX11_undo 0 = .ok (.aload_n 0, 1) := by decide +kernel
theorem dX11_undo_1 : decode cX11_undo 1 = .ok (.getfield 22, 3) := by decide +kernel
theorem dX11_undo_4 : decode cX11_undo 4 = .ok (.aload_n 0, 1) := by decide +kernel
theorem dX11_undo_5 : decode cX11_undo 5 = .ok (.getfield 12, 3) := by decide +kernel
theorem dX11_undo_8 : decode cX11_undo 8 = .ok (.invokevirtual 365, 3) := by decide +kernel
theorem dX11_undo_11 : decode cX11_undo 11 = .ok (.ireturn, 1) := by decide +kernel
set_option maxHeartbeats 4000000 in
set_option maxRecDepth 100000 in
theorem c_X11_undo (l : Launch) (D : va_G) (tys : List (ClassId × FieldType)) (base : Nat) (G : iv_G) (h0 : Nat) (g_h0 : Nat → Int32) (r_h0 : Nat → Nat) (a_h0 : G h0 = some (11, g_h0, r_h0)) : Met l yX11_undo (Cond.code yX11_undo cX11_undo 1 (some .boolean) :: iv_W0) ({ frames := 3, cells := 0, slots := 0, locals := 69 }) (iv_Pc iv_sh D classes tys base G [.ref h0]) (iv_Qi iv_sh D classes tys base (fun v G' => iv_Md [1, 5, 6, 8, 13, 22] G G' ∧ iv_R 0 1 v)) 0 0 (iv_A base) := by
  refine iv_head (by decide) (Nat.le_of_ble_eq_true rfl) ?_
  intro p e s m args below meth c ls X hr hlocks hname hB hl
  have X := X
  have hx := X.1.1
  have hb := X.1.2.1
  have hM : iv_Md [1, 5, 6, 8, 13, 22] G G := iv_Md.rf
  have hl : lv_has ls 1 [(0, .ref h0)] := hl
  refine lv_aload_n hx hb dX11_undo_0 rfl (lv_at hl 0 rfl) ?_
  refine iv_getr X ft_X11 hB a_h0 sh_11 3 (by decide) rfl k_fl_X11_22 dX11_undo_1 (fun b1 g_b1 r_b1 e_b1 a_b1 => ?_)
  refine lv_aload_n hx hb dX11_undo_4 rfl (lv_at hl 0 rfl) ?_
  refine iv_getr X ft_X11 hB a_h0 sh_11 0 (by decide) rfl k_fl_X11_12 dX11_undo_5 (fun b2 g_b2 r_b2 e_b2 a_b2 => ?_)
  refine iv_cVi X k_good k_mf_X6_giveBack k_im_X6_giveBack k_sel_X6_giveBack k_ml_X11_365 ft_X6 hB a_b1 sh_6 (As := [.ref b2]) (c_X6_giveBack l D tys base G b1 g_b1 r_b1 a_b1 b2 g_b2 r_b2 a_b2) ⟨rfl, rfl⟩ ⟨Nat.le_of_ble_eq_true rfl, Nat.le_of_ble_eq_true rfl⟩ ⟨Nat.le_of_ble_eq_true rfl, Nat.le_of_ble_eq_true rfl⟩ rfl rfl hl.1 (Nat.le_of_ble_eq_true rfl) dX11_undo_8 (fun x3 G9 H locs hq hB => ?_)
  obtain ⟨hm, i_x3⟩ := hq
  obtain ⟨G4, hG9⟩ : ∃ g, g = G9 := ⟨_, rfl⟩
  rw [← hG9] at hm hB
  have hM := hM.stp hm (by decide)
  have a_h0 := hm.at a_h0 (by decide)
  exact iv_zret X hr hlocks hB i_x3 ⟨hM, i_x3⟩ dX11_undo_11
theorem dX1_begin_0 : decode cX1_begin 0 = .ok (.aload_n 0, 1) := by decide +kernel
theorem dX1_begin_1 : decode cX1_begin 1 = .ok (.iload_n 1, 1) := by decide +kernel
theorem dX1_begin_2 : decode cX1_begin 2 = .ok (.putfield 9, 3) := by decide +kernel
theorem dX1_begin_5 : decode cX1_begin 5 = .ok (.aload_n 0, 1) := by decide +kernel
theorem dX1_begin_6 : decode cX1_begin 6 = .ok (.iload_n 2, 1) := by decide +kernel
theorem dX1_begin_7 : decode cX1_begin 7 = .ok (.putfield 15, 3) := by decide +kernel
theorem dX1_begin_10 : decode cX1_begin 10 = .ok (.aload_n 0, 1) := by decide +kernel
theorem dX1_begin_11 : decode cX1_begin 11 = .ok (.iload_n 3, 1) := by decide +kernel
theorem dX1_begin_12 : decode cX1_begin 12 = .ok (.putfield 18, 3) := by decide +kernel
theorem dX1_begin_15 : decode cX1_begin 15 = .ok (.aload_n 0, 1) := by decide +kernel
theorem dX1_begin_16 : decode cX1_begin 16 = .ok (.iload 4, 2) := by decide +kernel
theorem dX1_begin_18 : decode cX1_begin 18 = .ok (.putfield 21, 3) := by decide +kernel
theorem dX1_begin_21 : decode cX1_begin 21 = .ok (.aload_n 0, 1) := by decide +kernel
theorem dX1_begin_22 : decode cX1_begin 22 = .ok (.iconst 0, 1) := by decide +kernel
theorem dX1_begin_23 : decode cX1_begin 23 = .ok (.putfield 24, 3) := by decide +kernel
theorem dX1_begin_26 : decode cX1_begin 26 = .ok (.aload_n 0, 1) := by decide +kernel
theorem dX1_begin_27 : decode cX1_begin 27 = .ok (.iconst 0, 1) := by decide +kernel
theorem dX1_begin_28 : decode cX1_begin 28 = .ok (.putfield 27, 3) := by decide +kernel
theorem dX1_begin_31 : decode cX1_begin 31 = .ok (.aload_n 0, 1) := by decide +kernel
theorem dX1_begin_32 : decode cX1_begin 32 = .ok (.iconst 0, 1) := by decide +kernel
theorem dX1_begin_33 : decode cX1_begin 33 = .ok (.putfield 30, 3) := by decide +kernel
theorem dX1_begin_36 : decode cX1_begin 36 = .ok (.aload_n 0, 1) := by decide +kernel
theorem dX1_begin_37 : decode cX1_begin 37 = .ok (.iconst 0, 1) := by decide +kernel
theorem dX1_begin_38 : decode cX1_begin 38 = .ok (.putfield 33, 3) := by decide +kernel
theorem dX1_begin_41 : decode cX1_begin 41 = .ok (.return_, 1) := by decide +kernel
set_option maxHeartbeats 4000000 in
set_option maxRecDepth 100000 in
theorem c_X1_begin (l : Launch) (D : va_G) (tys : List (ClassId × FieldType)) (base : Nat) (G : iv_G) (h0 : Nat) (g_h0 : Nat → Int32) (r_h0 : Nat → Nat) (a_h0 : G h0 = some (1, g_h0, r_h0)) (x_0 : Int32) (i_x_0 : iv_R (-2147483648) 2147483647 x_0) (x_1 : Int32) (i_x_1 : iv_R (-2147483648) 2147483647 x_1) (x_2 : Int32) (i_x_2 : iv_R (-2147483648) 2147483647 x_2) (x_3 : Int32) (i_x_3 : iv_R (-2147483648) 2147483647 x_3) : Met l yX1_begin (Cond.code yX1_begin cX1_begin 5 none :: iv_W0) ({ frames := 0, cells := 0, slots := 0, locals := 0 }) (iv_Pc iv_sh D classes tys base G [.ref h0, .int x_0, .int x_1, .int x_2, .int x_3]) (iv_Qv iv_sh D classes tys base (fun G' => iv_Md [1] G G')) 0 0 (iv_A base) := by
  refine iv_head (by decide) (Nat.le_of_ble_eq_true rfl) ?_
  intro p e s m args below meth c ls X hr hlocks hname hB hl
  have X := X
  have hx := X.1.1
  have hb := X.1.2.1
  have hM : iv_Md [1] G G := iv_Md.rf
  have hl : lv_has ls 5 [(0, .ref h0), (1, .int x_0), (2, .int x_1), (3, .int x_2), (4, .int x_3)] := hl
  refine lv_aload_n hx hb dX1_begin_0 rfl (lv_at hl 0 rfl) ?_
  refine lv_iload_n hx hb dX1_begin_1 rfl (lv_at hl 1 rfl) ?_
  refine iv_puti X ft_X1 hB a_h0 sh_1 0 (by decide) rfl rfl k_fl_X1_9 rfl i_x_0 rfl rfl dX1_begin_2 (fun H locs hB => ?_)
  have hm := iv_Md.put (x := x_0) a_h0 (j := 0) (by decide) (by decide)
  have h9 := iv_up_eq (G := G) (a := h0) (k := (1, upd g_h0 0 x_0, r_h0))
  generalize iv_up G h0 _ = G1 at hB hm h9
  have hM := hM.stp hm (by decide)
  generalize hgn_g2 : upd g_h0 _ _ = g2 at h9
  have a_h0 := h9
  have e9_g2 : x_0 = g2 0 := by rw [← hgn_g2]; simp [upd]
  refine lv_aload_n hx hb dX1_begin_5 rfl (lv_at hl 0 rfl) ?_
  refine lv_iload_n hx hb dX1_begin_6 rfl (lv_at hl 2 rfl) ?_
  refine iv_puti X ft_X1 hB a_h0 sh_1 1 (by decide) rfl rfl k_fl_X1_15 rfl i_x_1 rfl rfl dX1_begin_7 (fun H locs hB => ?_)
  have hm := iv_Md.put (x := x_1) a_h0 (j := 1) (by decide) (by decide)
  have h9 := iv_up_eq (G := G1) (a := h0) (k := (1, upd g2 1 x_1, r_h0))
  generalize iv_up G1 h0 _ = G3 at hB hm h9
  have hM := hM.stp hm (by decide)
  generalize hgn_g4 : upd g2 _ _ = g4 at h9
  have a_h0 := h9
  have e_x_0_g4 : x_0 = g4 0 := by rw [← hgn_g4]; exact e9_g2
  have e9_g4 : x_1 = g4 1 := by rw [← hgn_g4]; simp [upd]
  refine lv_aload_n hx hb dX1_begin_10 rfl (lv_at hl 0 rfl) ?_
  refine lv_iload_n hx hb dX1_begin_11 rfl (lv_at hl 3 rfl) ?_
  refine iv_puti X ft_X1 hB a_h0 sh_1 2 (by decide) rfl rfl k_fl_X1_18 rfl i_x_2 rfl rfl dX1_begin_12 (fun H locs hB => ?_)
  have hm := iv_Md.put (x := x_2) a_h0 (j := 2) (by decide) (by decide)
  have h9 := iv_up_eq (G := G3) (a := h0) (k := (1, upd g4 2 x_2, r_h0))
  generalize iv_up G3 h0 _ = G5 at hB hm h9
  have hM := hM.stp hm (by decide)
  generalize hgn_g6 : upd g4 _ _ = g6 at h9
  have a_h0 := h9
  have e_x_0_g6 : x_0 = g6 0 := by rw [← hgn_g6]; exact e_x_0_g4
  have e_x_1_g6 : x_1 = g6 1 := by rw [← hgn_g6]; exact e9_g4
  have e9_g6 : x_2 = g6 2 := by rw [← hgn_g6]; simp [upd]
  refine lv_aload_n hx hb dX1_begin_15 rfl (lv_at hl 0 rfl) ?_
  refine lv_iload hx hb dX1_begin_16 (lv_at hl 4 rfl) ?_
  refine iv_puti X ft_X1 hB a_h0 sh_1 3 (by decide) rfl rfl k_fl_X1_21 rfl i_x_3 rfl rfl dX1_begin_18 (fun H locs hB => ?_)
  have hm := iv_Md.put (x := x_3) a_h0 (j := 3) (by decide) (by decide)
  have h9 := iv_up_eq (G := G5) (a := h0) (k := (1, upd g6 3 x_3, r_h0))
  generalize iv_up G5 h0 _ = G7 at hB hm h9
  have hM := hM.stp hm (by decide)
  generalize hgn_g8 : upd g6 _ _ = g8 at h9
  have a_h0 := h9
  have e_x_0_g8 : x_0 = g8 0 := by rw [← hgn_g8]; exact e_x_0_g6
  have e_x_1_g8 : x_1 = g8 1 := by rw [← hgn_g8]; exact e_x_1_g6
  have e_x_2_g8 : x_2 = g8 2 := by rw [← hgn_g8]; exact e9_g6
  have e9_g8 : x_3 = g8 3 := by rw [← hgn_g8]; simp [upd]
  refine lv_aload_n hx hb dX1_begin_21 rfl (lv_at hl 0 rfl) ?_
  refine lv_iconst (v := 0) hx hb dX1_begin_22 (by decide) ?_
  refine iv_puti X ft_X1 hB a_h0 sh_1 4 (by decide) rfl rfl k_fl_X1_24 rfl (q_0.wk (by decide)) rfl rfl dX1_begin_23 (fun H locs hB => ?_)
  have hm := iv_Md.put (x := 0) a_h0 (j := 4) (by decide) (by decide)
  have h9 := iv_up_eq (G := G7) (a := h0) (k := (1, upd g8 4 0, r_h0))
  generalize iv_up G7 h0 _ = G9 at hB hm h9
  have hM := hM.stp hm (by decide)
  generalize hgn_g10 : upd g8 _ _ = g10 at h9
  have a_h0 := h9
  have e_x_0_g10 : x_0 = g10 0 := by rw [← hgn_g10]; exact e_x_0_g8
  have e_x_1_g10 : x_1 = g10 1 := by rw [← hgn_g10]; exact e_x_1_g8
  have e_x_2_g10 : x_2 = g10 2 := by rw [← hgn_g10]; exact e_x_2_g8
  have e_x_3_g10 : x_3 = g10 3 := by rw [← hgn_g10]; exact e9_g8
  have e9_g10 : 0 = g10 4 := by rw [← hgn_g10]; simp [upd]
  refine lv_aload_n hx hb dX1_begin_26 rfl (lv_at hl 0 rfl) ?_
  refine lv_iconst (v := 0) hx hb dX1_begin_27 (by decide) ?_
  refine iv_puti X ft_X1 hB a_h0 sh_1 5 (by decide) rfl rfl k_fl_X1_27 rfl (q_0.wk (by decide)) rfl rfl dX1_begin_28 (fun H locs hB => ?_)
  have hm := iv_Md.put (x := 0) a_h0 (j := 5) (by decide) (by decide)
  have h9 := iv_up_eq (G := G9) (a := h0) (k := (1, upd g10 5 0, r_h0))
  generalize iv_up G9 h0 _ = G11 at hB hm h9
  have hM := hM.stp hm (by decide)
  generalize hgn_g12 : upd g10 _ _ = g12 at h9
  have a_h0 := h9
  have e_x_0_g12 : x_0 = g12 0 := by rw [← hgn_g12]; exact e_x_0_g10
  have e_x_1_g12 : x_1 = g12 1 := by rw [← hgn_g12]; exact e_x_1_g10
  have e_x_2_g12 : x_2 = g12 2 := by rw [← hgn_g12]; exact e_x_2_g10
  have e_x_3_g12 : x_3 = g12 3 := by rw [← hgn_g12]; exact e_x_3_g10
  have e_0_g12 : 0 = g12 4 := by rw [← hgn_g12]; exact e9_g10
  have e9_g12 : 0 = g12 5 := by rw [← hgn_g12]; simp [upd]
  refine lv_aload_n hx hb dX1_begin_31 rfl (lv_at hl 0 rfl) ?_
  refine lv_iconst (v := 0) hx hb dX1_begin_32 (by decide) ?_
  refine iv_puti X ft_X1 hB a_h0 sh_1 6 (by decide) rfl rfl k_fl_X1_30 rfl (q_0.wk (by decide)) rfl rfl dX1_begin_33 (fun H locs hB => ?_)
  have hm := iv_Md.put (x := 0) a_h0 (j := 6) (by decide) (by decide)
  have h9 := iv_up_eq (G := G11) (a := h0) (k := (1, upd g12 6 0, r_h0))
  generalize iv_up G11 h0 _ = G13 at hB hm h9
  have hM := hM.stp hm (by decide)
  generalize hgn_g14 : upd g12 _ _ = g14 at h9
  have a_h0 := h9
  have e_x_0_g14 : x_0 = g14 0 := by rw [← hgn_g14]; exact e_x_0_g12
  have e_x_1_g14 : x_1 = g14 1 := by rw [← hgn_g14]; exact e_x_1_g12
  have e_x_2_g14 : x_2 = g14 2 := by rw [← hgn_g14]; exact e_x_2_g12
  have e_x_3_g14 : x_3 = g14 3 := by rw [← hgn_g14]; exact e_x_3_g12
  have e_0_g14 : 0 = g14 4 := by rw [← hgn_g14]; exact e_0_g12
  have e_0_g14 : 0 = g14 5 := by rw [← hgn_g14]; exact e9_g12
  have e9_g14 : 0 = g14 6 := by rw [← hgn_g14]; simp [upd]
  refine lv_aload_n hx hb dX1_begin_36 rfl (lv_at hl 0 rfl) ?_
  refine lv_iconst (v := 0) hx hb dX1_begin_37 (by decide) ?_
  refine iv_puti X ft_X1 hB a_h0 sh_1 7 (by decide) rfl rfl k_fl_X1_33 rfl (q_0.wk (by decide)) rfl rfl dX1_begin_38 (fun H locs hB => ?_)
  have hm := iv_Md.put (x := 0) a_h0 (j := 7) (by decide) (by decide)
  have h9 := iv_up_eq (G := G13) (a := h0) (k := (1, upd g14 7 0, r_h0))
  generalize iv_up G13 h0 _ = G15 at hB hm h9
  have hM := hM.stp hm (by decide)
  generalize hgn_g16 : upd g14 _ _ = g16 at h9
  have a_h0 := h9
  have e_x_0_g16 : x_0 = g16 0 := by rw [← hgn_g16]; exact e_x_0_g14
  have e_x_1_g16 : x_1 = g16 1 := by rw [← hgn_g16]; exact e_x_1_g14
  have e_x_2_g16 : x_2 = g16 2 := by rw [← hgn_g16]; exact e_x_2_g14
  have e_x_3_g16 : x_3 = g16 3 := by rw [← hgn_g16]; exact e_x_3_g14
  have e_0_g16 : 0 = g16 4 := by rw [← hgn_g16]; exact e_0_g14
  have e_0_g16 : 0 = g16 5 := by rw [← hgn_g16]; exact e_0_g14
  have e_0_g16 : 0 = g16 6 := by rw [← hgn_g16]; exact e9_g14
  have e9_g16 : 0 = g16 7 := by rw [← hgn_g16]; simp [upd]
  exact iv_vret X hr hlocks hB hM dX1_begin_41
theorem dX1_become_0 : decode cX1_become 0 = .ok (.aload_n 0, 1) := by decide +kernel
theorem dX1_become_1 : decode cX1_become 1 = .ok (.aload_n 1, 1) := by decide +kernel
theorem dX1_become_2 : decode cX1_become 2 = .ok (.getfield 9, 3) := by decide +kernel
theorem dX1_become_5 : decode cX1_become 5 = .ok (.aload_n 1, 1) := by decide +kernel
theorem dX1_become_6 : decode cX1_become 6 = .ok (.getfield 15, 3) := by decide +kernel
theorem dX1_become_9 : decode cX1_become 9 = .ok (.aload_n 1, 1) := by decide +kernel
theorem dX1_become_10 : decode cX1_become 10 = .ok (.getfield 18, 3) := by decide +kernel
theorem dX1_become_13 : decode cX1_become 13 = .ok (.aload_n 1, 1) := by decide +kernel
theorem dX1_become_14 : decode cX1_become 14 = .ok (.getfield 21, 3) := by decide +kernel
theorem dX1_become_17 : decode cX1_become 17 = .ok (.invokevirtual 36, 3) := by decide +kernel
theorem dX1_become_20 : decode cX1_become 20 = .ok (.aload_n 0, 1) := by decide +kernel
theorem dX1_become_21 : decode cX1_become 21 = .ok (.aload_n 1, 1) := by decide +kernel
theorem dX1_become_22 : decode cX1_become 22 = .ok (.getfield 24, 3) := by decide +kernel
theorem dX1_become_25 : decode cX1_become 25 = .ok (.putfield 24, 3) := by decide +kernel
theorem dX1_become_28 : decode cX1_become 28 = .ok (.aload_n 0, 1) := by decide +kernel
theorem dX1_become_29 : decode cX1_become 29 = .ok (.aload_n 1, 1) := by decide +kernel
theorem dX1_become_30 : decode cX1_become 30 = .ok (.getfield 27, 3) := by decide +kernel
theorem dX1_become_33 : decode cX1_become 33 = .ok (.putfield 27, 3) := by decide +kernel
theorem dX1_become_36 : decode cX1_become 36 = .ok (.aload_n 0, 1) := by decide +kernel
theorem dX1_become_37 : decode cX1_become 37 = .ok (.aload_n 1, 1) := by decide +kernel
theorem dX1_become_38 : decode cX1_become 38 = .ok (.getfield 30, 3) := by decide +kernel
theorem dX1_become_41 : decode cX1_become 41 = .ok (.putfield 30, 3) := by decide +kernel
theorem dX1_become_44 : decode cX1_become 44 = .ok (.aload_n 0, 1) := by decide +kernel
theorem dX1_become_45 : decode cX1_become 45 = .ok (.aload_n 1, 1) := by decide +kernel
theorem dX1_become_46 : decode cX1_become 46 = .ok (.getfield 33, 3) := by decide +kernel
theorem dX1_become_49 : decode cX1_become 49 = .ok (.putfield 33, 3) := by decide +kernel
theorem dX1_become_52 : decode cX1_become 52 = .ok (.return_, 1) := by decide +kernel
set_option maxHeartbeats 4000000 in
set_option maxRecDepth 100000 in
theorem c_X1_become (l : Launch) (D : va_G) (tys : List (ClassId × FieldType)) (base : Nat) (G : iv_G) (h0 : Nat) (g_h0 : Nat → Int32) (r_h0 : Nat → Nat) (a_h0 : G h0 = some (1, g_h0, r_h0)) (h1 : Nat) (g_h1 : Nat → Int32) (r_h1 : Nat → Nat) (a_h1 : G h1 = some (1, g_h1, r_h1)) : Met l yX1_become (Cond.code yX1_become cX1_become 2 none :: iv_W0) ({ frames := 1, cells := 0, slots := 0, locals := 24 }) (iv_Pc iv_sh D classes tys base G [.ref h0, .ref h1]) (iv_Qv iv_sh D classes tys base (fun G' => iv_Md [1] G G')) 0 0 (iv_A base) := by
  refine iv_head (by decide) (Nat.le_of_ble_eq_true rfl) ?_
  intro p e s m args below meth c ls X hr hlocks hname hB hl
  have X := X
  have hx := X.1.1
  have hb := X.1.2.1
  have hM : iv_Md [1] G G := iv_Md.rf
  have hl : lv_has ls 2 [(0, .ref h0), (1, .ref h1)] := hl
  refine lv_aload_n hx hb dX1_become_0 rfl (lv_at hl 0 rfl) ?_
  refine lv_aload_n hx hb dX1_become_1 rfl (lv_at hl 1 rfl) ?_
  refine iv_geti X ft_X1 hB a_h1 sh_1 0 (by decide) rfl k_fl_X1_9 dX1_become_2 (fun x1 e_x1 i_x1 => ?_)
  refine lv_aload_n hx hb dX1_become_5 rfl (lv_at hl 1 rfl) ?_
  refine iv_geti X ft_X1 hB a_h1 sh_1 1 (by decide) rfl k_fl_X1_15 dX1_become_6 (fun x2 e_x2 i_x2 => ?_)
  refine lv_aload_n hx hb dX1_become_9 rfl (lv_at hl 1 rfl) ?_
  refine iv_geti X ft_X1 hB a_h1 sh_1 2 (by decide) rfl k_fl_X1_18 dX1_become_10 (fun x3 e_x3 i_x3 => ?_)
  refine lv_aload_n hx hb dX1_become_13 rfl (lv_at hl 1 rfl) ?_
  refine iv_geti X ft_X1 hB a_h1 sh_1 3 (by decide) rfl k_fl_X1_21 dX1_become_14 (fun x4 e_x4 i_x4 => ?_)
  refine iv_cVv X k_good k_mf_X1_begin k_im_X1_begin k_sel_X1_begin k_ml_X1_36 ft_X1 hB a_h0 sh_1 (As := [.int x1, .int x2, .int x3, .int x4]) (c_X1_begin l D tys base G h0 g_h0 r_h0 a_h0 x1 i_x1 x2 i_x2 x3 i_x3 x4 i_x4) ⟨rfl, rfl⟩ ⟨Nat.le_of_ble_eq_true rfl, Nat.le_of_ble_eq_true rfl⟩ ⟨Nat.le_of_ble_eq_true rfl, Nat.le_of_ble_eq_true rfl⟩ rfl rfl hl.1 (Nat.le_of_ble_eq_true rfl) dX1_become_17 (fun G9 H locs hq hB => ?_)
  have hm := hq
  obtain ⟨G5, hG9⟩ : ∃ g, g = G9 := ⟨_, rfl⟩
  rw [← hG9] at hm hB
  have hM := hM.stp hm (by decide)
  obtain ⟨g6, r7, a_h0, f_g6⟩ := hm.ex a_h0
  obtain ⟨g8, r9, a_h1, f_g8⟩ := hm.ex a_h1
  refine lv_aload_n hx hb dX1_become_20 rfl (lv_at hl 0 rfl) ?_
  refine lv_aload_n hx hb dX1_become_21 rfl (lv_at hl 1 rfl) ?_
  refine iv_geti X ft_X1 hB a_h1 sh_1 4 (by decide) rfl k_fl_X1_24 dX1_become_22 (fun x10 e_x10 i_x10 => ?_)
  refine iv_puti X ft_X1 hB a_h0 sh_1 4 (by decide) rfl rfl k_fl_X1_24 rfl i_x10 rfl rfl dX1_become_25 (fun H locs hB => ?_)
  have hm := iv_Md.put (x := x10) a_h0 (j := 4) (by decide) (by decide)
  have h9 := iv_up_eq (G := G5) (a := h0) (k := (1, upd g6 4 x10, r7))
  generalize iv_up G5 h0 _ = G11 at hB hm h9
  have hM := hM.stp hm (by decide)
  generalize hgn_g12 : upd g6 _ _ = g12 at h9
  obtain ⟨g13, r14, a_h1, f_g13⟩ := hm.ex a_h1
  have a_h0 := h9
  have e9_g12 : x10 = g12 4 := by rw [← hgn_g12]; simp [upd]
  refine lv_aload_n hx hb dX1_become_28 rfl (lv_at hl 0 rfl) ?_
  refine lv_aload_n hx hb dX1_become_29 rfl (lv_at hl 1 rfl) ?_
  refine iv_geti X ft_X1 hB a_h1 sh_1 5 (by decide) rfl k_fl_X1_27 dX1_become_30 (fun x15 e_x15 i_x15 => ?_)
  refine iv_puti X ft_X1 hB a_h0 sh_1 5 (by decide) rfl rfl k_fl_X1_27 rfl i_x15 rfl rfl dX1_become_33 (fun H locs hB => ?_)
  have hm := iv_Md.put (x := x15) a_h0 (j := 5) (by decide) (by decide)
  have h9 := iv_up_eq (G := G11) (a := h0) (k := (1, upd g12 5 x15, r7))
  generalize iv_up G11 h0 _ = G16 at hB hm h9
  have hM := hM.stp hm (by decide)
  generalize hgn_g17 : upd g12 _ _ = g17 at h9
  obtain ⟨g18, r19, a_h1, f_g18⟩ := hm.ex a_h1
  have a_h0 := h9
  have e_x10_g17 : x10 = g17 4 := by rw [← hgn_g17]; exact e9_g12
  have e9_g17 : x15 = g17 5 := by rw [← hgn_g17]; simp [upd]
  refine lv_aload_n hx hb dX1_become_36 rfl (lv_at hl 0 rfl) ?_
  refine lv_aload_n hx hb dX1_become_37 rfl (lv_at hl 1 rfl) ?_
  refine iv_geti X ft_X1 hB a_h1 sh_1 6 (by decide) rfl k_fl_X1_30 dX1_become_38 (fun x20 e_x20 i_x20 => ?_)
  refine iv_puti X ft_X1 hB a_h0 sh_1 6 (by decide) rfl rfl k_fl_X1_30 rfl i_x20 rfl rfl dX1_become_41 (fun H locs hB => ?_)
  have hm := iv_Md.put (x := x20) a_h0 (j := 6) (by decide) (by decide)
  have h9 := iv_up_eq (G := G16) (a := h0) (k := (1, upd g17 6 x20, r7))
  generalize iv_up G16 h0 _ = G21 at hB hm h9
  have hM := hM.stp hm (by decide)
  generalize hgn_g22 : upd g17 _ _ = g22 at h9
  obtain ⟨g23, r24, a_h1, f_g23⟩ := hm.ex a_h1
  have a_h0 := h9
  have e_x10_g22 : x10 = g22 4 := by rw [← hgn_g22]; exact e_x10_g17
  have e_x15_g22 : x15 = g22 5 := by rw [← hgn_g22]; exact e9_g17
  have e9_g22 : x20 = g22 6 := by rw [← hgn_g22]; simp [upd]
  refine lv_aload_n hx hb dX1_become_44 rfl (lv_at hl 0 rfl) ?_
  refine lv_aload_n hx hb dX1_become_45 rfl (lv_at hl 1 rfl) ?_
  refine iv_geti X ft_X1 hB a_h1 sh_1 7 (by decide) rfl k_fl_X1_33 dX1_become_46 (fun x25 e_x25 i_x25 => ?_)
  refine iv_puti X ft_X1 hB a_h0 sh_1 7 (by decide) rfl rfl k_fl_X1_33 rfl i_x25 rfl rfl dX1_become_49 (fun H locs hB => ?_)
  have hm := iv_Md.put (x := x25) a_h0 (j := 7) (by decide) (by decide)
  have h9 := iv_up_eq (G := G21) (a := h0) (k := (1, upd g22 7 x25, r7))
  generalize iv_up G21 h0 _ = G26 at hB hm h9
  have hM := hM.stp hm (by decide)
  generalize hgn_g27 : upd g22 _ _ = g27 at h9
  obtain ⟨g28, r29, a_h1, f_g28⟩ := hm.ex a_h1
  have a_h0 := h9
  have e_x10_g27 : x10 = g27 4 := by rw [← hgn_g27]; exact e_x10_g22
  have e_x15_g27 : x15 = g27 5 := by rw [← hgn_g27]; exact e_x15_g22
  have e_x20_g27 : x20 = g27 6 := by rw [← hgn_g27]; exact e9_g22
  have e9_g27 : x25 = g27 7 := by rw [← hgn_g27]; simp [upd]
  exact iv_vret X hr hlocks hB hM dX1_become_52
theorem dX2_learn_0 : decode cX2_learn 0 = .ok (.aload_n 0, 1) := by decide +kernel
theorem dX2_learn_1 : decode cX2_learn 1 = .ok (.getfield 15, 3) := by decide +kernel
theorem dX2_learn_4 : decode cX2_learn 4 = .ok (.getfield 19, 3) := by decide +kernel
theorem dX2_learn_7 : decode cX2_learn 7 = .ok (.iload_n 1, 1) := by decide +kernel
theorem dX2_learn_8 : decode cX2_learn 8 = .ok (.aaload, 1) := by decide +kernel
theorem dX2_learn_9 : decode cX2_learn 9 = .ok (.astore_n 2, 1) := by decide +kernel
theorem dX2_learn_10 : decode cX2_learn 10 = .ok (.aload_n 0, 1) := by decide +kernel
theorem dX2_learn_11 : decode cX2_learn 11 = .ok (.getfield 9, 3) := by decide +kernel
theorem dX2_learn_14 : decode cX2_learn 14 = .ok (.iconst 0, 1) := by decide +kernel
theorem dX2_learn_15 : decode cX2_learn 15 = .ok (.aload_n 2, 1) := by decide +kernel
theorem dX2_learn_16 : decode cX2_learn 16 = .ok (.getfield 25, 3) := by decide +kernel
theorem dX2_learn_19 : decode cX2_learn 19 = .ok (.iastore, 1) := by decide +kernel
theorem dX2_learn_20 : decode cX2_learn 20 = .ok (.aload_n 0, 1) := by decide +kernel
theorem dX2_learn_21 : decode cX2_learn 21 = .ok (.getfield 9, 3) := by decide +kernel
theorem dX2_learn_24 : decode cX2_learn 24 = .ok (.iconst 1, 1) := by decide +kernel
theorem dX2_learn_25 : decode cX2_learn 25 = .ok (.aload_n 2, 1) := by decide +kernel
theorem dX2_learn_26 : decode cX2_learn 26 = .ok (.getfield 31, 3) := by decide +kernel
theorem dX2_learn_29 : decode cX2_learn 29 = .ok (.iastore, 1) := by decide +kernel
theorem dX2_learn_30 : decode cX2_learn 30 = .ok (.aload_n 0, 1) := by decide +kernel
theorem dX2_learn_31 : decode cX2_learn 31 = .ok (.getfield 9, 3) := by decide +kernel
theorem dX2_learn_34 : decode cX2_learn 34 = .ok (.iconst 2, 1) := by decide +kernel
theorem dX2_learn_35 : decode cX2_learn 35 = .ok (.aload_n 2, 1) := by decide +kernel
theorem dX2_learn_36 : decode cX2_learn 36 = .ok (.getfield 34, 3) := by decide +kernel
theorem dX2_learn_39 : decode cX2_learn 39 = .ok (.iastore, 1) := by decide +kernel
theorem dX2_learn_40 : decode cX2_learn 40 = .ok (.aload_n 0, 1) := by decide +kernel
theorem dX2_learn_41 : decode cX2_learn 41 = .ok (.getfield 9, 3) := by decide +kernel
theorem dX2_learn_44 : decode cX2_learn 44 = .ok (.iconst 3, 1) := by decide +kernel
theorem dX2_learn_45 : decode cX2_learn 45 = .ok (.aload_n 2, 1) := by decide +kernel
theorem dX2_learn_46 : decode cX2_learn 46 = .ok (.getfield 37, 3) := by decide +kernel
theorem dX2_learn_49 : decode cX2_learn 49 = .ok (.iastore, 1) := by decide +kernel
theorem dX2_learn_50 : decode cX2_learn 50 = .ok (.aload_n 0, 1) := by decide +kernel
theorem dX2_learn_51 : decode cX2_learn 51 = .ok (.getfield 9, 3) := by decide +kernel
theorem dX2_learn_54 : decode cX2_learn 54 = .ok (.iconst 4, 1) := by decide +kernel
theorem dX2_learn_55 : decode cX2_learn 55 = .ok (.aload_n 0, 1) := by decide +kernel
theorem dX2_learn_56 : decode cX2_learn 56 = .ok (.getfield 15, 3) := by decide +kernel
theorem dX2_learn_59 : decode cX2_learn 59 = .ok (.getfield 40, 3) := by decide +kernel
theorem dX2_learn_62 : decode cX2_learn 62 = .ok (.iastore, 1) := by decide +kernel
theorem dX2_learn_63 : decode cX2_learn 63 = .ok (.aload_n 0, 1) := by decide +kernel
theorem dX2_learn_64 : decode cX2_learn 64 = .ok (.getfield 9, 3) := by decide +kernel
theorem dX2_learn_67 : decode cX2_learn 67 = .ok (.bipush 7, 2) := by decide +kernel
theorem dX2_learn_69 : decode cX2_learn 69 = .ok (.aload_n 2, 1) := by decide +kernel
theorem dX2_learn_70 : decode cX2_learn 70 = .ok (.getfield 43, 3) := by decide +kernel
theorem dX2_learn_73 : decode cX2_learn 73 = .ok (.iastore, 1) := by decide +kernel
theorem dX2_learn_74 : decode cX2_learn 74 = .ok (.aload_n 0, 1) := by decide +kernel
theorem dX2_learn_75 : decode cX2_learn 75 = .ok (.getfield 9, 3) := by decide +kernel
theorem dX2_learn_78 : decode cX2_learn 78 = .ok (.bipush 9, 2) := by decide +kernel
theorem dX2_learn_80 : decode cX2_learn 80 = .ok (.aload_n 2, 1) := by decide +kernel
theorem dX2_learn_81 : decode cX2_learn 81 = .ok (.getfield 46, 3) := by decide +kernel
theorem dX2_learn_84 : decode cX2_learn 84 = .ok (.iastore, 1) := by decide +kernel
theorem dX2_learn_85 : decode cX2_learn 85 = .ok (.aload_n 0, 1) := by decide +kernel
theorem dX2_learn_86 : decode cX2_learn 86 = .ok (.getfield 9, 3) := by decide +kernel
theorem dX2_learn_89 : decode cX2_learn 89 = .ok (.bipush 10, 2) := by decide +kernel
theorem dX2_learn_91 : decode cX2_learn 91 = .ok (.aload_n 0, 1) := by decide +kernel
theorem dX2_learn_92 : decode cX2_learn 92 = .ok (.getfield 15, 3) := by decide +kernel
theorem dX2_learn_95 : decode cX2_learn 95 = .ok (.getfield 49, 3) := by decide +kernel
theorem dX2_learn_98 : decode cX2_learn 98 = .ok (.iastore, 1) := by decide +kernel
theorem dX2_learn_99 : decode cX2_learn 99 = .ok (.return_, 1) := by decide +kernel
set_option maxHeartbeats 4000000 in
set_option maxRecDepth 100000 in
theorem c_X2_learn (l : Launch) (D : va_G) (tys : List (ClassId × FieldType)) (base : Nat) (G : iv_G) (h0 : Nat) (g_h0 : Nat → Int32) (r_h0 : Nat → Nat) (a_h0 : G h0 = some (2, g_h0, r_h0)) (x_0 : Int32) (i_x_0 : iv_R 0 0 x_0) : Met l yX2_learn (Cond.code yX2_learn cX2_learn 3 none :: iv_W0) ({ frames := 0, cells := 0, slots := 0, locals := 0 }) (iv_Pc iv_sh D classes tys base G [.ref h0, .int x_0]) (iv_Qv iv_sh D classes tys base (fun G' => iv_Md [30] G G')) 0 0 (iv_A base) := by
  refine iv_head (by decide) (Nat.le_of_ble_eq_true rfl) ?_
  intro p e s m args below meth c ls X hr hlocks hname hB hl
  have X := X
  have hx := X.1.1
  have hb := X.1.2.1
  have hM : iv_Md [30] G G := iv_Md.rf
  have hl : lv_has ls 3 [(0, .ref h0), (1, .int x_0)] := hl
  refine lv_aload_n hx hb dX2_learn_0 rfl (lv_at hl 0 rfl) ?_
  refine iv_getr X ft_X2 hB a_h0 sh_2 0 (by decide) rfl k_fl_X2_15 dX2_learn_1 (fun b1 g_b1 r_b1 e_b1 a_b1 => ?_)
  refine iv_getr X ft_X5 hB a_b1 sh_5 0 (by decide) rfl k_fl_X2_19 dX2_learn_4 (fun b2 g_b2 r_b2 e_b2 a_b2 => ?_)
  refine lv_iload_n hx hb dX2_learn_7 rfl (lv_at hl 1 rfl) ?_
  refine iv_aald X hB a_b2 sh_40 (iv_in i_x_0 (by decide)) dX2_learn_8 (fun b3 g_b3 r_b3 e_b3 a_b3 => ?_)
  refine lv_astore_n (lv' := [(2, .ref b3), (0, .ref h0), (1, .int x_0)]) hx hb dX2_learn_9 rfl hl (by decide) rfl (fun ls hl => ?_)
  refine lv_aload_n hx hb dX2_learn_10 rfl (lv_at hl 1 rfl) ?_
  refine iv_getr X ft_X2 hB a_h0 sh_2 1 (by decide) rfl k_fl_X2_9 dX2_learn_11 (fun b4 g_b4 r_b4 e_b4 a_b4 => ?_)
  refine lv_iconst (v := 0) hx hb dX2_learn_14 (by decide) ?_
  refine lv_aload_n hx hb dX2_learn_15 rfl (lv_at hl 0 rfl) ?_
  refine iv_geti X ft_X1 hB a_b3 sh_1 2 (by decide) rfl k_fl_X2_25 dX2_learn_16 (fun x5 e_x5 i_x5 => ?_)
  refine iv_ast X hB a_b4 sh_30 (iv_in q_0 (by decide)) i_x5 dX2_learn_19 (fun H locs hB => ?_)
  have hm := iv_Md.ast (j := 0.toNatClampNeg) (x := x5) a_b4 rfl (by decide)
  have h9 := iv_up_eq (G := G) (a := b4) (k := (30, upd g_b4 0.toNatClampNeg x5, r_b4))
  generalize iv_up G b4 _ = G6 at hB hm h9
  have hM := hM.stp hm (by decide)
  have a_h0 := hm.at a_h0 (by decide)
  have a_b3 := hm.at a_b3 (by decide)
  refine lv_aload_n hx hb dX2_learn_20 rfl (lv_at hl 1 rfl) ?_
  refine iv_getr X ft_X2 hB a_h0 sh_2 1 (by decide) rfl k_fl_X2_9 dX2_learn_21 (fun b8 g_b8 r_b8 e_b8 a_b8 => ?_)
  refine lv_iconst (v := 1) hx hb dX2_learn_24 (by decide) ?_
  refine lv_aload_n hx hb dX2_learn_25 rfl (lv_at hl 0 rfl) ?_
  refine iv_geti X ft_X1 hB a_b3 sh_1 1 (by decide) rfl k_fl_X2_31 dX2_learn_26 (fun x9 e_x9 i_x9 => ?_)
  refine iv_ast X hB a_b8 sh_30 (iv_in q_1 (by decide)) i_x9 dX2_learn_29 (fun H locs hB => ?_)
  have hm := iv_Md.ast (j := 1.toNatClampNeg) (x := x9) a_b8 rfl (by decide)
  have h9 := iv_up_eq (G := G6) (a := b8) (k := (30, upd g_b8 1.toNatClampNeg x9, r_b8))
  generalize iv_up G6 b8 _ = G10 at hB hm h9
  have hM := hM.stp hm (by decide)
  have a_h0 := hm.at a_h0 (by decide)
  have a_b3 := hm.at a_b3 (by decide)
  refine lv_aload_n hx hb dX2_learn_30 rfl (lv_at hl 1 rfl) ?_
  refine iv_getr X ft_X2 hB a_h0 sh_2 1 (by decide) rfl k_fl_X2_9 dX2_learn_31 (fun b12 g_b12 r_b12 e_b12 a_b12 => ?_)
  refine lv_iconst (v := 2) hx hb dX2_learn_34 (by decide) ?_
  refine lv_aload_n hx hb dX2_learn_35 rfl (lv_at hl 0 rfl) ?_
  refine iv_geti X ft_X1 hB a_b3 sh_1 3 (by decide) rfl k_fl_X2_34 dX2_learn_36 (fun x13 e_x13 i_x13 => ?_)
  refine iv_ast X hB a_b12 sh_30 (iv_in q_2 (by decide)) i_x13 dX2_learn_39 (fun H locs hB => ?_)
  have hm := iv_Md.ast (j := 2.toNatClampNeg) (x := x13) a_b12 rfl (by decide)
  have h9 := iv_up_eq (G := G10) (a := b12) (k := (30, upd g_b12 2.toNatClampNeg x13, r_b12))
  generalize iv_up G10 b12 _ = G14 at hB hm h9
  have hM := hM.stp hm (by decide)
  have a_h0 := hm.at a_h0 (by decide)
  have a_b3 := hm.at a_b3 (by decide)
  refine lv_aload_n hx hb dX2_learn_40 rfl (lv_at hl 1 rfl) ?_
  refine iv_getr X ft_X2 hB a_h0 sh_2 1 (by decide) rfl k_fl_X2_9 dX2_learn_41 (fun b16 g_b16 r_b16 e_b16 a_b16 => ?_)
  refine lv_iconst (v := 3) hx hb dX2_learn_44 (by decide) ?_
  refine lv_aload_n hx hb dX2_learn_45 rfl (lv_at hl 0 rfl) ?_
  refine iv_geti X ft_X1 hB a_b3 sh_1 4 (by decide) rfl k_fl_X2_37 dX2_learn_46 (fun x17 e_x17 i_x17 => ?_)
  refine iv_ast X hB a_b16 sh_30 (iv_in q_3 (by decide)) i_x17 dX2_learn_49 (fun H locs hB => ?_)
  have hm := iv_Md.ast (j := 3.toNatClampNeg) (x := x17) a_b16 rfl (by decide)
  have h9 := iv_up_eq (G := G14) (a := b16) (k := (30, upd g_b16 3.toNatClampNeg x17, r_b16))
  generalize iv_up G14 b16 _ = G18 at hB hm h9
  have hM := hM.stp hm (by decide)
  have a_h0 := hm.at a_h0 (by decide)
  have a_b3 := hm.at a_b3 (by decide)
  refine lv_aload_n hx hb dX2_learn_50 rfl (lv_at hl 1 rfl) ?_
  refine iv_getr X ft_X2 hB a_h0 sh_2 1 (by decide) rfl k_fl_X2_9 dX2_learn_51 (fun b20 g_b20 r_b20 e_b20 a_b20 => ?_)
  refine lv_iconst (v := 4) hx hb dX2_learn_54 (by decide) ?_
  refine lv_aload_n hx hb dX2_learn_55 rfl (lv_at hl 1 rfl) ?_
  refine iv_getr X ft_X2 hB a_h0 sh_2 0 (by decide) rfl k_fl_X2_15 dX2_learn_56 (fun b21 g_b21 r_b21 e_b21 a_b21 => ?_)
  refine iv_geti X ft_X5 hB a_b21 sh_5 4 (by decide) rfl k_fl_X2_40 dX2_learn_59 (fun x22 e_x22 i_x22 => ?_)
  refine iv_ast X hB a_b20 sh_30 (iv_in q_4 (by decide)) i_x22 dX2_learn_62 (fun H locs hB => ?_)
  have hm := iv_Md.ast (j := 4.toNatClampNeg) (x := x22) a_b20 rfl (by decide)
  have h9 := iv_up_eq (G := G18) (a := b20) (k := (30, upd g_b20 4.toNatClampNeg x22, r_b20))
  generalize iv_up G18 b20 _ = G23 at hB hm h9
  have hM := hM.stp hm (by decide)
  have a_h0 := hm.at a_h0 (by decide)
  have a_b3 := hm.at a_b3 (by decide)
  refine lv_aload_n hx hb dX2_learn_63 rfl (lv_at hl 1 rfl) ?_
  refine iv_getr X ft_X2 hB a_h0 sh_2 1 (by decide) rfl k_fl_X2_9 dX2_learn_64 (fun b25 g_b25 r_b25 e_b25 a_b25 => ?_)
  refine lv_bipush (v := 7) hx hb dX2_learn_67 (by decide) ?_
  refine lv_aload_n hx hb dX2_learn_69 rfl (lv_at hl 0 rfl) ?_
  refine iv_geti X ft_X1 hB a_b3 sh_1 5 (by decide) rfl k_fl_X2_43 dX2_learn_70 (fun x26 e_x26 i_x26 => ?_)
  refine iv_ast X hB a_b25 sh_30 (iv_in q_7 (by decide)) i_x26 dX2_learn_73 (fun H locs hB => ?_)
  have hm := iv_Md.ast (j := 7.toNatClampNeg) (x := x26) a_b25 rfl (by decide)
  have h9 := iv_up_eq (G := G23) (a := b25) (k := (30, upd g_b25 7.toNatClampNeg x26, r_b25))
  generalize iv_up G23 b25 _ = G27 at hB hm h9
  have hM := hM.stp hm (by decide)
  have a_h0 := hm.at a_h0 (by decide)
  have a_b3 := hm.at a_b3 (by decide)
  refine lv_aload_n hx hb dX2_learn_74 rfl (lv_at hl 1 rfl) ?_
  refine iv_getr X ft_X2 hB a_h0 sh_2 1 (by decide) rfl k_fl_X2_9 dX2_learn_75 (fun b29 g_b29 r_b29 e_b29 a_b29 => ?_)
  refine lv_bipush (v := 9) hx hb dX2_learn_78 (by decide) ?_
  refine lv_aload_n hx hb dX2_learn_80 rfl (lv_at hl 0 rfl) ?_
  refine iv_geti X ft_X1 hB a_b3 sh_1 7 (by decide) rfl k_fl_X2_46 dX2_learn_81 (fun x30 e_x30 i_x30 => ?_)
  refine iv_ast X hB a_b29 sh_30 (iv_in q_9 (by decide)) i_x30 dX2_learn_84 (fun H locs hB => ?_)
  have hm := iv_Md.ast (j := 9.toNatClampNeg) (x := x30) a_b29 rfl (by decide)
  have h9 := iv_up_eq (G := G27) (a := b29) (k := (30, upd g_b29 9.toNatClampNeg x30, r_b29))
  generalize iv_up G27 b29 _ = G31 at hB hm h9
  have hM := hM.stp hm (by decide)
  have a_h0 := hm.at a_h0 (by decide)
  have a_b3 := hm.at a_b3 (by decide)
  refine lv_aload_n hx hb dX2_learn_85 rfl (lv_at hl 1 rfl) ?_
  refine iv_getr X ft_X2 hB a_h0 sh_2 1 (by decide) rfl k_fl_X2_9 dX2_learn_86 (fun b33 g_b33 r_b33 e_b33 a_b33 => ?_)
  refine lv_bipush (v := 10) hx hb dX2_learn_89 (by decide) ?_
  refine lv_aload_n hx hb dX2_learn_91 rfl (lv_at hl 1 rfl) ?_
  refine iv_getr X ft_X2 hB a_h0 sh_2 0 (by decide) rfl k_fl_X2_15 dX2_learn_92 (fun b34 g_b34 r_b34 e_b34 a_b34 => ?_)
  refine iv_geti X ft_X5 hB a_b34 sh_5 6 (by decide) rfl k_fl_X2_49 dX2_learn_95 (fun x35 e_x35 i_x35 => ?_)
  refine iv_ast X hB a_b33 sh_30 (iv_in q_10 (by decide)) i_x35 dX2_learn_98 (fun H locs hB => ?_)
  have hm := iv_Md.ast (j := 10.toNatClampNeg) (x := x35) a_b33 rfl (by decide)
  have h9 := iv_up_eq (G := G31) (a := b33) (k := (30, upd g_b33 10.toNatClampNeg x35, r_b33))
  generalize iv_up G31 b33 _ = G36 at hB hm h9
  have hM := hM.stp hm (by decide)
  have a_h0 := hm.at a_h0 (by decide)
  have a_b3 := hm.at a_b3 (by decide)
  exact iv_vret X hr hlocks hB hM dX2_learn_99
theorem dX4_canFollow_0 : decode cX4_canFollow 0 = .ok (.iload_n 1, 1) := by decide +kernel
theorem dX4_canFollow_1 : decode cX4_canFollow 1 = .ok (.iload_n 3, 1) := by decide +kernel
theorem dX4_canFollow_2 : decode cX4_canFollow 2 = .ok (.iushr, 1) := by decide +kernel
theorem dX4_canFollow_3 : decode cX4_canFollow 3 = .ok (.iconst 1, 1) := by decide +kernel
theorem dX4_canFollow_4 : decode cX4_canFollow 4 = .ok (.iand, 1) := by decide +kernel
theorem dX4_canFollow_5 : decode cX4_canFollow 5 = .ok (.iconst 1, 1) := by decide +kernel
theorem dX4_canFollow_6 : decode cX4_canFollow 6 = .ok (.if_icmp .ne 34, 3) := by decide +kernel
theorem dX4_canFollow_9 : decode cX4_canFollow 9 = .ok (.iload_n 2, 1) := by decide +kernel
theorem dX4_canFollow_10 : decode cX4_canFollow 10 = .ok (.iconst (-1), 1) := by decide +kernel
theorem dX4_canFollow_11 : decode cX4_canFollow 11 = .ok (.if_icmp .eq 25, 3) := by decide +kernel
theorem dX4_canFollow_14 : decode cX4_canFollow 14 = .ok (.aload_n 0, 1) := by decide +kernel
theorem dX4_canFollow_15 : decode cX4_canFollow 15 = .ok (.getfield 21, 3) := by decide +kernel
theorem dX4_canFollow_18 : decode cX4_canFollow 18 = .ok (.aload_n 0, 1) := by decide +kernel
theorem dX4_canFollow_19 : decode cX4_canFollow 19 = .ok (.getfield 15, 3) := by decide +kernel
theorem dX4_canFollow_22 : decode cX4_canFollow 22 = .ok (.iload_n 2, 1) := by decide +kernel
theorem dX4_canFollow_23 : decode cX4_canFollow 23 = .ok (.iaload, 1) := by decide +kernel
theorem dX4_canFollow_24 : decode cX4_canFollow 24 = .ok (.aload_n 0, 1) := by decide +kernel
theorem dX4_canFollow_25 : decode cX4_canFollow 25 = .ok (.getfield 15, 3) := by decide +kernel
theorem dX4_canFollow_28 : decode cX4_canFollow 28 = .ok (.iload_n 3, 1) := by decide +kernel
theorem dX4_canFollow_29 : decode cX4_canFollow 29 = .ok (.iaload, 1) := by decide +kernel
theorem dX4_canFollow_30 : decode cX4_canFollow 30 = .ok (.invokevirtual 53, 3) := by decide +kernel
theorem dX4_canFollow_33 : decode cX4_canFollow 33 = .ok (.ifCond .ne 7, 3) := by decide +kernel
theorem dX4_canFollow_36 : decode cX4_canFollow 36 = .ok (.iconst 1, 1) := by decide +kernel
theorem dX4_canFollow_37 : decode cX4_canFollow 37 = .ok (.goto 4, 3) := by decide +kernel
theorem dX4_canFollow_40 : decode cX4_canFollow 40 = .ok (.iconst 0, 1) := by decide +kernel
theorem dX4_canFollow_41 : decode cX4_canFollow 41 = .ok (.ireturn, 1) := by decide +kernel
set_option maxHeartbeats 4000000 in
set_option maxRecDepth 100000 in
theorem c_X4_canFollow (l : Launch) (D : va_G) (tys : List (ClassId × FieldType)) (base : Nat) (G : iv_G) (h0 : Nat) (g_h0 : Nat → Int32) (r_h0 : Nat → Nat) (a_h0 : G h0 = some (4, g_h0, r_h0)) (x_0 : Int32) (i_x_0 : iv_R (-2147483648) (-1) x_0) (x_1 : Int32) (i_x_1 : iv_R (-1) (-1) x_1) (x_2 : Int32) (i_x_2 : iv_R 0 0 x_2) : Met l yX4_canFollow (Cond.code yX4_canFollow cX4_canFollow 4 (some .boolean) :: iv_W0) ({ frames := 0, cells := 0, slots := 0, locals := 0 }) (iv_Pc iv_sh D classes tys base G [.ref h0, .int x_0, .int x_1, .int x_2]) (iv_Qi iv_sh D classes tys base (fun v G' => G = G' ∧ iv_R 0 1 v)) 0 0 (iv_A base) := by
  refine iv_head (by decide) (Nat.le_of_ble_eq_true rfl) ?_
  intro p e s m args below meth c ls X hr hlocks hname hB hl
  have X := X
  have hx := X.1.1
  have hb := X.1.2.1
  have hl : lv_has ls 4 [(0, .ref h0), (1, .int x_0), (2, .int x_1), (3, .int x_2)] := hl
  refine lv_iload_n hx hb dX4_canFollow_0 rfl (lv_at hl 1 rfl) ?_
  refine lv_iload_n hx hb dX4_canFollow_1 rfl (lv_at hl 3 rfl) ?_
  refine lv_iushr hx hb dX4_canFollow_2 rfl ?_
  refine lv_topi (fun x1 e_x1 => ?_)
  have i_x1 := iv_R.all x1
  refine lv_iconst (v := 1) hx hb dX4_canFollow_3 (by decide) ?_
  refine iv_iand_r hx hb q_1 (by decide) dX4_canFollow_4 (fun x2 e_x2 i_x2 => ?_)
  refine lv_iconst (v := 1) hx hb dX4_canFollow_5 (by decide) ?_
  refine lv_icmp_ne (tgt := 40) hx hb dX4_canFollow_6 (by decide) (fun c3 => ?_) (fun c3 => ?_)
  · skip
    have i3_x2 : iv_R 0 0 x2 := iv_ne_hi c3 i_x2 q_1 (by decide)
    refine lv_iconst (v := 0) hx hb dX4_canFollow_40 (by decide) ?_
    exact iv_zret X hr hlocks hB (q_0.wk (by decide)) ⟨rfl, (q_0.wk (by decide))⟩ dX4_canFollow_41
  · skip
    have i4_x2 : iv_R 1 1 x2 := (i_x2.cutLo (n := 1) (iv_eq_r c3 q_1).1)
    refine lv_iload_n hx hb dX4_canFollow_9 rfl (lv_at hl 2 rfl) ?_
    refine lv_iconst (v := (-1)) hx hb dX4_canFollow_10 (by decide) ?_
    refine lv_icmp_eq (tgt := 36) hx hb dX4_canFollow_11 (by decide) (fun c6 => ?_) (fun c6 => ?_)
    · skip
      refine lv_iconst (v := 1) hx hb dX4_canFollow_36 (by decide) ?_
      refine lv_goto (tgt := 41) hx hb dX4_canFollow_37 (by decide) ?_
      exact iv_zret X hr hlocks hB (q_1.wk (by decide)) ⟨rfl, (q_1.wk (by decide))⟩ dX4_canFollow_41
    · skip
      exact (iv_ne_lo c6 i_x_1 q_n1 (a' := 0) (by decide)).no (by decide)
theorem dX4_gather_0 : decode cX4_gather 0 = .ok (.aload_n 0, 1) := by decide +kernel
theorem dX4_gather_1 : decode cX4_gather 1 = .ok (.iconst 0, 1) := by decide +kernel
theorem dX4_gather_2 : decode cX4_gather 2 = .ok (.putfield 61, 3) := by decide +kernel
theorem dX4_gather_5 : decode cX4_gather 5 = .ok (.iconst 0, 1) := by decide +kernel
theorem dX4_gather_6 : decode cX4_gather 6 = .ok (.istore_n 2, 1) := by decide +kernel
theorem dX4_gather_7 : decode cX4_gather 7 = .ok (.iload_n 2, 1) := by decide +kernel
theorem dX4_gather_8 : decode cX4_gather 8 = .ok (.aload_n 0, 1) := by decide +kernel
theorem dX4_gather_9 : decode cX4_gather 9 = .ok (.getfield 21, 3) := by decide +kernel
theorem dX4_gather_12 : decode cX4_gather 12 = .ok (.getfield 33, 3) := by decide +kernel
theorem dX4_gather_15 : decode cX4_gather 15 = .ok (.if_icmp .ge 47, 3) := by decide +kernel
theorem dX4_gather_18 : decode cX4_gather 18 = .ok (.iload_n 1, 1) := by decide +kernel
theorem dX4_gather_19 : decode cX4_gather 19 = .ok (.iload_n 2, 1) := by decide +kernel
theorem dX4_gather_20 : decode cX4_gather 20 = .ok (.iushr, 1) := by decide +kernel
theorem dX4_gather_21 : decode cX4_gather 21 = .ok (.iconst 1, 1) := by decide +kernel
theorem dX4_gather_22 : decode cX4_gather 22 = .ok (.iand, 1) := by decide +kernel
theorem dX4_gather_23 : decode cX4_gather 23 = .ok (.iconst 1, 1) := by decide +kernel
theorem dX4_gather_24 : decode cX4_gather 24 = .ok (.if_icmp .ne 32, 3) := by decide +kernel
theorem dX4_gather_27 : decode cX4_gather 27 = .ok (.aload_n 0, 1) := by decide +kernel
theorem dX4_gather_28 : decode cX4_gather 28 = .ok (.getfield 61, 3) := by decide +kernel
theorem dX4_gather_31 : decode cX4_gather 31 = .ok (.bipush 8, 2) := by decide +kernel
theorem dX4_gather_33 : decode cX4_gather 33 = .ok (.if_icmp .ge 23, 3) := by decide +kernel
theorem dX4_gather_36 : decode cX4_gather 36 = .ok (.aload_n 0, 1) := by decide +kernel
theorem dX4_gather_37 : decode cX4_gather 37 = .ok (.getfield 15, 3) := by decide +kernel
theorem dX4_gather_40 : decode cX4_gather 40 = .ok (.aload_n 0, 1) := by decide +kernel
theorem dX4_gather_41 : decode cX4_gather 41 = .ok (.getfield 61, 3) := by decide +kernel
theorem dX4_gather_44 : decode cX4_gather 44 = .ok (.iload_n 2, 1) := by decide +kernel
theorem dX4_gather_45 : decode cX4_gather 45 = .ok (.iastore, 1) := by decide +kernel
theorem dX4_gather_46 : decode cX4_gather 46 = .ok (.aload_n 0, 1) := by decide +kernel
theorem dX4_gather_47 : decode cX4_gather 47 = .ok (.dup, 1) := by decide +kernel
theorem dX4_gather_48 : decode cX4_gather 48 = .ok (.getfield 61, 3) := by decide +kernel
theorem dX4_gather_51 : decode cX4_gather 51 = .ok (.iconst 1, 1) := by decide +kernel
theorem dX4_gather_52 : decode cX4_gather 52 = .ok (.iadd, 1) := by decide +kernel
theorem dX4_gather_53 : decode cX4_gather 53 = .ok (.putfield 61, 3) := by decide +kernel
theorem dX4_gather_56 : decode cX4_gather 56 = .ok (.iinc 2 1, 3) := by decide +kernel
theorem dX4_gather_59 : decode cX4_gather 59 = .ok (.goto (-52), 3) := by decide +kernel
theorem dX4_gather_62 : decode cX4_gather 62 = .ok (.return_, 1) := by decide +kernel
set_option maxHeartbeats 4000000 in
set_option maxRecDepth 100000 in
theorem c_X4_gather (l : Launch) (D : va_G) (tys : List (ClassId × FieldType)) (base : Nat) (G : iv_G) (h0 : Nat) (g_h0 : Nat → Int32) (r_h0 : Nat → Nat) (a_h0 : G h0 = some (4, g_h0, r_h0)) (x_0 : Int32) (i_x_0 : iv_R (-2147483648) 2147483647 x_0) : Met l yX4_gather (Cond.code yX4_gather cX4_gather 3 none :: iv_W0) ({ frames := 0, cells := 0, slots := 0, locals := 0 }) (iv_Pc iv_sh D classes tys base G [.ref h0, .int x_0]) (iv_Qv iv_sh D classes tys base (fun G' => iv_Md [4, 32] G G')) 0 0 (iv_A base) := by
  refine iv_head (by decide) (Nat.le_of_ble_eq_true rfl) ?_
  intro p e s m args below meth c ls X hr hlocks hname hB hl
  have X := X
  have hx := X.1.1
  have hb := X.1.2.1
  have hM : iv_Md [4, 32] G G := iv_Md.rf
  have hl : lv_has ls 3 [(0, .ref h0), (1, .int x_0)] := hl
  refine lv_aload_n hx hb dX4_gather_0 rfl (lv_at hl 0 rfl) ?_
  refine lv_iconst (v := 0) hx hb dX4_gather_1 (by decide) ?_
  refine iv_puti X ft_X4 hB a_h0 sh_4 3 (by decide) rfl rfl k_fl_X4_61 rfl (q_0.wk (by decide)) rfl rfl dX4_gather_2 (fun H locs hB => ?_)
  have hm := iv_Md.put (x := 0) a_h0 (j := 3) (by decide) (by decide)
  have h9 := iv_up_eq (G := G) (a := h0) (k := (4, upd g_h0 3 0, r_h0))
  generalize iv_up G h0 _ = G1 at hB hm h9
  have hM := hM.stp hm (by decide)
  generalize hgn_g2 : upd g_h0 _ _ = g2 at h9
  have a_h0 := h9
  have e9_g2 : 0 = g2 3 := by rw [← hgn_g2]; simp [upd]
  refine lv_iconst (v := 0) hx hb dX4_gather_5 (by decide) ?_
  refine lv_istore_n (lv' := [(2, .int 0), (0, .ref h0), (1, .int x_0)]) hx hb dX4_gather_6 rfl hl (by decide) rfl (fun ls hl => ?_)
  have L_7 : ∀ (n_7 : Nat) (G6 : iv_G) (hM : iv_Md [4, 32] G G6) (H : Heap) (locs : List Loc) (hB : iv_B iv_sh D classes tys base G6 s.heap H locs) (g4 : Nat → Int32) (r5 : Nat → Nat) (a_h0 : G6 h0 = some (4, g4, r5)) (x3 : Int32) (i_x3 : iv_R 0 10 x3) (hn : (11 - x3.toInt).toNat < n_7) (ls : Array Slot) (hl : lv_has ls 3 [(2, .int x3), (0, .ref h0), (1, .int x_0)]), W p l e ({ frames := 0, cells := 0, slots := 0, locals := 0 } : Room) s m args below meth c H locs 0 0 (MQ below (iv_Qv iv_sh D classes tys base (fun G' => iv_Md [4, 32] G G')) args s 0 0 (iv_A base)) (F0 m 7 ls []) := by
    intro n_7
    induction n_7 with
    | zero => intro G6 hM H locs hB g4 r5 a_h0 x3 i_x3 hn ls hl; exact absurd hn (Nat.not_lt_zero _)
    | succ n_7 ih_7 =>
      intro G6 hM H locs hB g4 r5 a_h0 x3 i_x3 hn ls hl
      refine lv_iload_n hx hb dX4_gather_7 rfl (lv_at hl 0 rfl) ?_
      refine lv_aload_n hx hb dX4_gather_8 rfl (lv_at hl 1 rfl) ?_
      refine iv_getr X ft_X4 hB a_h0 sh_4 0 (by decide) rfl k_fl_X4_21 dX4_gather_9 (fun b7 g_b7 r_b7 e_b7 a_b7 => ?_)
      refine iv_geti X ft_X5 hB a_b7 sh_5 1 (by decide) rfl k_fl_X4_33 dX4_gather_12 (fun x8 e_x8 i_x8 => ?_)
      refine lv_icmp_ge (tgt := 62) hx hb dX4_gather_15 (by decide) (fun c9 => ?_) (fun c9 => ?_)
      · skip
        exact iv_vret X hr hlocks hB hM dX4_gather_62
      · skip
        have i9_x3 : iv_R 0 9 x3 := (i_x3.cutHi (n := 9) (iv_lt_r (iv_nle c9) i_x8 (by decide)))
        have i10_x8 : iv_R 1 10 x8 := (i_x8.cutLo (n := 1) (iv_lt_l (iv_nle c9) i_x3 (by decide)))
        refine lv_iload_n hx hb dX4_gather_18 rfl (lv_at hl 2 rfl) ?_
        refine lv_iload_n hx hb dX4_gather_19 rfl (lv_at hl 0 rfl) ?_
        refine lv_iushr hx hb dX4_gather_20 rfl ?_
        refine lv_topi (fun x12 e_x12 => ?_)
        have i_x12 := iv_R.all x12
        refine lv_iconst (v := 1) hx hb dX4_gather_21 (by decide) ?_
        refine iv_iand_r hx hb q_1 (by decide) dX4_gather_22 (fun x13 e_x13 i_x13 => ?_)
        refine lv_iconst (v := 1) hx hb dX4_gather_23 (by decide) ?_
        refine lv_icmp_ne (tgt := 56) hx hb dX4_gather_24 (by decide) (fun c14 => ?_) (fun c14 => ?_)
        · skip
          have i14_x13 : iv_R 0 0 x13 := iv_ne_hi c14 i_x13 q_1 (by decide)
          refine iv_iinc hx hb i9_x3 (lo := 1) (hi := 10) (by decide) dX4_gather_56 hl (k := 0) rfl (by decide) (fun x16 ls e_x16 i_x16 hl => ?_)
          have hl : lv_has ls 3 [(2, .int x16), (0, .ref h0), (1, .int x_0)] := hl
          refine lv_goto (tgt := 7) hx hb dX4_gather_59 (by decide) ?_
          exact ih_7 G6 hM _ _ hB g4 r5 a_h0 x16 (i_x16.wk (by decide)) (iv_mup (c := 1) i_x3 (by decide) (by decide) (by omega) hn) _ (lv_sub hl [0, 1, 2] rfl)
        · skip
          have i16_x13 : iv_R 1 1 x13 := (i_x13.cutLo (n := 1) (iv_eq_r c14 q_1).1)
          refine lv_aload_n hx hb dX4_gather_27 rfl (lv_at hl 1 rfl) ?_
          refine iv_geti X ft_X4 hB a_h0 sh_4 3 (by decide) rfl k_fl_X4_61 dX4_gather_28 (fun x18 e_x18 i_x18 => ?_)
          refine lv_bipush (v := 8) hx hb dX4_gather_31 (by decide) ?_
          refine lv_icmp_ge (tgt := 56) hx hb dX4_gather_33 (by decide) (fun c19 => ?_) (fun c19 => ?_)
          · skip
            have i19_x18 : iv_R 8 8 x18 := (i_x18.cutLo (n := 8) (iv_le_l c19 q_8))
            refine iv_iinc hx hb i9_x3 (lo := 1) (hi := 10) (by decide) dX4_gather_56 hl (k := 0) rfl (by decide) (fun x21 ls e_x21 i_x21 hl => ?_)
            have hl : lv_has ls 3 [(2, .int x21), (0, .ref h0), (1, .int x_0)] := hl
            refine lv_goto (tgt := 7) hx hb dX4_gather_59 (by decide) ?_
            exact ih_7 G6 hM _ _ hB g4 r5 a_h0 x21 (i_x21.wk (by decide)) (iv_mup (c := 1) i_x3 (by decide) (by decide) (by omega) hn) _ (lv_sub hl [0, 1, 2] rfl)
          · skip
            have i21_x18 : iv_R 0 7 x18 := (i_x18.cutHi (n := 7) (iv_lt_r (iv_nle c19) q_8 (by decide)))
            refine lv_aload_n hx hb dX4_gather_36 rfl (lv_at hl 1 rfl) ?_
            refine iv_getr X ft_X4 hB a_h0 sh_4 2 (by decide) rfl k_fl_X4_15 dX4_gather_37 (fun b23 g_b23 r_b23 e_b23 a_b23 => ?_)
            refine lv_aload_n hx hb dX4_gather_40 rfl (lv_at hl 1 rfl) ?_
            refine iv_geti0 X ft_X4 hB a_h0 sh_4 3 (by decide) rfl k_fl_X4_61 dX4_gather_41 e_x18 ?_
            refine lv_iload_n hx hb dX4_gather_44 rfl (lv_at hl 0 rfl) ?_
            refine iv_ast X hB a_b23 sh_32 (iv_in i21_x18 (by decide)) i9_x3 dX4_gather_45 (fun H locs hB => ?_)
            have hm := iv_Md.ast (j := x18.toNatClampNeg) (x := x3) a_b23 rfl (by decide)
            have h9 := iv_up_eq (G := G6) (a := b23) (k := (32, upd g_b23 x18.toNatClampNeg x3, r_b23))
            generalize iv_up G6 b23 _ = G24 at hB hm h9
            have hM := hM.stp hm (by decide)
            have a_h0 := hm.at a_h0 (by decide)
            refine lv_aload_n hx hb dX4_gather_46 rfl (lv_at hl 1 rfl) ?_
            refine lv_dup hx hb dX4_gather_47 rfl ?_
            refine iv_geti0 X ft_X4 hB a_h0 sh_4 3 (by decide) rfl k_fl_X4_61 dX4_gather_48 e_x18 ?_
            refine lv_iconst (v := 1) hx hb dX4_gather_51 (by decide) ?_
            refine iv_iadd hx hb i21_x18 q_1 (lo := 1) (hi := 8) (by decide) dX4_gather_52 (fun x26 e_x26 i_x26 => ?_)
            refine iv_puti X ft_X4 hB a_h0 sh_4 3 (by decide) rfl rfl k_fl_X4_61 rfl (i_x26.wk (by decide)) rfl rfl dX4_gather_53 (fun H locs hB => ?_)
            have hm := iv_Md.put (x := x26) a_h0 (j := 3) (by decide) (by decide)
            have h9 := iv_up_eq (G := G24) (a := h0) (k := (4, upd g4 3 x26, r5))
            generalize iv_up G24 h0 _ = G27 at hB hm h9
            have hM := hM.stp hm (by decide)
            generalize hgn_g28 : upd g4 _ _ = g28 at h9
            have a_h0 := h9
            have e9_g28 : x26 = g28 3 := by rw [← hgn_g28]; simp [upd]
            refine iv_iinc hx hb i9_x3 (lo := 1) (hi := 10) (by decide) dX4_gather_56 hl (k := 0) rfl (by decide) (fun x29 ls e_x29 i_x29 hl => ?_)
            have hl : lv_has ls 3 [(2, .int x29), (0, .ref h0), (1, .int x_0)] := hl
            refine lv_goto (tgt := 7) hx hb dX4_gather_59 (by decide) ?_
            exact ih_7 G27 hM _ _ hB g28 r5 a_h0 x29 (i_x29.wk (by decide)) (iv_mup (c := 1) i_x3 (by decide) (by decide) (by omega) hn) _ (lv_sub hl [0, 1, 2] rfl)
  exact L_7 _ G1 hM _ _ hB g2 r_h0 a_h0 0 (q_0.wk (by decide)) (Nat.lt_succ_self _) _ (lv_sub hl [0, 1, 2] rfl)
theorem dX5_distance_0 : decode cX5_distance 0 = .ok (.iload_n 1, 1) := by decide +kernel
theorem dX5_distance_1 : decode cX5_distance 1 = .ok (.invokestatic 106, 3) := by decide +kernel
theorem dX5_distance_4 : decode cX5_distance 4 = .ok (.ifCond .eq 23, 3) := by decide +kernel
theorem dX5_distance_7 : decode cX5_distance 7 = .ok (.iload_n 2, 1) := by decide +kernel
theorem dX5_distance_8 : decode cX5_distance 8 = .ok (.invokestatic 106, 3) := by decide +kernel
theorem dX5_distance_11 : decode cX5_distance 11 = .ok (.ifCond .eq 16, 3) := by decide +kernel
theorem dX5_distance_14 : decode cX5_distance 14 = .ok (.aload_n 0, 1) := by decide +kernel
theorem dX5_distance_15 : decode cX5_distance 15 = .ok (.getfield 17, 3) := by decide +kernel
theorem dX5_distance_18 : decode cX5_distance 18 = .ok (.iload_n 1, 1) := by decide +kernel
theorem dX5_distance_19 : decode cX5_distance 19 = .ok (.iconst 4, 1) := by decide +kernel
theorem dX5_distance_20 : decode cX5_distance 20 = .ok (.imul, 1) := by decide +kernel
theorem dX5_distance_21 : decode cX5_distance 21 = .ok (.iload_n 2, 1) := by decide +kernel
theorem dX5_distance_22 : decode cX5_distance 22 = .ok (.iadd, 1) := by decide +kernel
theorem dX5_distance_23 : decode cX5_distance 23 = .ok (.iaload, 1) := by decide +kernel
theorem dX5_distance_24 : decode cX5_distance 24 = .ok (.goto 4, 3) := by decide +kernel
theorem dX5_distance_27 : decode cX5_distance 27 = .ok (.iconst 0, 1) := by decide +kernel
theorem dX5_distance_28 : decode cX5_distance 28 = .ok (.ireturn, 1) := by decide +kernel
set_option maxHeartbeats 4000000 in
set_option maxRecDepth 100000 in
theorem c_X5_distance (l : Launch) (D : va_G) (tys : List (ClassId × FieldType)) (base : Nat) (G : iv_G) (h0 : Nat) (g_h0 : Nat → Int32) (r_h0 : Nat → Nat) (a_h0 : G h0 = some (5, g_h0, r_h0)) (x_0 : Int32) (i_x_0 : iv_R (-2147483648) 2147483647 x_0) (x_1 : Int32) (i_x_1 : iv_R (-2147483648) 2147483647 x_1) : Met l yX5_distance (Cond.code yX5_distance cX5_distance 3 (some .int) :: iv_W0) ({ frames := 2, cells := 0, slots := 0, locals := 42 }) (iv_Pc iv_sh D classes tys base G [.ref h0, .int x_0, .int x_1]) (iv_Qi iv_sh D classes tys base (fun v G' => G = G' ∧ iv_R (-2147483648) 2147483647 v)) 0 0 (iv_A base) := by
  refine iv_head (by decide) (Nat.le_of_ble_eq_true rfl) ?_
  intro p e s m args below meth c ls X hr hlocks hname hB hl
  have X := X
  have hx := X.1.1
  have hb := X.1.2.1
  have hl : lv_has ls 3 [(0, .ref h0), (1, .int x_0), (2, .int x_1)] := hl
  refine lv_iload_n hx hb dX5_distance_0 rfl (lv_at hl 1 rfl) ?_
  refine iv_cSNi X k_good k_mf_X11_isTower k_st_X11_isTower (k_mn_X5_106 X.2.2) hB (As := [.int x_0]) (c_X11_isTower l D tys base G x_0 i_x_0) ⟨rfl, rfl⟩ ⟨Nat.le_of_ble_eq_true rfl, Nat.le_of_ble_eq_true rfl⟩ ⟨Nat.le_of_ble_eq_true rfl, Nat.le_of_ble_eq_true rfl⟩ rfl rfl hl.1 (Nat.le_of_ble_eq_true rfl) dX5_distance_1 (fun x1 G9 H locs hq hB => ?_)
  obtain ⟨rfl, i_x1, hp2⟩ := hq
  refine lv_if_eq (tgt := 27) hx hb dX5_distance_4 (by decide) (fun c3 => ?_) (fun c3 => ?_)
  · skip
    have i3_x1 : iv_R 0 0 x1 := (i_x1.cutHi (n := 0) (iv_eq_r c3 q_0).2)
    refine lv_iconst (v := 0) hx hb dX5_distance_27 (by decide) ?_
    exact iv_iret X hr hlocks hB ⟨rfl, (q_0.wk (by decide))⟩ dX5_distance_28
  · skip
    have i4_x1 : iv_R 1 1 x1 := iv_ne_lo c3 i_x1 q_0 (by decide)
    have i5_x_0 : iv_R 0 3 x_0 := ((i_x_0.cutLo (n := 0) (hp2 c3).1).cutHi (n := 3) (hp2 c3).2)
    refine lv_iload_n hx hb dX5_distance_7 rfl (lv_at hl 2 rfl) ?_
    refine iv_cSNi X k_good k_mf_X11_isTower k_st_X11_isTower (k_mn_X5_106 X.2.2) hB (As := [.int x_1]) (c_X11_isTower l D tys base G x_1 i_x_1) ⟨rfl, rfl⟩ ⟨Nat.le_of_ble_eq_true rfl, Nat.le_of_ble_eq_true rfl⟩ ⟨Nat.le_of_ble_eq_true rfl, Nat.le_of_ble_eq_true rfl⟩ rfl rfl hl.1 (Nat.le_of_ble_eq_true rfl) dX5_distance_8 (fun x7 G9 H locs hq hB => ?_)
    obtain ⟨rfl, i_x7, hp8⟩ := hq
    refine lv_if_eq (tgt := 27) hx hb dX5_distance_11 (by decide) (fun c9 => ?_) (fun c9 => ?_)
    · skip
      have i9_x7 : iv_R 0 0 x7 := (i_x7.cutHi (n := 0) (iv_eq_r c9 q_0).2)
      refine lv_iconst (v := 0) hx hb dX5_distance_27 (by decide) ?_
      exact iv_iret X hr hlocks hB ⟨rfl, (q_0.wk (by decide))⟩ dX5_distance_28
    · skip
      have i10_x7 : iv_R 1 1 x7 := iv_ne_lo c9 i_x7 q_0 (by decide)
      have i11_x_1 : iv_R 0 3 x_1 := ((i_x_1.cutLo (n := 0) (hp8 c9).1).cutHi (n := 3) (hp8 c9).2)
      refine lv_aload_n hx hb dX5_distance_14 rfl (lv_at hl 0 rfl) ?_
      refine iv_getr X ft_X5 hB a_h0 sh_5 2 (by decide) rfl k_fl_X5_17 dX5_distance_15 (fun b13 g_b13 r_b13 e_b13 a_b13 => ?_)
      refine lv_iload_n hx hb dX5_distance_18 rfl (lv_at hl 1 rfl) ?_
      refine lv_iconst (v := 4) hx hb dX5_distance_19 (by decide) ?_
      refine iv_imul hx hb i5_x_0 q_4 (lo := 0) (hi := 12) (by decide) dX5_distance_20 (fun x14 e_x14 i_x14 => ?_)
      refine lv_iload_n hx hb dX5_distance_21 rfl (lv_at hl 2 rfl) ?_
      refine iv_iadd hx hb i_x14 i11_x_1 (lo := 0) (hi := 15) (by decide) dX5_distance_22 (fun x15 e_x15 i_x15 => ?_)
      refine iv_ald X hB a_b13 sh_20 (iv_in i_x15 (by decide)) dX5_distance_23 (fun x16 e_x16 i_x16 => ?_)
      refine lv_goto (tgt := 28) hx hb dX5_distance_24 (by decide) ?_
      exact iv_iret X hr hlocks hB ⟨rfl, i_x16⟩ dX5_distance_28
theorem dX5_draw_0 : decode cX5_draw 0 = .ok (.aload_n 0, 1) := by decide +kernel
theorem dX5_draw_1 : decode cX5_draw 1 = .ok (.ldc 117, 2) := by decide +kernel
theorem dX5_draw_3 : decode cX5_draw 3 = .ok (.aload_n 0, 1) := by decide +kernel
theorem dX5_draw_4 : decode cX5_draw 4 = .ok (.getfield 79, 3) := by decide +kernel
theorem dX5_draw_7 : decode cX5_draw 7 = .ok (.imul, 1) := by decide +kernel
theorem dX5_draw_8 : decode cX5_draw 8 = .ok (.ldc 118, 2) := by decide +kernel
theorem dX5_draw_10 : decode cX5_draw 10 = .ok (.iadd, 1) := by decide +kernel
theorem dX5_draw_11 : decode cX5_draw 11 = .ok (.putfield 79, 3) := by decide +kernel
theorem dX5_draw_14 : decode cX5_draw 14 = .ok (.iload_n 1, 1) := by decide +kernel
theorem dX5_draw_15 : decode cX5_draw 15 = .ok (.ifCond .gt 7, 3) := by decide +kernel
theorem dX5_draw_18 : decode cX5_draw 18 = .ok (.iconst 0, 1) := by decide +kernel
theorem dX5_draw_19 : decode cX5_draw 19 = .ok (.goto 12, 3) := by decide +kernel
theorem dX5_draw_22 : decode cX5_draw 22 = .ok (.aload_n 0, 1) := by decide +kernel
theorem dX5_draw_23 : decode cX5_draw 23 = .ok (.getfield 79, 3) := by decide +kernel
theorem dX5_draw_26 : decode cX5_draw 26 = .ok (.bipush 8, 2) := by decide +kernel
theorem dX5_draw_28 : decode cX5_draw 28 = .ok (.iushr, 1) := by decide +kernel
theorem dX5_draw_29 : decode cX5_draw 29 = .ok (.iload_n 1, 1) := by decide +kernel
theorem dX5_draw_30 : decode cX5_draw 30 = .ok (.irem, 1) := by decide +kernel
theorem dX5_draw_31 : decode cX5_draw 31 = .ok (.ireturn, 1) := by decide +kernel
set_option maxHeartbeats 4000000 in
set_option maxRecDepth 100000 in
theorem c_X5_draw (l : Launch) (D : va_G) (tys : List (ClassId × FieldType)) (base : Nat) (G : iv_G) (h0 : Nat) (g_h0 : Nat → Int32) (r_h0 : Nat → Nat) (a_h0 : G h0 = some (5, g_h0, r_h0)) (x_0 : Int32) (i_x_0 : iv_R 1000 1000 x_0) : Met l yX5_draw (Cond.code yX5_draw cX5_draw 2 (some .int) :: iv_W0) ({ frames := 0, cells := 0, slots := 0, locals := 0 }) (iv_Pc iv_sh D classes tys base G [.ref h0, .int x_0]) (iv_Qi iv_sh D classes tys base (fun v G' => iv_Md [5] G G' ∧ iv_R (-999) 999 v)) 0 0 (iv_A base) := by
  refine iv_head (by decide) (Nat.le_of_ble_eq_true rfl) ?_
  intro p e s m args below meth c ls X hr hlocks hname hB hl
  have X := X
  have hx := X.1.1
  have hb := X.1.2.1
  have hM : iv_Md [5] G G := iv_Md.rf
  have hl : lv_has ls 2 [(0, .ref h0), (1, .int x_0)] := hl
  refine lv_aload_n hx hb dX5_draw_0 rfl (lv_at hl 0 rfl) ?_
  refine lv_ldc (v := 1664525) hx hb X.1.2.2.2.1 (X.1.2.2.2.2 _ k_ct_X5_117) dX5_draw_1 ?_
  refine lv_aload_n hx hb dX5_draw_3 rfl (lv_at hl 0 rfl) ?_
  refine iv_geti X ft_X5 hB a_h0 sh_5 7 (by decide) rfl k_fl_X5_79 dX5_draw_4 (fun x1 e_x1 i_x1 => ?_)
  refine lv_imul hx hb dX5_draw_7 ?_
  refine lv_topi (fun x2 e_x2 => ?_)
  have i_x2 := iv_R.all x2
  refine lv_ldc (v := 1013904223) hx hb X.1.2.2.2.1 (X.1.2.2.2.2 _ k_ct_X5_118) dX5_draw_8 ?_
  refine lv_iadd hx hb dX5_draw_10 ?_
  refine lv_topi (fun x3 e_x3 => ?_)
  have i_x3 := iv_R.all x3
  refine iv_puti X ft_X5 hB a_h0 sh_5 7 (by decide) rfl rfl k_fl_X5_79 rfl i_x3 rfl rfl dX5_draw_11 (fun H locs hB => ?_)
  have hm := iv_Md.put (x := x3) a_h0 (j := 7) (by decide) (by decide)
  have h9 := iv_up_eq (G := G) (a := h0) (k := (5, upd g_h0 7 x3, r_h0))
  generalize iv_up G h0 _ = G4 at hB hm h9
  have hM := hM.stp hm (by decide)
  generalize hgn_g5 : upd g_h0 _ _ = g5 at h9
  have a_h0 := h9
  have e9_g5 : x3 = g5 7 := by rw [← hgn_g5]; simp [upd]
  refine lv_iload_n hx hb dX5_draw_14 rfl (lv_at hl 1 rfl) ?_
  refine lv_if_gt (tgt := 22) hx hb dX5_draw_15 (by decide) (fun c6 => ?_) (fun c6 => ?_)
  · skip
    refine lv_aload_n hx hb dX5_draw_22 rfl (lv_at hl 0 rfl) ?_
    refine iv_geti0 X ft_X5 hB a_h0 sh_5 7 (by decide) rfl k_fl_X5_79 dX5_draw_23 e9_g5 ?_
    refine lv_bipush (v := 8) hx hb dX5_draw_26 (by decide) ?_
    refine lv_iushr hx hb dX5_draw_28 rfl ?_
    refine lv_topi (fun x7 e_x7 => ?_)
    have i_x7 := iv_R.all x7
    refine lv_iload_n hx hb dX5_draw_29 rfl (lv_at hl 1 rfl) ?_
    refine iv_irem hx hb i_x7 i_x_0 (lo := (-999)) (hi := 999) (by decide) dX5_draw_30 (fun x8 e_x8 i_x8 => ?_)
    exact iv_iret X hr hlocks hB ⟨hM, i_x8⟩ dX5_draw_31
  · skip
    exact (i_x_0.cutHi (n := 0) (iv_le_r (iv_nlt c6) q_0)).no (by decide)
theorem dX8_isFull_0 : decode cX8_isFull 0 = .ok (.aload_n 0, 1) := by decide +kernel
theorem dX8_isFull_1 : decode cX8_isFull 1 = .ok (.getfield 19, 3) := by decide +kernel
theorem dX8_isFull_4 : decode cX8_isFull 4 = .ok (.iconst 1, 1) := by decide +kernel
theorem dX8_isFull_5 : decode cX8_isFull 5 = .ok (.iadd, 1) := by decide +kernel
theorem dX8_isFull_6 : decode cX8_isFull 6 = .ok (.aload_n 0, 1) := by decide +kernel
theorem dX8_isFull_7 : decode cX8_isFull 7 = .ok (.getfield 9, 3) := by decide +kernel
theorem dX8_isFull_10 : decode cX8_isFull 10 = .ok (.imul, 1) := by decide +kernel
theorem dX8_isFull_11 : decode cX8_isFull 11 = .ok (.aload_n 0, 1) := by decide +kernel
theorem dX8_isFull_12 : decode cX8_isFull 12 = .ok (.getfield 15, 3) := by decide +kernel
theorem dX8_isFull_15 : decode cX8_isFull 15 = .ok (.arraylength, 1) := by decide +kernel
theorem dX8_isFull_16 : decode cX8_isFull 16 = .ok (.if_icmp .le 7, 3) := by decide +kernel
theorem dX8_isFull_19 : decode cX8_isFull 19 = .ok (.iconst 1, 1) := by decide +kernel
theorem dX8_isFull_20 : decode cX8_isFull 20 = .ok (.goto 4, 3) := by decide +kernel
theorem dX8_isFull_23 : decode cX8_isFull 23 = .ok (.iconst 0, 1) := by decide +kernel
theorem dX8_isFull_24 : decode cX8_isFull 24 = .ok (.ireturn, 1) := by decide +kernel
set_option maxHeartbeats 4000000 in
set_option maxRecDepth 100000 in
theorem c_X8_isFull_13 (l : Launch) (D : va_G) (tys : List (ClassId × FieldType)) (base : Nat) (G : iv_G) (h0 : Nat) (g_h0 : Nat → Int32) (r_h0 : Nat → Nat) (a_h0 : G h0 = some (13, g_h0, r_h0)) : Met l yX8_isFull (Cond.code yX8_isFull cX8_isFull 1 (some .boolean) :: iv_W0) ({ frames := 0, cells := 0, slots := 0, locals := 0 }) (iv_Pc iv_sh D classes tys base G [.ref h0]) (iv_Qi iv_sh D classes tys base (fun v G' => G = G' ∧ iv_R 0 1 v)) 0 0 (iv_A base) := by
  refine iv_head (by decide) (Nat.le_of_ble_eq_true rfl) ?_
  intro p e s m args below meth c ls X hr hlocks hname hB hl
  have X := X
  have hx := X.1.1
  have hb := X.1.2.1
  have hl : lv_has ls 1 [(0, .ref h0)] := hl
  refine lv_aload_n hx hb dX8_isFull_0 rfl (lv_at hl 0 rfl) ?_
  refine iv_geti X ft_X8 hB a_h0 sh_13 2 (by decide) rfl k_fl_X8_19 dX8_isFull_1 (fun x1 e_x1 i_x1 => ?_)
  refine lv_iconst (v := 1) hx hb dX8_isFull_4 (by decide) ?_
  refine iv_iadd hx hb i_x1 q_1 (lo := 1) (hi := 121) (by decide) dX8_isFull_5 (fun x2 e_x2 i_x2 => ?_)
  refine lv_aload_n hx hb dX8_isFull_6 rfl (lv_at hl 0 rfl) ?_
  refine iv_geti X ft_X8 hB a_h0 sh_13 0 (by decide) rfl k_fl_X8_9 dX8_isFull_7 (fun x3 e_x3 i_x3 => ?_)
  refine iv_imul hx hb i_x2 i_x3 (lo := 4) (hi := 484) (by decide) dX8_isFull_10 (fun x4 e_x4 i_x4 => ?_)
  refine lv_aload_n hx hb dX8_isFull_11 rfl (lv_at hl 0 rfl) ?_
  refine iv_getr X ft_X8 hB a_h0 sh_13 1 (by decide) rfl k_fl_X8_15 dX8_isFull_12 (fun b5 g_b5 r_b5 e_b5 a_b5 => ?_)
  refine iv_alen X hB a_b5 sh_23 (v := 480) (by decide) dX8_isFull_15 ?_
  refine lv_icmp_le (tgt := 23) hx hb dX8_isFull_16 (by decide) (fun c6 => ?_) (fun c6 => ?_)
  · skip
    have i6_x4 : iv_R 4 480 x4 := (i_x4.cutHi (n := 480) (iv_le_r c6 q_480))
    refine lv_iconst (v := 0) hx hb dX8_isFull_23 (by decide) ?_
    exact iv_zret X hr hlocks hB (q_0.wk (by decide)) ⟨rfl, (q_0.wk (by decide))⟩ dX8_isFull_24
  · skip
    have i7_x4 : iv_R 481 484 x4 := (i_x4.cutLo (n := 481) (iv_lt_l (iv_nle c6) q_480 (by decide)))
    refine lv_iconst (v := 1) hx hb dX8_isFull_19 (by decide) ?_
    refine lv_goto (tgt := 24) hx hb dX8_isFull_20 (by decide) ?_
    exact iv_zret X hr hlocks hB (q_1.wk (by decide)) ⟨rfl, (q_1.wk (by decide))⟩ dX8_isFull_24
set_option maxHeartbeats 4000000 in
set_option maxRecDepth 100000 in
theorem c_X8_isFull_14 (l : Launch) (D : va_G) (tys : List (ClassId × FieldType)) (base : Nat) (G : iv_G) (h0 : Nat) (g_h0 : Nat → Int32) (r_h0 : Nat → Nat) (a_h0 : G h0 = some (14, g_h0, r_h0)) : Met l yX8_isFull (Cond.code yX8_isFull cX8_isFull 1 (some .boolean) :: iv_W0) ({ frames := 0, cells := 0, slots := 0, locals := 0 }) (iv_Pc iv_sh D classes tys base G [.ref h0]) (iv_Qi iv_sh D classes tys base (fun v G' => G = G' ∧ iv_R 0 1 v)) 0 0 (iv_A base) := by
  refine iv_head (by decide) (Nat.le_of_ble_eq_true rfl) ?_
  intro p e s m args below meth c ls X hr hlocks hname hB hl
  have X := X
  have hx := X.1.1
  have hb := X.1.2.1
  have hl : lv_has ls 1 [(0, .ref h0)] := hl
  refine lv_aload_n hx hb dX8_isFull_0 rfl (lv_at hl 0 rfl) ?_
  refine iv_geti X ft_X8 hB a_h0 sh_14 2 (by decide) rfl k_fl_X8_19 dX8_isFull_1 (fun x1 e_x1 i_x1 => ?_)
  refine lv_iconst (v := 1) hx hb dX8_isFull_4 (by decide) ?_
  refine iv_iadd hx hb i_x1 q_1 (lo := 1) (hi := 13) (by decide) dX8_isFull_5 (fun x2 e_x2 i_x2 => ?_)
  refine lv_aload_n hx hb dX8_isFull_6 rfl (lv_at hl 0 rfl) ?_
  refine iv_geti X ft_X8 hB a_h0 sh_14 0 (by decide) rfl k_fl_X8_9 dX8_isFull_7 (fun x3 e_x3 i_x3 => ?_)
  refine iv_imul hx hb i_x2 i_x3 (lo := 3) (hi := 39) (by decide) dX8_isFull_10 (fun x4 e_x4 i_x4 => ?_)
  refine lv_aload_n hx hb dX8_isFull_11 rfl (lv_at hl 0 rfl) ?_
  refine iv_getr X ft_X8 hB a_h0 sh_14 1 (by decide) rfl k_fl_X8_15 dX8_isFull_12 (fun b5 g_b5 r_b5 e_b5 a_b5 => ?_)
  refine iv_alen X hB a_b5 sh_24 (v := 36) (by decide) dX8_isFull_15 ?_
  refine lv_icmp_le (tgt := 23) hx hb dX8_isFull_16 (by decide) (fun c6 => ?_) (fun c6 => ?_)
  · skip
    have i6_x4 : iv_R 3 36 x4 := (i_x4.cutHi (n := 36) (iv_le_r c6 q_36))
    refine lv_iconst (v := 0) hx hb dX8_isFull_23 (by decide) ?_
    exact iv_zret X hr hlocks hB (q_0.wk (by decide)) ⟨rfl, (q_0.wk (by decide))⟩ dX8_isFull_24
  · skip
    have i7_x4 : iv_R 37 39 x4 := (i_x4.cutLo (n := 37) (iv_lt_l (iv_nle c6) q_36 (by decide)))
    refine lv_iconst (v := 1) hx hb dX8_isFull_19 (by decide) ?_
    refine lv_goto (tgt := 24) hx hb dX8_isFull_20 (by decide) ?_
    exact iv_zret X hr hlocks hB (q_1.wk (by decide)) ⟨rfl, (q_1.wk (by decide))⟩ dX8_isFull_24
