theorem dX12_apart_0 : decode cX12_apart 0 = .ok (.iload_n 0, 1) := by decide +kernel
theorem dX12_apart_1 : decode cX12_apart 1 = .ok (.iload_n 1, 1) := by decide +kernel
theorem dX12_apart_2 : decode cX12_apart 2 = .ok (.if_icmp .ge 9, 3) := by decide +kernel
theorem dX12_apart_5 : decode cX12_apart 5 = .ok (.iload_n 1, 1) := by decide +kernel
theorem dX12_apart_6 : decode cX12_apart 6 = .ok (.iload_n 0, 1) := by decide +kernel
theorem dX12_apart_7 : decode cX12_apart 7 = .ok (.isub, 1) := by decide +kernel
theorem dX12_apart_8 : decode cX12_apart 8 = .ok (.goto 6, 3) := by decide +kernel
theorem dX12_apart_11 : decode cX12_apart 11 = .ok (.iload_n 0, 1) := by decide +kernel
theorem dX12_apart_12 : decode cX12_apart 12 = .ok (.iload_n 1, 1) := by decide +kernel
theorem dX12_apart_13 : decode cX12_apart 13 = .ok (.isub, 1) := by decide +kernel
theorem dX12_apart_14 : decode cX12_apart 14 = .ok (.ireturn, 1) := by decide +kernel
set_option maxHeartbeats 4000000 in
set_option maxRecDepth 100000 in
theorem c_X12_apart (l : Launch) (D : va_G) (tys : List (ClassId × FieldType)) (base : Nat) (G : iv_G) (x_0 : Int32) (i_x_0 : iv_R 0 47 x_0) (x_1 : Int32) (i_x_1 : iv_R 0 47 x_1) : Met l yX12_apart (Cond.code yX12_apart cX12_apart 2 (some .int) :: iv_W0) ({ frames := 0, cells := 0, slots := 0, locals := 0 }) (iv_Pc iv_sh D classes tys base G [.int x_0, .int x_1]) (iv_Qi iv_sh D classes tys base (fun v G' => G = G' ∧ iv_R (-47) 47 v)) 0 0 (iv_A base) := by
  refine iv_head (by decide) (Nat.le_of_ble_eq_true rfl) ?_
  intro p e s m args below meth c ls X hr hlocks hname hB hl
  have X := X
  have hx := X.1.1
  have hb := X.1.2.1
  have hl : lv_has ls 2 [(0, .int x_0), (1, .int x_1)] := hl
  refine lv_iload_n hx hb dX12_apart_0 rfl (lv_at hl 0 rfl) ?_
  refine lv_iload_n hx hb dX12_apart_1 rfl (lv_at hl 1 rfl) ?_
  refine lv_icmp_ge (tgt := 11) hx hb dX12_apart_2 (by decide) (fun c1 => ?_) (fun c1 => ?_)
  · skip
    refine lv_iload_n hx hb dX12_apart_11 rfl (lv_at hl 0 rfl) ?_
    refine lv_iload_n hx hb dX12_apart_12 rfl (lv_at hl 1 rfl) ?_
    refine iv_isub hx hb i_x_0 i_x_1 (lo := (-47)) (hi := 47) (by decide) dX12_apart_13 (fun x2 e_x2 i_x2 => ?_)
    exact iv_iret X hr hlocks hB ⟨rfl, i_x2⟩ dX12_apart_14
  · skip
    have i2_x_0 : iv_R 0 46 x_0 := (i_x_0.cutHi (n := 46) (iv_lt_r (iv_nle c1) i_x_1 (by decide)))
    have i3_x_1 : iv_R 1 47 x_1 := (i_x_1.cutLo (n := 1) (iv_lt_l (iv_nle c1) i_x_0 (by decide)))
    refine lv_iload_n hx hb dX12_apart_5 rfl (lv_at hl 1 rfl) ?_
    refine lv_iload_n hx hb dX12_apart_6 rfl (lv_at hl 0 rfl) ?_
    refine iv_isub hx hb i3_x_1 i2_x_0 (lo := (-45)) (hi := 47) (by decide) dX12_apart_7 (fun x5 e_x5 i_x5 => ?_)
    refine lv_goto (tgt := 14) hx hb dX12_apart_8 (by decide) ?_
    exact iv_iret X hr hlocks hB ⟨rfl, (i_x5.wk (by decide))⟩ dX12_apart_14
theorem dX12_count_0 : decode cX12_count 0 = .ok (.iconst 0, 1) := by decide +kernel
theorem dX12_count_1 : decode cX12_count 1 = .ok (.istore_n 1, 1) := by decide +kernel
theorem dX12_count_2 : decode cX12_count 2 = .ok (.iconst 0, 1) := by decide +kernel
theorem dX12_count_3 : decode cX12_count 3 = .ok (.istore_n 2, 1) := by decide +kernel
theorem dX12_count_4 : decode cX12_count 4 = .ok (.iload_n 2, 1) := by decide +kernel
theorem dX12_count_5 : decode cX12_count 5 = .ok (.bipush 24, 2) := by decide +kernel
theorem dX12_count_7 : decode cX12_count 7 = .ok (.if_icmp .ge 17, 3) := by decide +kernel
theorem dX12_count_10 : decode cX12_count 10 = .ok (.iload_n 1, 1) := by decide +kernel
theorem dX12_count_11 : decode cX12_count 11 = .ok (.iload_n 0, 1) := by decide +kernel
theorem dX12_count_12 : decode cX12_count 12 = .ok (.iload_n 2, 1) := by decide +kernel
theorem dX12_count_13 : decode cX12_count 13 = .ok (.ishr, 1) := by decide +kernel
theorem dX12_count_14 : decode cX12_count 14 = .ok (.iconst 1, 1) := by decide +kernel
theorem dX12_count_15 : decode cX12_count 15 = .ok (.iand, 1) := by decide +kernel
theorem dX12_count_16 : decode cX12_count 16 = .ok (.iadd, 1) := by decide +kernel
theorem dX12_count_17 : decode cX12_count 17 = .ok (.istore_n 1, 1) := by decide +kernel
theorem dX12_count_18 : decode cX12_count 18 = .ok (.iinc 2 1, 3) := by decide +kernel
theorem dX12_count_21 : decode cX12_count 21 = .ok (.goto (-17), 3) := by decide +kernel
theorem dX12_count_24 : decode cX12_count 24 = .ok (.iload_n 1, 1) := by decide +kernel
theorem dX12_count_25 : decode cX12_count 25 = .ok (.ireturn, 1) := by decide +kernel
set_option maxHeartbeats 4000000 in
set_option maxRecDepth 100000 in
theorem c_X12_count (l : Launch) (D : va_G) (tys : List (ClassId × FieldType)) (base : Nat) (G : iv_G) (x_0 : Int32) (i_x_0 : iv_R (-1) 16777215 x_0) : Met l yX12_count (Cond.code yX12_count cX12_count 3 (some .int) :: iv_W0) ({ frames := 0, cells := 0, slots := 0, locals := 0 }) (iv_Pc iv_sh D classes tys base G [.int x_0]) (iv_Qi iv_sh D classes tys base (fun v G' => G = G' ∧ iv_R (-2147483648) 2147483647 v)) 0 0 (iv_A base) := by
  refine iv_head (by decide) (Nat.le_of_ble_eq_true rfl) ?_
  intro p e s m args below meth c ls X hr hlocks hname hB hl
  have X := X
  have hx := X.1.1
  have hb := X.1.2.1
  have hl : lv_has ls 3 [(0, .int x_0)] := hl
  refine lv_iconst (v := 0) hx hb dX12_count_0 (by decide) ?_
  refine lv_istore_n (lv' := [(1, .int 0), (0, .int x_0)]) hx hb dX12_count_1 rfl hl (by decide) rfl (fun ls hl => ?_)
  refine lv_iconst (v := 0) hx hb dX12_count_2 (by decide) ?_
  refine lv_istore_n (lv' := [(2, .int 0), (1, .int 0), (0, .int x_0)]) hx hb dX12_count_3 rfl hl (by decide) rfl (fun ls hl => ?_)
  have L_4 : ∀ (n_4 : Nat) (H : Heap) (locs : List Loc) (hB : iv_B iv_sh D classes tys base G s.heap H locs) (x1 : Int32) (i_x1 : iv_R (-2147483648) 2147483647 x1) (x2 : Int32) (i_x2 : iv_R 0 24 x2) (hn_4 : (25 - x2.toInt).toNat < n_4) (ls : Array Slot) (hl : lv_has ls 3 [(2, .int x2), (1, .int x1), (0, .int x_0)]), W p l e ({ frames := 0, cells := 0, slots := 0, locals := 0 } : Room) s m args below meth c H locs 0 0 (MQ below (iv_Qi iv_sh D classes tys base (fun v G' => G = G' ∧ iv_R (-2147483648) 2147483647 v)) args s 0 0 (iv_A base)) (F0 m 4 ls []) := by
    intro n_4
    induction n_4 with
    | zero => intro H locs hB x1 i_x1 x2 i_x2 hn_4 ls hl; exact absurd hn_4 (Nat.not_lt_zero _)
    | succ n_4 ih_4 =>
      intro H locs hB x1 i_x1 x2 i_x2 hn_4 ls hl
      refine lv_iload_n hx hb dX12_count_4 rfl (lv_at hl 0 rfl) ?_
      refine lv_bipush (v := 24) hx hb dX12_count_5 (by decide) ?_
      refine lv_icmp_ge (tgt := 24) hx hb dX12_count_7 (by decide) (fun c3 => ?_) (fun c3 => ?_)
      · skip
        have i3_x2 : iv_R 24 24 x2 := (i_x2.cutLo (n := 24) (iv_le_l c3 q_24))
        refine lv_iload_n hx hb dX12_count_24 rfl (lv_at hl 1 rfl) ?_
        exact iv_iret X hr hlocks hB ⟨rfl, i_x1⟩ dX12_count_25
      · skip
        have i4_x2 : iv_R 0 23 x2 := (i_x2.cutHi (n := 23) (iv_lt_r (iv_nle c3) q_24 (by decide)))
        refine lv_iload_n hx hb dX12_count_10 rfl (lv_at hl 1 rfl) ?_
        refine lv_iload_n hx hb dX12_count_11 rfl (lv_at hl 2 rfl) ?_
        refine lv_iload_n hx hb dX12_count_12 rfl (lv_at hl 0 rfl) ?_
        refine lv_ishr hx hb dX12_count_13 ?_
        refine lv_topi (fun x6 e_x6 => ?_)
        have i_x6 := iv_R.all x6
        refine lv_iconst (v := 1) hx hb dX12_count_14 (by decide) ?_
        refine iv_iand_r hx hb q_1 (by decide) dX12_count_15 (fun x7 e_x7 i_x7 => ?_)
        refine lv_iadd hx hb dX12_count_16 ?_
        refine lv_topi (fun x8 e_x8 => ?_)
        have i_x8 := iv_R.all x8
        refine lv_istore_n (lv' := [(1, .int x8), (2, .int x2), (0, .int x_0)]) hx hb dX12_count_17 rfl hl (by decide) rfl (fun ls hl => ?_)
        refine iv_iinc hx hb i4_x2 (lo := 1) (hi := 24) (by decide) dX12_count_18 hl (k := 1) rfl (by decide) (fun x9 ls e_x9 i_x9 hl => ?_)
        have hl : lv_has ls 3 [(2, .int x9), (1, .int x8), (0, .int x_0)] := hl
        refine lv_goto (tgt := 4) hx hb dX12_count_21 (by decide) ?_
        exact ih_4 _ _ hB x8 i_x8 x9 (i_x9.wk (by decide)) (iv_mup (c := 1) i_x2 (by decide) (by decide) (by omega) hn_4) _ (lv_sub hl [0, 1, 2] rfl)
  exact L_4 _ _ _ hB 0 (q_0.wk (by decide)) 0 (q_0.wk (by decide)) (Nat.lt_succ_self _) _ (lv_sub hl [0, 1, 2] rfl)
theorem dX12_isLineAt_0 : decode cX12_isLineAt 0 = .ok (.iload_n 2, 1) := by decide +kernel
theorem dX12_isLineAt_1 : decode cX12_isLineAt 1 = .ok (.bipush 24, 2) := by decide +kernel
theorem dX12_isLineAt_3 : decode cX12_isLineAt 3 = .ok (.iadd, 1) := by decide +kernel
theorem dX12_isLineAt_4 : decode cX12_isLineAt 4 = .ok (.aload_n 0, 1) := by decide +kernel
theorem dX12_isLineAt_5 : decode cX12_isLineAt 5 = .ok (.getfield 7, 3) := by decide +kernel
theorem dX12_isLineAt_8 : decode cX12_isLineAt 8 = .ok (.sipush 206, 3) := by decide +kernel
theorem dX12_isLineAt_11 : decode cX12_isLineAt 11 = .ok (.iconst 3, 1) := by decide +kernel
theorem dX12_isLineAt_12 : decode cX12_isLineAt 12 = .ok (.iload_n 1, 1) := by decide +kernel
theorem dX12_isLineAt_13 : decode cX12_isLineAt 13 = .ok (.imul, 1) := by decide +kernel
theorem dX12_isLineAt_14 : decode cX12_isLineAt 14 = .ok (.iadd, 1) := by decide +kernel
theorem dX12_isLineAt_15 : decode cX12_isLineAt 15 = .ok (.iconst 1, 1) := by decide +kernel
theorem dX12_isLineAt_16 : decode cX12_isLineAt 16 = .ok (.iadd, 1) := by decide +kernel
theorem dX12_isLineAt_17 : decode cX12_isLineAt 17 = .ok (.iaload, 1) := by decide +kernel
theorem dX12_isLineAt_18 : decode cX12_isLineAt 18 = .ok (.isub, 1) := by decide +kernel
theorem dX12_isLineAt_19 : decode cX12_isLineAt 19 = .ok (.bipush 24, 2) := by decide +kernel
theorem dX12_isLineAt_21 : decode cX12_isLineAt 21 = .ok (.irem, 1) := by decide +kernel
theorem dX12_isLineAt_22 : decode cX12_isLineAt 22 = .ok (.aload_n 0, 1) := by decide +kernel
theorem dX12_isLineAt_23 : decode cX12_isLineAt 23 = .ok (.getfield 7, 3) := by decide +kernel
theorem dX12_isLineAt_26 : decode cX12_isLineAt 26 = .ok (.sipush 206, 3) := by decide +kernel
theorem dX12_isLineAt_29 : decode cX12_isLineAt 29 = .ok (.iconst 3, 1) := by decide +kernel
theorem dX12_isLineAt_30 : decode cX12_isLineAt 30 = .ok (.iload_n 1, 1) := by decide +kernel
theorem dX12_isLineAt_31 : decode cX12_isLineAt 31 = .ok (.imul, 1) := by decide +kernel
theorem dX12_isLineAt_32 : decode cX12_isLineAt 32 = .ok (.iadd, 1) := by decide +kernel
theorem dX12_isLineAt_33 : decode cX12_isLineAt 33 = .ok (.iconst 2, 1) := by decide +kernel
theorem dX12_isLineAt_34 : decode cX12_isLineAt 34 = .ok (.iadd, 1) := by decide +kernel
theorem dX12_isLineAt_35 : decode cX12_isLineAt 35 = .ok (.iaload, 1) := by decide +kernel
theorem dX12_isLineAt_36 : decode cX12_isLineAt 36 = .ok (.if_icmp .ge 7, 3) := by decide +kernel
theorem dX12_isLineAt_39 : decode cX12_isLineAt 39 = .ok (.iconst 1, 1) := by decide +kernel
theorem dX12_isLineAt_40 : decode cX12_isLineAt 40 = .ok (.goto 4, 3) := by decide +kernel
theorem dX12_isLineAt_43 : decode cX12_isLineAt 43 = .ok (.iconst 0, 1) := by decide +kernel
theorem dX12_isLineAt_44 : decode cX12_isLineAt 44 = .ok (.ireturn, 1) := by decide +kernel
set_option maxHeartbeats 4000000 in
set_option maxRecDepth 100000 in
theorem c_X12_isLineAt (l : Launch) (D : va_G) (tys : List (ClassId × FieldType)) (base : Nat) (G : iv_G) (h0 : Nat) (g_h0 : Nat → Int32) (r_h0 : Nat → Nat) (a_h0 : G h0 = some (12, g_h0, r_h0)) (x_0 : Int32) (i_x_0 : iv_R 0 19 x_0) (x_1 : Int32) (i_x_1 : iv_R (-2147483648) 2147483647 x_1) : Met l yX12_isLineAt (Cond.code yX12_isLineAt cX12_isLineAt 3 (some .boolean) :: iv_W0) ({ frames := 0, cells := 0, slots := 0, locals := 0 }) (iv_Pc iv_sh D classes tys base G [.ref h0, .int x_0, .int x_1]) (iv_Qi iv_sh D classes tys base (fun v G' => G = G' ∧ iv_R 0 1 v)) 0 0 (iv_A base) := by
  refine iv_head (by decide) (Nat.le_of_ble_eq_true rfl) ?_
  intro p e s m args below meth c ls X hr hlocks hname hB hl
  have X := X
  have hx := X.1.1
  have hb := X.1.2.1
  have hl : lv_has ls 3 [(0, .ref h0), (1, .int x_0), (2, .int x_1)] := hl
  refine lv_iload_n hx hb dX12_isLineAt_0 rfl (lv_at hl 2 rfl) ?_
  refine lv_bipush (v := 24) hx hb dX12_isLineAt_1 (by decide) ?_
  refine lv_iadd hx hb dX12_isLineAt_3 ?_
  refine lv_topi (fun x1 e_x1 => ?_)
  have i_x1 := iv_R.all x1
  refine lv_aload_n hx hb dX12_isLineAt_4 rfl (lv_at hl 0 rfl) ?_
  refine iv_getr X ft_X12 hB a_h0 sh_12 0 (by decide) rfl k_fl_X12_7 dX12_isLineAt_5 (fun b2 g_b2 r_b2 e_b2 a_b2 => ?_)
  refine lv_sipush (v := 206) hx hb dX12_isLineAt_8 (by decide) ?_
  refine lv_iconst (v := 3) hx hb dX12_isLineAt_11 (by decide) ?_
  refine lv_iload_n hx hb dX12_isLineAt_12 rfl (lv_at hl 1 rfl) ?_
  refine iv_imul hx hb q_3 i_x_0 (lo := 0) (hi := 57) (by decide) dX12_isLineAt_13 (fun x3 e_x3 i_x3 => ?_)
  refine iv_iadd hx hb q_206 i_x3 (lo := 206) (hi := 263) (by decide) dX12_isLineAt_14 (fun x4 e_x4 i_x4 => ?_)
  refine lv_iconst (v := 1) hx hb dX12_isLineAt_15 (by decide) ?_
  refine iv_iadd hx hb i_x4 q_1 (lo := 207) (hi := 264) (by decide) dX12_isLineAt_16 (fun x5 e_x5 i_x5 => ?_)
  refine iv_wald_f X hB a_b2 i_x5 (by decide) dX12_isLineAt_17 (fun x6 e_x6 i_x6 => ?_)
  refine lv_isub hx hb dX12_isLineAt_18 ?_
  refine lv_topi (fun x7 e_x7 => ?_)
  have i_x7 := iv_R.all x7
  refine lv_bipush (v := 24) hx hb dX12_isLineAt_19 (by decide) ?_
  refine iv_irem hx hb i_x7 q_24 (lo := (-23)) (hi := 23) (by decide) dX12_isLineAt_21 (fun x8 e_x8 i_x8 => ?_)
  refine lv_aload_n hx hb dX12_isLineAt_22 rfl (lv_at hl 0 rfl) ?_
  refine iv_getr0 X ft_X12 hB a_h0 sh_12 0 (by decide) rfl k_fl_X12_7 dX12_isLineAt_23 e_b2 ?_
  refine lv_sipush (v := 206) hx hb dX12_isLineAt_26 (by decide) ?_
  refine lv_iconst (v := 3) hx hb dX12_isLineAt_29 (by decide) ?_
  refine lv_iload_n hx hb dX12_isLineAt_30 rfl (lv_at hl 1 rfl) ?_
  refine iv_imul hx hb q_3 i_x_0 (lo := 0) (hi := 57) (by decide) dX12_isLineAt_31 (fun x9 e_x9 i_x9 => ?_)
  refine iv_iadd hx hb q_206 i_x9 (lo := 206) (hi := 263) (by decide) dX12_isLineAt_32 (fun x10 e_x10 i_x10 => ?_)
  refine lv_iconst (v := 2) hx hb dX12_isLineAt_33 (by decide) ?_
  refine iv_iadd hx hb i_x10 q_2 (lo := 208) (hi := 265) (by decide) dX12_isLineAt_34 (fun x11 e_x11 i_x11 => ?_)
  refine iv_wald_f X hB a_b2 i_x11 (by decide) dX12_isLineAt_35 (fun x12 e_x12 i_x12 => ?_)
  refine lv_icmp_ge (tgt := 43) hx hb dX12_isLineAt_36 (by decide) (fun c13 => ?_) (fun c13 => ?_)
  · skip
    have i13_x12 : iv_R (-2147483648) 23 x12 := (i_x12.cutHi (n := 23) (iv_le_r c13 i_x8))
    refine lv_iconst (v := 0) hx hb dX12_isLineAt_43 (by decide) ?_
    exact iv_zret X hr hlocks hB (q_0.wk (by decide)) ⟨rfl, (q_0.wk (by decide))⟩ dX12_isLineAt_44
  · skip
    have i14_x12 : iv_R (-22) 2147483647 x12 := (i_x12.cutLo (n := (-22)) (iv_lt_l (iv_nle c13) i_x8 (by decide)))
    refine lv_iconst (v := 1) hx hb dX12_isLineAt_39 (by decide) ?_
    refine lv_goto (tgt := 44) hx hb dX12_isLineAt_40 (by decide) ?_
    exact iv_zret X hr hlocks hB (q_1.wk (by decide)) ⟨rfl, (q_1.wk (by decide))⟩ dX12_isLineAt_44
theorem dX12_hasLine_0 : decode cX12_hasLine 0 = .ok (.iconst 0, 1) := by decide +kernel
theorem dX12_hasLine_1 : decode cX12_hasLine 1 = .ok (.istore_n 3, 1) := by decide +kernel
theorem dX12_hasLine_2 : decode cX12_hasLine 2 = .ok (.iload_n 3, 1) := by decide +kernel
theorem dX12_hasLine_3 : decode cX12_hasLine 3 = .ok (.aload_n 0, 1) := by decide +kernel
theorem dX12_hasLine_4 : decode cX12_hasLine 4 = .ok (.getfield 7, 3) := by decide +kernel
theorem dX12_hasLine_7 : decode cX12_hasLine 7 = .ok (.sipush 149, 3) := by decide +kernel
theorem dX12_hasLine_10 : decode cX12_hasLine 10 = .ok (.iaload, 1) := by decide +kernel
theorem dX12_hasLine_11 : decode cX12_hasLine 11 = .ok (.if_icmp .ge 36, 3) := by decide +kernel
theorem dX12_hasLine_14 : decode cX12_hasLine 14 = .ok (.aload_n 0, 1) := by decide +kernel
theorem dX12_hasLine_15 : decode cX12_hasLine 15 = .ok (.getfield 7, 3) := by decide +kernel
theorem dX12_hasLine_18 : decode cX12_hasLine 18 = .ok (.sipush 206, 3) := by decide +kernel
theorem dX12_hasLine_21 : decode cX12_hasLine 21 = .ok (.iconst 3, 1) := by decide +kernel
theorem dX12_hasLine_22 : decode cX12_hasLine 22 = .ok (.iload_n 3, 1) := by decide +kernel
theorem dX12_hasLine_23 : decode cX12_hasLine 23 = .ok (.imul, 1) := by decide +kernel
theorem dX12_hasLine_24 : decode cX12_hasLine 24 = .ok (.iadd, 1) := by decide +kernel
theorem dX12_hasLine_25 : decode cX12_hasLine 25 = .ok (.iaload, 1) := by decide +kernel
theorem dX12_hasLine_26 : decode cX12_hasLine 26 = .ok (.iload_n 1, 1) := by decide +kernel
theorem dX12_hasLine_27 : decode cX12_hasLine 27 = .ok (.if_icmp .ne 14, 3) := by decide +kernel
theorem dX12_hasLine_30 : decode cX12_hasLine 30 = .ok (.aload_n 0, 1) := by decide +kernel
theorem dX12_hasLine_31 : decode cX12_hasLine 31 = .ok (.iload_n 3, 1) := by decide +kernel
theorem dX12_hasLine_32 : decode cX12_hasLine 32 = .ok (.iload_n 2, 1) := by decide +kernel
theorem dX12_hasLine_33 : decode cX12_hasLine 33 = .ok (.invokevirtual 296, 3) := by decide +kernel
theorem dX12_hasLine_36 : decode cX12_hasLine 36 = .ok (.ifCond .eq 5, 3) := by decide +kernel
theorem dX12_hasLine_39 : decode cX12_hasLine 39 = .ok (.iconst 1, 1) := by decide +kernel
theorem dX12_hasLine_40 : decode cX12_hasLine 40 = .ok (.ireturn, 1) := by decide +kernel
theorem dX12_hasLine_41 : decode cX12_hasLine 41 = .ok (.iinc 3 1, 3) := by decide +kernel
theorem dX12_hasLine_44 : decode cX12_hasLine 44 = .ok (.goto (-42), 3) := by decide +kernel
theorem dX12_hasLine_47 : decode cX12_hasLine 47 = .ok (.iconst 0, 1) := by decide +kernel
theorem dX12_hasLine_48 : decode cX12_hasLine 48 = .ok (.ireturn, 1) := by decide +kernel
set_option maxHeartbeats 4000000 in
set_option maxRecDepth 100000 in
theorem c_X12_hasLine (l : Launch) (D : va_G) (tys : List (ClassId × FieldType)) (base : Nat) (G : iv_G) (h0 : Nat) (g_h0 : Nat → Int32) (r_h0 : Nat → Nat) (a_h0 : G h0 = some (12, g_h0, r_h0)) (x_0 : Int32) (i_x_0 : iv_R 0 9 x_0) (x_1 : Int32) (i_x_1 : iv_R (-2147483648) 2147483647 x_1) : Met l yX12_hasLine (Cond.code yX12_hasLine cX12_hasLine 4 (some .boolean) :: iv_W0) ({ frames := 1, cells := 0, slots := 0, locals := 22 }) (iv_Pc iv_sh D classes tys base G [.ref h0, .int x_0, .int x_1]) (iv_Qi iv_sh D classes tys base (fun v G' => G = G' ∧ iv_R 0 1 v)) 0 0 (iv_A base) := by
  refine iv_head (by decide) (Nat.le_of_ble_eq_true rfl) ?_
  intro p e s m args below meth c ls X hr hlocks hname hB hl
  have X := X
  have hx := X.1.1
  have hb := X.1.2.1
  have hl : lv_has ls 4 [(0, .ref h0), (1, .int x_0), (2, .int x_1)] := hl
  refine lv_iconst (v := 0) hx hb dX12_hasLine_0 (by decide) ?_
  refine lv_istore_n (lv' := [(3, .int 0), (0, .ref h0), (1, .int x_0), (2, .int x_1)]) hx hb dX12_hasLine_1 rfl hl (by decide) rfl (fun ls hl => ?_)
  have L_2 : ∀ (n_2 : Nat) (H : Heap) (locs : List Loc) (hB : iv_B iv_sh D classes tys base G s.heap H locs) (x1 : Int32) (i_x1 : iv_R 0 20 x1) (hn_2 : (21 - x1.toInt).toNat < n_2) (ls : Array Slot) (hl : lv_has ls 4 [(3, .int x1), (0, .ref h0), (1, .int x_0), (2, .int x_1)]), W p l e ({ frames := 1, cells := 0, slots := 0, locals := 22 } : Room) s m args below meth c H locs 0 0 (MQ below (iv_Qi iv_sh D classes tys base (fun v G' => G = G' ∧ iv_R 0 1 v)) args s 0 0 (iv_A base)) (F0 m 2 ls []) := by
    intro n_2
    induction n_2 with
    | zero => intro H locs hB x1 i_x1 hn_2 ls hl; exact absurd hn_2 (Nat.not_lt_zero _)
    | succ n_2 ih_2 =>
      intro H locs hB x1 i_x1 hn_2 ls hl
      refine lv_iload_n hx hb dX12_hasLine_2 rfl (lv_at hl 0 rfl) ?_
      refine lv_aload_n hx hb dX12_hasLine_3 rfl (lv_at hl 1 rfl) ?_
      refine iv_getr X ft_X12 hB a_h0 sh_12 0 (by decide) rfl k_fl_X12_7 dX12_hasLine_4 (fun b2 g_b2 r_b2 e_b2 a_b2 => ?_)
      refine lv_sipush (v := 149) hx hb dX12_hasLine_7 (by decide) ?_
      refine iv_wald_c X hB a_b2 q_149 (by decide) (lo := 0) (hi' := 20) (by decide) dX12_hasLine_10 (fun x3 e_x3 i_x3 => ?_)
      refine lv_icmp_ge (tgt := 47) hx hb dX12_hasLine_11 (by decide) (fun c4 => ?_) (fun c4 => ?_)
      · skip
        refine lv_iconst (v := 0) hx hb dX12_hasLine_47 (by decide) ?_
        exact iv_zret X hr hlocks hB (q_0.wk (by decide)) ⟨rfl, (q_0.wk (by decide))⟩ dX12_hasLine_48
      · skip
        have i4_x1 : iv_R 0 19 x1 := (i_x1.cutHi (n := 19) (iv_lt_r (iv_nle c4) i_x3 (by decide)))
        have i5_x3 : iv_R 1 20 x3 := (i_x3.cutLo (n := 1) (iv_lt_l (iv_nle c4) i_x1 (by decide)))
        refine lv_aload_n hx hb dX12_hasLine_14 rfl (lv_at hl 1 rfl) ?_
        refine iv_getr0 X ft_X12 hB a_h0 sh_12 0 (by decide) rfl k_fl_X12_7 dX12_hasLine_15 e_b2 ?_
        refine lv_sipush (v := 206) hx hb dX12_hasLine_18 (by decide) ?_
        refine lv_iconst (v := 3) hx hb dX12_hasLine_21 (by decide) ?_
        refine lv_iload_n hx hb dX12_hasLine_22 rfl (lv_at hl 0 rfl) ?_
        refine iv_imul hx hb q_3 i4_x1 (lo := 0) (hi := 57) (by decide) dX12_hasLine_23 (fun x7 e_x7 i_x7 => ?_)
        refine iv_iadd hx hb q_206 i_x7 (lo := 206) (hi := 263) (by decide) dX12_hasLine_24 (fun x8 e_x8 i_x8 => ?_)
        refine iv_wald_f X hB a_b2 i_x8 (by decide) dX12_hasLine_25 (fun x9 e_x9 i_x9 => ?_)
        refine lv_iload_n hx hb dX12_hasLine_26 rfl (lv_at hl 2 rfl) ?_
        refine lv_icmp_ne (tgt := 41) hx hb dX12_hasLine_27 (by decide) (fun c10 => ?_) (fun c10 => ?_)
        · skip
          refine iv_iinc hx hb i4_x1 (lo := 1) (hi := 20) (by decide) dX12_hasLine_41 hl (k := 0) rfl (by decide) (fun x11 ls e_x11 i_x11 hl => ?_)
          have hl : lv_has ls 4 [(3, .int x11), (0, .ref h0), (1, .int x_0), (2, .int x_1)] := hl
          refine lv_goto (tgt := 2) hx hb dX12_hasLine_44 (by decide) ?_
          exact ih_2 _ _ hB x11 (i_x11.wk (by decide)) (iv_mup (c := 1) i_x1 (by decide) (by decide) (by omega) hn_2) _ (lv_sub hl [0, 1, 2, 3] rfl)
        · skip
          have i11_x9 : iv_R 0 9 x9 := ((i_x9.cutLo (n := 0) (iv_eq_r c10 i_x_0).1).cutHi (n := 9) (iv_eq_r c10 i_x_0).2)
          refine lv_aload_n hx hb dX12_hasLine_30 rfl (lv_at hl 1 rfl) ?_
          refine lv_iload_n hx hb dX12_hasLine_31 rfl (lv_at hl 0 rfl) ?_
          refine lv_iload_n hx hb dX12_hasLine_32 rfl (lv_at hl 3 rfl) ?_
          refine iv_cVi X k_good k_mf_X12_isLineAt k_im_X12_isLineAt k_sel_X12_isLineAt k_ml_X12_296 ft_X12 hB a_h0 sh_12 (As := [.int x1, .int x_1]) (c_X12_isLineAt l D tys base G h0 g_h0 r_h0 a_h0 x1 i4_x1 x_1 i_x_1) ⟨rfl, rfl⟩ ⟨Nat.le_of_ble_eq_true rfl, Nat.le_of_ble_eq_true rfl⟩ ⟨Nat.le_of_ble_eq_true rfl, Nat.le_of_ble_eq_true rfl⟩ rfl rfl hl.1 (Nat.le_of_ble_eq_true rfl) dX12_hasLine_33 (fun x13 G9 H locs hq hB => ?_)
          obtain ⟨rfl, i_x13⟩ := hq
          refine lv_if_eq (tgt := 41) hx hb dX12_hasLine_36 (by decide) (fun c14 => ?_) (fun c14 => ?_)
          · skip
            have i14_x13 : iv_R 0 0 x13 := (i_x13.cutHi (n := 0) (iv_eq_r c14 q_0).2)
            refine iv_iinc hx hb i4_x1 (lo := 1) (hi := 20) (by decide) dX12_hasLine_41 hl (k := 0) rfl (by decide) (fun x16 ls e_x16 i_x16 hl => ?_)
            have hl : lv_has ls 4 [(3, .int x16), (0, .ref h0), (1, .int x_0), (2, .int x_1)] := hl
            refine lv_goto (tgt := 2) hx hb dX12_hasLine_44 (by decide) ?_
            exact ih_2 _ _ hB x16 (i_x16.wk (by decide)) (iv_mup (c := 1) i_x1 (by decide) (by decide) (by omega) hn_2) _ (lv_sub hl [0, 1, 2, 3] rfl)
          · skip
            have i16_x13 : iv_R 1 1 x13 := iv_ne_lo c14 i_x13 q_0 (by decide)
            refine lv_iconst (v := 1) hx hb dX12_hasLine_39 (by decide) ?_
            exact iv_zret X hr hlocks hB (q_1.wk (by decide)) ⟨rfl, (q_1.wk (by decide))⟩ dX12_hasLine_40
  exact L_2 _ _ _ hB 0 (q_0.wk (by decide)) (Nat.lt_succ_self _) _ (lv_sub hl [0, 1, 2, 3] rfl)
theorem dX12_ofBell_0 : decode cX12_ofBell 0 = .ok (.aload_n 0, 1) := by decide +kernel
theorem dX12_ofBell_1 : decode cX12_ofBell 1 = .ok (.getfield 7, 3) := by decide +kernel
theorem dX12_ofBell_4 : decode cX12_ofBell 4 = .ok (.bipush 66, 2) := by decide +kernel
theorem dX12_ofBell_6 : decode cX12_ofBell 6 = .ok (.bipush 8, 2) := by decide +kernel
theorem dX12_ofBell_8 : decode cX12_ofBell 8 = .ok (.iload_n 1, 1) := by decide +kernel
theorem dX12_ofBell_9 : decode cX12_ofBell 9 = .ok (.imul, 1) := by decide +kernel
theorem dX12_ofBell_10 : decode cX12_ofBell 10 = .ok (.iadd, 1) := by decide +kernel
theorem dX12_ofBell_11 : decode cX12_ofBell 11 = .ok (.iload_n 2, 1) := by decide +kernel
theorem dX12_ofBell_12 : decode cX12_ofBell 12 = .ok (.iadd, 1) := by decide +kernel
theorem dX12_ofBell_13 : decode cX12_ofBell 13 = .ok (.iaload, 1) := by decide +kernel
theorem dX12_ofBell_14 : decode cX12_ofBell 14 = .ok (.ireturn, 1) := by decide +kernel
set_option maxHeartbeats 4000000 in
set_option maxRecDepth 100000 in
theorem c_X12_ofBell (l : Launch) (D : va_G) (tys : List (ClassId × FieldType)) (base : Nat) (G : iv_G) (h0 : Nat) (g_h0 : Nat → Int32) (r_h0 : Nat → Nat) (a_h0 : G h0 = some (12, g_h0, r_h0)) (x_0 : Int32) (i_x_0 : iv_R 0 9 x_0) (x_1 : Int32) (i_x_1 : iv_R 0 7 x_1) : Met l yX12_ofBell (Cond.code yX12_ofBell cX12_ofBell 3 (some .int) :: iv_W0) ({ frames := 0, cells := 0, slots := 0, locals := 0 }) (iv_Pc iv_sh D classes tys base G [.ref h0, .int x_0, .int x_1]) (iv_Qi iv_sh D classes tys base (fun v G' => G = G' ∧ iv_R (-2147483648) 2147483647 v ∧ (x_1 = 0 → iv_R 0 3 v) ∧ (x_1 = 1 → iv_R 0 47 v))) 0 0 (iv_A base) := by
  refine iv_head (by decide) (Nat.le_of_ble_eq_true rfl) ?_
  intro p e s m args below meth c ls X hr hlocks hname hB hl
  have X := X
  have hx := X.1.1
  have hb := X.1.2.1
  have hl : lv_has ls 3 [(0, .ref h0), (1, .int x_0), (2, .int x_1)] := hl
  refine lv_aload_n hx hb dX12_ofBell_0 rfl (lv_at hl 0 rfl) ?_
  refine iv_getr X ft_X12 hB a_h0 sh_12 0 (by decide) rfl k_fl_X12_7 dX12_ofBell_1 (fun b1 g_b1 r_b1 e_b1 a_b1 => ?_)
  refine lv_bipush (v := 66) hx hb dX12_ofBell_4 (by decide) ?_
  refine lv_bipush (v := 8) hx hb dX12_ofBell_6 (by decide) ?_
  refine lv_iload_n hx hb dX12_ofBell_8 rfl (lv_at hl 1 rfl) ?_
  refine iv_imul hx hb q_8 i_x_0 (lo := 0) (hi := 72) (by decide) dX12_ofBell_9 (fun x2 e_x2 i_x2 => ?_)
  refine iv_iadd hx hb q_66 i_x2 (lo := 66) (hi := 138) (by decide) dX12_ofBell_10 (fun x3 e_x3 i_x3 => ?_)
  refine lv_iload_n hx hb dX12_ofBell_11 rfl (lv_at hl 2 rfl) ?_
  refine iv_iadd hx hb i_x3 i_x_1 (lo := 66) (hi := 145) (by decide) dX12_ofBell_12 (fun x4 e_x4 i_x4 => ?_)
  refine iv_aldP X hB a_b1 sh_60 (iv_in i_x4 (by decide)) dX12_ofBell_13 (fun hP => ?_)
  refine lv_topi (fun x5 e_x5 => ?_)
  have i_x5 := iv_R.all x5
  exact iv_iret X hr hlocks hB ⟨rfl, i_x5, fun h => (by have w1 : x_1.toInt = 0 := (by rw [h]; rfl); have w2 := i_x_0.1; have w3 := i_x_0.2; have w4 := i_x4.1; have w5 : x2.toInt = 8 * x_0.toInt := e_x2; have w6 : x3.toInt = 66 + x2.toInt := e_x3; have w7 : x4.toNatClampNeg = x4.toInt.toNat := rfl; have w8 := iv_bellb (idx := x4.toNatClampNeg) (b := x_0.toInt) (f := 0) (by omega) ⟨w2, w3⟩ (by decide); have w9 := hP.1 x4.toNatClampNeg (by omega); rw [w8] at w9; rw [e_x5]; exact w9), fun h => (by have w1 : x_1.toInt = 1 := (by rw [h]; rfl); have w2 := i_x_0.1; have w3 := i_x_0.2; have w4 := i_x4.1; have w5 : x2.toInt = 8 * x_0.toInt := e_x2; have w6 : x3.toInt = 66 + x2.toInt := e_x3; have w7 : x4.toNatClampNeg = x4.toInt.toNat := rfl; have w8 := iv_bellb (idx := x4.toNatClampNeg) (b := x_0.toInt) (f := 1) (by omega) ⟨w2, w3⟩ (by decide); have w9 := hP.1 x4.toNatClampNeg (by omega); rw [w8] at w9; rw [e_x5]; exact w9)⟩ dX12_ofBell_14
theorem dX12_isOfTurns_0 : decode cX12_isOfTurns 0 = .ok (.iconst 0, 1) := by decide +kernel
theorem dX12_isOfTurns_1 : decode cX12_isOfTurns 1 = .ok (.istore_n 3, 1) := by decide +kernel
theorem dX12_isOfTurns_2 : decode cX12_isOfTurns 2 = .ok (.iload_n 3, 1) := by decide +kernel
theorem dX12_isOfTurns_3 : decode cX12_isOfTurns 3 = .ok (.aload_n 0, 1) := by decide +kernel
theorem dX12_isOfTurns_4 : decode cX12_isOfTurns 4 = .ok (.getfield 7, 3) := by decide +kernel
theorem dX12_isOfTurns_7 : decode cX12_isOfTurns 7 = .ok (.sipush 152, 3) := by decide +kernel
theorem dX12_isOfTurns_10 : decode cX12_isOfTurns 10 = .ok (.iaload, 1) := by decide +kernel
theorem dX12_isOfTurns_11 : decode cX12_isOfTurns 11 = .ok (.if_icmp .ge 66, 3) := by decide +kernel
theorem dX12_isOfTurns_14 : decode cX12_isOfTurns 14 = .ok (.sipush 153, 3) := by decide +kernel
theorem dX12_isOfTurns_17 : decode cX12_isOfTurns 17 = .ok (.iconst 3, 1) := by decide +kernel
theorem dX12_isOfTurns_18 : decode cX12_isOfTurns 18 = .ok (.iload_n 3, 1) := by decide +kernel
theorem dX12_isOfTurns_19 : decode cX12_isOfTurns 19 = .ok (.imul, 1) := by decide +kernel
theorem dX12_isOfTurns_20 : decode cX12_isOfTurns 20 = .ok (.iadd, 1) := by decide +kernel
theorem dX12_isOfTurns_21 : decode cX12_isOfTurns 21 = .ok (.istore 4, 2) := by decide +kernel
theorem dX12_isOfTurns_23 : decode cX12_isOfTurns 23 = .ok (.aload_n 0, 1) := by decide +kernel
theorem dX12_isOfTurns_24 : decode cX12_isOfTurns 24 = .ok (.getfield 7, 3) := by decide +kernel
theorem dX12_isOfTurns_27 : decode cX12_isOfTurns 27 = .ok (.iload 4, 2) := by decide +kernel
theorem dX12_isOfTurns_29 : decode cX12_isOfTurns 29 = .ok (.iaload, 1) := by decide +kernel
theorem dX12_isOfTurns_30 : decode cX12_isOfTurns 30 = .ok (.iload_n 2, 1) := by decide +kernel
theorem dX12_isOfTurns_31 : decode cX12_isOfTurns 31 = .ok (.if_icmp .ne 40, 3) := by decide +kernel
theorem dX12_isOfTurns_34 : decode cX12_isOfTurns 34 = .ok (.aload_n 0, 1) := by decide +kernel
theorem dX12_isOfTurns_35 : decode cX12_isOfTurns 35 = .ok (.iload_n 1, 1) := by decide +kernel
theorem dX12_isOfTurns_36 : decode cX12_isOfTurns 36 = .ok (.aload_n 0, 1) := by decide +kernel
theorem dX12_isOfTurns_37 : decode cX12_isOfTurns 37 = .ok (.getfield 7, 3) := by decide +kernel
theorem dX12_isOfTurns_40 : decode cX12_isOfTurns 40 = .ok (.iload 4, 2) := by decide +kernel
theorem dX12_isOfTurns_42 : decode cX12_isOfTurns 42 = .ok (.iconst 1, 1) := by decide +kernel
theorem dX12_isOfTurns_43 : decode cX12_isOfTurns 43 = .ok (.iadd, 1) := by decide +kernel
theorem dX12_isOfTurns_44 : decode cX12_isOfTurns 44 = .ok (.iaload, 1) := by decide +kernel
theorem dX12_isOfTurns_45 : decode cX12_isOfTurns 45 = .ok (.invokevirtual 299, 3) := by decide +kernel
theorem dX12_isOfTurns_48 : decode cX12_isOfTurns 48 = .ok (.ifCond .eq 21, 3) := by decide +kernel
theorem dX12_isOfTurns_51 : decode cX12_isOfTurns 51 = .ok (.aload_n 0, 1) := by decide +kernel
theorem dX12_isOfTurns_52 : decode cX12_isOfTurns 52 = .ok (.iload_n 1, 1) := by decide +kernel
theorem dX12_isOfTurns_53 : decode cX12_isOfTurns 53 = .ok (.iconst 0, 1) := by decide +kernel
theorem dX12_isOfTurns_54 : decode cX12_isOfTurns 54 = .ok (.invokevirtual 282, 3) := by decide +kernel
theorem dX12_isOfTurns_57 : decode cX12_isOfTurns 57 = .ok (.aload_n 0, 1) := by decide +kernel
theorem dX12_isOfTurns_58 : decode cX12_isOfTurns 58 = .ok (.getfield 7, 3) := by decide +kernel
theorem dX12_isOfTurns_61 : decode cX12_isOfTurns 61 = .ok (.iload 4, 2) := by decide +kernel
theorem dX12_isOfTurns_63 : decode cX12_isOfTurns 63 = .ok (.iconst 2, 1) := by decide +kernel
theorem dX12_isOfTurns_64 : decode cX12_isOfTurns 64 = .ok (.iadd, 1) := by decide +kernel
theorem dX12_isOfTurns_65 : decode cX12_isOfTurns 65 = .ok (.iaload, 1) := by decide +kernel
theorem dX12_isOfTurns_66 : decode cX12_isOfTurns 66 = .ok (.if_icmp .eq 5, 3) := by decide +kernel
theorem dX12_isOfTurns_69 : decode cX12_isOfTurns 69 = .ok (.iconst 0, 1) := by decide +kernel
theorem dX12_isOfTurns_70 : decode cX12_isOfTurns 70 = .ok (.ireturn, 1) := by decide +kernel
theorem dX12_isOfTurns_71 : decode cX12_isOfTurns 71 = .ok (.iinc 3 1, 3) := by decide +kernel
theorem dX12_isOfTurns_74 : decode cX12_isOfTurns 74 = .ok (.goto (-72), 3) := by decide +kernel
theorem dX12_isOfTurns_77 : decode cX12_isOfTurns 77 = .ok (.iconst 1, 1) := by decide +kernel
theorem dX12_isOfTurns_78 : decode cX12_isOfTurns 78 = .ok (.ireturn, 1) := by decide +kernel
set_option maxHeartbeats 4000000 in
set_option maxRecDepth 100000 in
theorem c_X12_isOfTurns (l : Launch) (D : va_G) (tys : List (ClassId × FieldType)) (base : Nat) (G : iv_G) (h0 : Nat) (g_h0 : Nat → Int32) (r_h0 : Nat → Nat) (a_h0 : G h0 = some (12, g_h0, r_h0)) (x_0 : Int32) (i_x_0 : iv_R 0 9 x_0) (x_1 : Int32) (i_x_1 : iv_R 0 19 x_1) : Met l yX12_isOfTurns (Cond.code yX12_isOfTurns cX12_isOfTurns 5 (some .boolean) :: iv_W0) ({ frames := 2, cells := 0, slots := 0, locals := 45 }) (iv_Pc iv_sh D classes tys base G [.ref h0, .int x_0, .int x_1]) (iv_Qi iv_sh D classes tys base (fun v G' => G = G' ∧ iv_R 0 1 v)) 0 0 (iv_A base) := by
  refine iv_head (by decide) (Nat.le_of_ble_eq_true rfl) ?_
  intro p e s m args below meth c ls X hr hlocks hname hB hl
  have X := X
  have hx := X.1.1
  have hb := X.1.2.1
  have hl : lv_has ls 5 [(0, .ref h0), (1, .int x_0), (2, .int x_1)] := hl
  refine lv_iconst (v := 0) hx hb dX12_isOfTurns_0 (by decide) ?_
  refine lv_istore_n (lv' := [(3, .int 0), (0, .ref h0), (1, .int x_0), (2, .int x_1)]) hx hb dX12_isOfTurns_1 rfl hl (by decide) rfl (fun ls hl => ?_)
  have L_2 : ∀ (n_2 : Nat) (H : Heap) (locs : List Loc) (hB : iv_B iv_sh D classes tys base G s.heap H locs) (x1 : Int32) (i_x1 : iv_R 0 12 x1) (hn_2 : (13 - x1.toInt).toNat < n_2) (ls : Array Slot) (hl : lv_has ls 5 [(3, .int x1), (0, .ref h0), (1, .int x_0), (2, .int x_1)]), W p l e ({ frames := 2, cells := 0, slots := 0, locals := 45 } : Room) s m args below meth c H locs 0 0 (MQ below (iv_Qi iv_sh D classes tys base (fun v G' => G = G' ∧ iv_R 0 1 v)) args s 0 0 (iv_A base)) (F0 m 2 ls []) := by
    intro n_2
    induction n_2 with
    | zero => intro H locs hB x1 i_x1 hn_2 ls hl; exact absurd hn_2 (Nat.not_lt_zero _)
    | succ n_2 ih_2 =>
      intro H locs hB x1 i_x1 hn_2 ls hl
      refine lv_iload_n hx hb dX12_isOfTurns_2 rfl (lv_at hl 0 rfl) ?_
      refine lv_aload_n hx hb dX12_isOfTurns_3 rfl (lv_at hl 1 rfl) ?_
      refine iv_getr X ft_X12 hB a_h0 sh_12 0 (by decide) rfl k_fl_X12_7 dX12_isOfTurns_4 (fun b2 g_b2 r_b2 e_b2 a_b2 => ?_)
      refine lv_sipush (v := 152) hx hb dX12_isOfTurns_7 (by decide) ?_
      refine iv_wald_c X hB a_b2 q_152 (by decide) (lo := 0) (hi' := 12) (by decide) dX12_isOfTurns_10 (fun x3 e_x3 i_x3 => ?_)
      refine lv_icmp_ge (tgt := 77) hx hb dX12_isOfTurns_11 (by decide) (fun c4 => ?_) (fun c4 => ?_)
      · skip
        refine lv_iconst (v := 1) hx hb dX12_isOfTurns_77 (by decide) ?_
        exact iv_zret X hr hlocks hB (q_1.wk (by decide)) ⟨rfl, (q_1.wk (by decide))⟩ dX12_isOfTurns_78
      · skip
        have i4_x1 : iv_R 0 11 x1 := (i_x1.cutHi (n := 11) (iv_lt_r (iv_nle c4) i_x3 (by decide)))
        have i5_x3 : iv_R 1 12 x3 := (i_x3.cutLo (n := 1) (iv_lt_l (iv_nle c4) i_x1 (by decide)))
        refine lv_sipush (v := 153) hx hb dX12_isOfTurns_14 (by decide) ?_
        refine lv_iconst (v := 3) hx hb dX12_isOfTurns_17 (by decide) ?_
        refine lv_iload_n hx hb dX12_isOfTurns_18 rfl (lv_at hl 0 rfl) ?_
        refine iv_imul hx hb q_3 i4_x1 (lo := 0) (hi := 33) (by decide) dX12_isOfTurns_19 (fun x7 e_x7 i_x7 => ?_)
        refine iv_iadd hx hb q_153 i_x7 (lo := 153) (hi := 186) (by decide) dX12_isOfTurns_20 (fun x8 e_x8 i_x8 => ?_)
        refine lv_istore (lv' := [(4, .int x8), (3, .int x1), (0, .ref h0), (1, .int x_0), (2, .int x_1)]) hx hb dX12_isOfTurns_21 hl (by decide) rfl (fun ls hl => ?_)
        refine lv_aload_n hx hb dX12_isOfTurns_23 rfl (lv_at hl 2 rfl) ?_
        refine iv_getr0 X ft_X12 hB a_h0 sh_12 0 (by decide) rfl k_fl_X12_7 dX12_isOfTurns_24 e_b2 ?_
        refine lv_iload hx hb dX12_isOfTurns_27 (lv_at hl 0 rfl) ?_
        refine iv_wald_f X hB a_b2 i_x8 (by decide) dX12_isOfTurns_29 (fun x9 e_x9 i_x9 => ?_)
        refine lv_iload_n hx hb dX12_isOfTurns_30 rfl (lv_at hl 4 rfl) ?_
        refine lv_icmp_ne (tgt := 71) hx hb dX12_isOfTurns_31 (by decide) (fun c10 => ?_) (fun c10 => ?_)
        · skip
          refine iv_iinc hx hb i4_x1 (lo := 1) (hi := 12) (by decide) dX12_isOfTurns_71 hl (k := 1) rfl (by decide) (fun x11 ls e_x11 i_x11 hl => ?_)
          have hl : lv_has ls 5 [(3, .int x11), (4, .int x8), (0, .ref h0), (1, .int x_0), (2, .int x_1)] := hl
          refine lv_goto (tgt := 2) hx hb dX12_isOfTurns_74 (by decide) ?_
          exact ih_2 _ _ hB x11 (i_x11.wk (by decide)) (iv_mup (c := 1) i_x1 (by decide) (by decide) (by omega) hn_2) _ (lv_sub hl [0, 2, 3, 4] rfl)
        · skip
          have i11_x9 : iv_R 0 19 x9 := ((i_x9.cutLo (n := 0) (iv_eq_r c10 i_x_1).1).cutHi (n := 19) (iv_eq_r c10 i_x_1).2)
          refine lv_aload_n hx hb dX12_isOfTurns_34 rfl (lv_at hl 2 rfl) ?_
          refine lv_iload_n hx hb dX12_isOfTurns_35 rfl (lv_at hl 3 rfl) ?_
          refine lv_aload_n hx hb dX12_isOfTurns_36 rfl (lv_at hl 2 rfl) ?_
          refine iv_getr0 X ft_X12 hB a_h0 sh_12 0 (by decide) rfl k_fl_X12_7 dX12_isOfTurns_37 e_b2 ?_
          refine lv_iload hx hb dX12_isOfTurns_40 (lv_at hl 0 rfl) ?_
          refine lv_iconst (v := 1) hx hb dX12_isOfTurns_42 (by decide) ?_
          refine iv_iadd hx hb i_x8 q_1 (lo := 154) (hi := 187) (by decide) dX12_isOfTurns_43 (fun x13 e_x13 i_x13 => ?_)
          refine iv_wald_f X hB a_b2 i_x13 (by decide) dX12_isOfTurns_44 (fun x14 e_x14 i_x14 => ?_)
          refine iv_cVi X k_good k_mf_X12_hasLine k_im_X12_hasLine k_sel_X12_hasLine k_ml_X12_299 ft_X12 hB a_h0 sh_12 (As := [.int x_0, .int x14]) (c_X12_hasLine l D tys base G h0 g_h0 r_h0 a_h0 x_0 i_x_0 x14 i_x14) ⟨rfl, rfl⟩ ⟨Nat.le_of_ble_eq_true rfl, Nat.le_of_ble_eq_true rfl⟩ ⟨Nat.le_of_ble_eq_true rfl, Nat.le_of_ble_eq_true rfl⟩ rfl rfl hl.1 (Nat.le_of_ble_eq_true rfl) dX12_isOfTurns_45 (fun x15 G9 H locs hq hB => ?_)
          obtain ⟨rfl, i_x15⟩ := hq
          refine lv_if_eq (tgt := 69) hx hb dX12_isOfTurns_48 (by decide) (fun c16 => ?_) (fun c16 => ?_)
          · skip
            have i16_x15 : iv_R 0 0 x15 := (i_x15.cutHi (n := 0) (iv_eq_r c16 q_0).2)
            refine lv_iconst (v := 0) hx hb dX12_isOfTurns_69 (by decide) ?_
            exact iv_zret X hr hlocks hB (q_0.wk (by decide)) ⟨rfl, (q_0.wk (by decide))⟩ dX12_isOfTurns_70
          · skip
            have i17_x15 : iv_R 1 1 x15 := iv_ne_lo c16 i_x15 q_0 (by decide)
            refine lv_aload_n hx hb dX12_isOfTurns_51 rfl (lv_at hl 2 rfl) ?_
            refine lv_iload_n hx hb dX12_isOfTurns_52 rfl (lv_at hl 3 rfl) ?_
            refine lv_iconst (v := 0) hx hb dX12_isOfTurns_53 (by decide) ?_
            refine iv_cVi X k_good k_mf_X12_ofBell k_im_X12_ofBell k_sel_X12_ofBell k_ml_X12_282 ft_X12 hB a_h0 sh_12 (As := [.int x_0, .int 0]) (c_X12_ofBell l D tys base G h0 g_h0 r_h0 a_h0 x_0 i_x_0 0 (q_0.wk (by decide))) ⟨rfl, rfl⟩ ⟨Nat.le_of_ble_eq_true rfl, Nat.le_of_ble_eq_true rfl⟩ ⟨Nat.le_of_ble_eq_true rfl, Nat.le_of_ble_eq_true rfl⟩ rfl rfl hl.1 (Nat.le_of_ble_eq_true rfl) dX12_isOfTurns_54 (fun x19 G9 H locs hq hB => ?_)
            obtain ⟨rfl, i_x19, cp20, cp21⟩ := hq
            have i21_x19 : iv_R 0 3 x19 := cp20 rfl
            refine lv_aload_n hx hb dX12_isOfTurns_57 rfl (lv_at hl 2 rfl) ?_
            refine iv_getr0 X ft_X12 hB a_h0 sh_12 0 (by decide) rfl k_fl_X12_7 dX12_isOfTurns_58 e_b2 ?_
            refine lv_iload hx hb dX12_isOfTurns_61 (lv_at hl 0 rfl) ?_
            refine lv_iconst (v := 2) hx hb dX12_isOfTurns_63 (by decide) ?_
            refine iv_iadd hx hb i_x8 q_2 (lo := 155) (hi := 188) (by decide) dX12_isOfTurns_64 (fun x23 e_x23 i_x23 => ?_)
            refine iv_wald_f X hB a_b2 i_x23 (by decide) dX12_isOfTurns_65 (fun x24 e_x24 i_x24 => ?_)
            refine lv_icmp_eq (tgt := 71) hx hb dX12_isOfTurns_66 (by decide) (fun c25 => ?_) (fun c25 => ?_)
            · skip
              have i25_x24 : iv_R 0 3 x24 := ((i_x24.cutLo (n := 0) (iv_eq_r c25.symm i21_x19).1).cutHi (n := 3) (iv_eq_r c25.symm i21_x19).2)
              refine iv_iinc hx hb i4_x1 (lo := 1) (hi := 12) (by decide) dX12_isOfTurns_71 hl (k := 1) rfl (by decide) (fun x27 ls e_x27 i_x27 hl => ?_)
              have hl : lv_has ls 5 [(3, .int x27), (4, .int x8), (0, .ref h0), (1, .int x_0), (2, .int x_1)] := hl
              refine lv_goto (tgt := 2) hx hb dX12_isOfTurns_74 (by decide) ?_
              exact ih_2 _ _ hB x27 (i_x27.wk (by decide)) (iv_mup (c := 1) i_x1 (by decide) (by decide) (by omega) hn_2) _ (lv_sub hl [0, 2, 3, 4] rfl)
            · skip
              refine lv_iconst (v := 0) hx hb dX12_isOfTurns_69 (by decide) ?_
              exact iv_zret X hr hlocks hB (q_0.wk (by decide)) ⟨rfl, (q_0.wk (by decide))⟩ dX12_isOfTurns_70
  exact L_2 _ _ _ hB 0 (q_0.wk (by decide)) (Nat.lt_succ_self _) _ (lv_sub hl [0, 1, 2, 3] rfl)
theorem dX12_fitsOf_0 : decode cX12_fitsOf 0 = .ok (.iconst 0, 1) := by decide +kernel
theorem dX12_fitsOf_1 : decode cX12_fitsOf 1 = .ok (.istore_n 2, 1) := by decide +kernel
theorem dX12_fitsOf_2 : decode cX12_fitsOf 2 = .ok (.iconst 0, 1) := by decide +kernel
theorem dX12_fitsOf_3 : decode cX12_fitsOf 3 = .ok (.istore_n 3, 1) := by decide +kernel
theorem dX12_fitsOf_4 : decode cX12_fitsOf 4 = .ok (.iload_n 3, 1) := by decide +kernel
theorem dX12_fitsOf_5 : decode cX12_fitsOf 5 = .ok (.aload_n 0, 1) := by decide +kernel
theorem dX12_fitsOf_6 : decode cX12_fitsOf 6 = .ok (.getfield 7, 3) := by decide +kernel
theorem dX12_fitsOf_9 : decode cX12_fitsOf 9 = .ok (.sipush 146, 3) := by decide +kernel
theorem dX12_fitsOf_12 : decode cX12_fitsOf 12 = .ok (.iaload, 1) := by decide +kernel
theorem dX12_fitsOf_13 : decode cX12_fitsOf 13 = .ok (.if_icmp .ge 39, 3) := by decide +kernel
theorem dX12_fitsOf_16 : decode cX12_fitsOf 16 = .ok (.iload_n 2, 1) := by decide +kernel
theorem dX12_fitsOf_17 : decode cX12_fitsOf 17 = .ok (.aload_n 0, 1) := by decide +kernel
theorem dX12_fitsOf_18 : decode cX12_fitsOf 18 = .ok (.iload_n 3, 1) := by decide +kernel
theorem dX12_fitsOf_19 : decode cX12_fitsOf 19 = .ok (.bipush 6, 2) := by decide +kernel
theorem dX12_fitsOf_21 : decode cX12_fitsOf 21 = .ok (.invokevirtual 282, 3) := by decide +kernel
theorem dX12_fitsOf_24 : decode cX12_fitsOf 24 = .ok (.iconst 2, 1) := by decide +kernel
theorem dX12_fitsOf_25 : decode cX12_fitsOf 25 = .ok (.if_icmp .eq 18, 3) := by decide +kernel
theorem dX12_fitsOf_28 : decode cX12_fitsOf 28 = .ok (.aload_n 0, 1) := by decide +kernel
theorem dX12_fitsOf_29 : decode cX12_fitsOf 29 = .ok (.iload_n 3, 1) := by decide +kernel
theorem dX12_fitsOf_30 : decode cX12_fitsOf 30 = .ok (.iload_n 1, 1) := by decide +kernel
theorem dX12_fitsOf_31 : decode cX12_fitsOf 31 = .ok (.invokevirtual 435, 3) := by decide +kernel
theorem dX12_fitsOf_34 : decode cX12_fitsOf 34 = .ok (.ifCond .eq 9, 3) := by decide +kernel
theorem dX12_fitsOf_37 : decode cX12_fitsOf 37 = .ok (.iconst 1, 1) := by decide +kernel
theorem dX12_fitsOf_38 : decode cX12_fitsOf 38 = .ok (.iload_n 3, 1) := by decide +kernel
theorem dX12_fitsOf_39 : decode cX12_fitsOf 39 = .ok (.ishl, 1) := by decide +kernel
theorem dX12_fitsOf_40 : decode cX12_fitsOf 40 = .ok (.goto 4, 3) := by decide +kernel
theorem dX12_fitsOf_43 : decode cX12_fitsOf 43 = .ok (.iconst 0, 1) := by decide +kernel
theorem dX12_fitsOf_44 : decode cX12_fitsOf 44 = .ok (.ior, 1) := by decide +kernel
theorem dX12_fitsOf_45 : decode cX12_fitsOf 45 = .ok (.istore_n 2, 1) := by decide +kernel
theorem dX12_fitsOf_46 : decode cX12_fitsOf 46 = .ok (.iinc 3 1, 3) := by decide +kernel
theorem dX12_fitsOf_49 : decode cX12_fitsOf 49 = .ok (.goto (-45), 3) := by decide +kernel
theorem dX12_fitsOf_52 : decode cX12_fitsOf 52 = .ok (.iload_n 2, 1) := by decide +kernel
theorem dX12_fitsOf_53 : decode cX12_fitsOf 53 = .ok (.ireturn, 1) := by decide +kernel
set_option maxHeartbeats 4000000 in
set_option maxRecDepth 100000 in
theorem c_X12_fitsOf (l : Launch) (D : va_G) (tys : List (ClassId × FieldType)) (base : Nat) (G : iv_G) (h0 : Nat) (g_h0 : Nat → Int32) (r_h0 : Nat → Nat) (a_h0 : G h0 = some (12, g_h0, r_h0)) (x_0 : Int32) (i_x_0 : iv_R 0 19 x_0) : Met l yX12_fitsOf (Cond.code yX12_fitsOf cX12_fitsOf 4 (some .int) :: iv_W0) ({ frames := 3, cells := 0, slots := 0, locals := 69 }) (iv_Pc iv_sh D classes tys base G [.ref h0, .int x_0]) (iv_Qi iv_sh D classes tys base (fun v G' => G = G' ∧ iv_R 0 2047 v)) 0 0 (iv_A base) := by
  refine iv_head (by decide) (Nat.le_of_ble_eq_true rfl) ?_
  intro p e s m args below meth c ls X hr hlocks hname hB hl
  have X := X
  have hx := X.1.1
  have hb := X.1.2.1
  have hl : lv_has ls 4 [(0, .ref h0), (1, .int x_0)] := hl
  refine lv_iconst (v := 0) hx hb dX12_fitsOf_0 (by decide) ?_
  refine lv_istore_n (lv' := [(2, .int 0), (0, .ref h0), (1, .int x_0)]) hx hb dX12_fitsOf_1 rfl hl (by decide) rfl (fun ls hl => ?_)
  refine lv_iconst (v := 0) hx hb dX12_fitsOf_2 (by decide) ?_
  refine lv_istore_n (lv' := [(3, .int 0), (2, .int 0), (0, .ref h0), (1, .int x_0)]) hx hb dX12_fitsOf_3 rfl hl (by decide) rfl (fun ls hl => ?_)
  have L_4 : ∀ (n_4 : Nat) (H : Heap) (locs : List Loc) (hB : iv_B iv_sh D classes tys base G s.heap H locs) (x1 : Int32) (i_x1 : iv_R 0 2047 x1) (x2 : Int32) (i_x2 : iv_R 0 10 x2) (hn_4 : (11 - x2.toInt).toNat < n_4) (ls : Array Slot) (hl : lv_has ls 4 [(3, .int x2), (2, .int x1), (0, .ref h0), (1, .int x_0)]), W p l e ({ frames := 3, cells := 0, slots := 0, locals := 69 } : Room) s m args below meth c H locs 0 0 (MQ below (iv_Qi iv_sh D classes tys base (fun v G' => G = G' ∧ iv_R 0 2047 v)) args s 0 0 (iv_A base)) (F0 m 4 ls []) := by
    intro n_4
    induction n_4 with
    | zero => intro H locs hB x1 i_x1 x2 i_x2 hn_4 ls hl; exact absurd hn_4 (Nat.not_lt_zero _)
    | succ n_4 ih_4 =>
      intro H locs hB x1 i_x1 x2 i_x2 hn_4 ls hl
      refine lv_iload_n hx hb dX12_fitsOf_4 rfl (lv_at hl 0 rfl) ?_
      refine lv_aload_n hx hb dX12_fitsOf_5 rfl (lv_at hl 2 rfl) ?_
      refine iv_getr X ft_X12 hB a_h0 sh_12 0 (by decide) rfl k_fl_X12_7 dX12_fitsOf_6 (fun b3 g_b3 r_b3 e_b3 a_b3 => ?_)
      refine lv_sipush (v := 146) hx hb dX12_fitsOf_9 (by decide) ?_
      refine iv_wald_c X hB a_b3 q_146 (by decide) (lo := 0) (hi' := 10) (by decide) dX12_fitsOf_12 (fun x4 e_x4 i_x4 => ?_)
      refine lv_icmp_ge (tgt := 52) hx hb dX12_fitsOf_13 (by decide) (fun c5 => ?_) (fun c5 => ?_)
      · skip
        refine lv_iload_n hx hb dX12_fitsOf_52 rfl (lv_at hl 1 rfl) ?_
        exact iv_iret X hr hlocks hB ⟨rfl, i_x1⟩ dX12_fitsOf_53
      · skip
        have i5_x2 : iv_R 0 9 x2 := (i_x2.cutHi (n := 9) (iv_lt_r (iv_nle c5) i_x4 (by decide)))
        have i6_x4 : iv_R 1 10 x4 := (i_x4.cutLo (n := 1) (iv_lt_l (iv_nle c5) i_x2 (by decide)))
        refine lv_iload_n hx hb dX12_fitsOf_16 rfl (lv_at hl 1 rfl) ?_
        refine lv_aload_n hx hb dX12_fitsOf_17 rfl (lv_at hl 2 rfl) ?_
        refine lv_iload_n hx hb dX12_fitsOf_18 rfl (lv_at hl 0 rfl) ?_
        refine lv_bipush (v := 6) hx hb dX12_fitsOf_19 (by decide) ?_
        refine iv_cVi X k_good k_mf_X12_ofBell k_im_X12_ofBell k_sel_X12_ofBell k_ml_X12_282 ft_X12 hB a_h0 sh_12 (As := [.int x2, .int 6]) (c_X12_ofBell l D tys base G h0 g_h0 r_h0 a_h0 x2 i5_x2 6 (q_6.wk (by decide))) ⟨rfl, rfl⟩ ⟨Nat.le_of_ble_eq_true rfl, Nat.le_of_ble_eq_true rfl⟩ ⟨Nat.le_of_ble_eq_true rfl, Nat.le_of_ble_eq_true rfl⟩ rfl rfl hl.1 (Nat.le_of_ble_eq_true rfl) dX12_fitsOf_21 (fun x8 G9 H locs hq hB => ?_)
        obtain ⟨rfl, i_x8, cp9, cp10⟩ := hq
        refine lv_iconst (v := 2) hx hb dX12_fitsOf_24 (by decide) ?_
        refine lv_icmp_eq (tgt := 43) hx hb dX12_fitsOf_25 (by decide) (fun c11 => ?_) (fun c11 => ?_)
        · skip
          have i11_x8 : iv_R 2 2 x8 := ((i_x8.cutLo (n := 2) (iv_eq_r c11 q_2).1).cutHi (n := 2) (iv_eq_r c11 q_2).2)
          refine lv_iconst (v := 0) hx hb dX12_fitsOf_43 (by decide) ?_
          refine iv_ior hx hb i_x1 q_0 (k := 11) (hi := 2047) (by decide) dX12_fitsOf_44 (fun x13 e_x13 i_x13 => ?_)
          refine lv_istore_n (lv' := [(2, .int x13), (3, .int x2), (0, .ref h0), (1, .int x_0)]) hx hb dX12_fitsOf_45 rfl hl (by decide) rfl (fun ls hl => ?_)
          refine iv_iinc hx hb i5_x2 (lo := 1) (hi := 10) (by decide) dX12_fitsOf_46 hl (k := 1) rfl (by decide) (fun x14 ls e_x14 i_x14 hl => ?_)
          have hl : lv_has ls 4 [(3, .int x14), (2, .int x13), (0, .ref h0), (1, .int x_0)] := hl
          refine lv_goto (tgt := 4) hx hb dX12_fitsOf_49 (by decide) ?_
          exact ih_4 _ _ hB x13 i_x13 x14 (i_x14.wk (by decide)) (iv_mup (c := 1) i_x2 (by decide) (by decide) (by omega) hn_4) _ (lv_sub hl [0, 1, 2, 3] rfl)
        · skip
          refine lv_aload_n hx hb dX12_fitsOf_28 rfl (lv_at hl 2 rfl) ?_
          refine lv_iload_n hx hb dX12_fitsOf_29 rfl (lv_at hl 0 rfl) ?_
          refine lv_iload_n hx hb dX12_fitsOf_30 rfl (lv_at hl 3 rfl) ?_
          refine iv_cVi X k_good k_mf_X12_isOfTurns k_im_X12_isOfTurns k_sel_X12_isOfTurns k_ml_X12_435 ft_X12 hB a_h0 sh_12 (As := [.int x2, .int x_0]) (c_X12_isOfTurns l D tys base G h0 g_h0 r_h0 a_h0 x2 i5_x2 x_0 i_x_0) ⟨rfl, rfl⟩ ⟨Nat.le_of_ble_eq_true rfl, Nat.le_of_ble_eq_true rfl⟩ ⟨Nat.le_of_ble_eq_true rfl, Nat.le_of_ble_eq_true rfl⟩ rfl rfl hl.1 (Nat.le_of_ble_eq_true rfl) dX12_fitsOf_31 (fun x15 G9 H locs hq hB => ?_)
          obtain ⟨rfl, i_x15⟩ := hq
          refine lv_if_eq (tgt := 43) hx hb dX12_fitsOf_34 (by decide) (fun c16 => ?_) (fun c16 => ?_)
          · skip
            have i16_x15 : iv_R 0 0 x15 := (i_x15.cutHi (n := 0) (iv_eq_r c16 q_0).2)
            refine lv_iconst (v := 0) hx hb dX12_fitsOf_43 (by decide) ?_
            refine iv_ior hx hb i_x1 q_0 (k := 11) (hi := 2047) (by decide) dX12_fitsOf_44 (fun x18 e_x18 i_x18 => ?_)
            refine lv_istore_n (lv' := [(2, .int x18), (3, .int x2), (0, .ref h0), (1, .int x_0)]) hx hb dX12_fitsOf_45 rfl hl (by decide) rfl (fun ls hl => ?_)
            refine iv_iinc hx hb i5_x2 (lo := 1) (hi := 10) (by decide) dX12_fitsOf_46 hl (k := 1) rfl (by decide) (fun x19 ls e_x19 i_x19 hl => ?_)
            have hl : lv_has ls 4 [(3, .int x19), (2, .int x18), (0, .ref h0), (1, .int x_0)] := hl
            refine lv_goto (tgt := 4) hx hb dX12_fitsOf_49 (by decide) ?_
            exact ih_4 _ _ hB x18 i_x18 x19 (i_x19.wk (by decide)) (iv_mup (c := 1) i_x2 (by decide) (by decide) (by omega) hn_4) _ (lv_sub hl [0, 1, 2, 3] rfl)
          · skip
            have i19_x15 : iv_R 1 1 x15 := iv_ne_lo c16 i_x15 q_0 (by decide)
            refine lv_iconst (v := 1) hx hb dX12_fitsOf_37 (by decide) ?_
            refine lv_iload_n hx hb dX12_fitsOf_38 rfl (lv_at hl 0 rfl) ?_
            refine iv_shl1 hx hb i5_x2 (lo := 1) (hi := 512) (by decide) dX12_fitsOf_39 (fun x21 e_x21 i_x21 => ?_)
            refine lv_goto (tgt := 44) hx hb dX12_fitsOf_40 (by decide) ?_
            refine iv_ior hx hb i_x1 i_x21 (k := 11) (hi := 2047) (by decide) dX12_fitsOf_44 (fun x22 e_x22 i_x22 => ?_)
            refine lv_istore_n (lv' := [(2, .int x22), (3, .int x2), (0, .ref h0), (1, .int x_0)]) hx hb dX12_fitsOf_45 rfl hl (by decide) rfl (fun ls hl => ?_)
            refine iv_iinc hx hb i5_x2 (lo := 1) (hi := 10) (by decide) dX12_fitsOf_46 hl (k := 1) rfl (by decide) (fun x23 ls e_x23 i_x23 hl => ?_)
            have hl : lv_has ls 4 [(3, .int x23), (2, .int x22), (0, .ref h0), (1, .int x_0)] := hl
            refine lv_goto (tgt := 4) hx hb dX12_fitsOf_49 (by decide) ?_
            exact ih_4 _ _ hB x22 i_x22 x23 (i_x23.wk (by decide)) (iv_mup (c := 1) i_x2 (by decide) (by decide) (by omega) hn_4) _ (lv_sub hl [0, 1, 2, 3] rfl)
  exact L_4 _ _ _ hB 0 (q_0.wk (by decide)) 0 (q_0.wk (by decide)) (Nat.lt_succ_self _) _ (lv_sub hl [0, 1, 2, 3] rfl)
theorem dX12_greater_0 : decode cX12_greater 0 = .ok (.iload_n 0, 1) := by decide +kernel
theorem dX12_greater_1 : decode cX12_greater 1 = .ok (.iload_n 1, 1) := by decide +kernel
theorem dX12_greater_2 : decode cX12_greater 2 = .ok (.if_icmp .le 7, 3) := by decide +kernel
theorem dX12_greater_5 : decode cX12_greater 5 = .ok (.iload_n 0, 1) := by decide +kernel
theorem dX12_greater_6 : decode cX12_greater 6 = .ok (.goto 4, 3) := by decide +kernel
theorem dX12_greater_9 : decode cX12_greater 9 = .ok (.iload_n 1, 1) := by decide +kernel
theorem dX12_greater_10 : decode cX12_greater 10 = .ok (.ireturn, 1) := by decide +kernel
set_option maxHeartbeats 4000000 in
set_option maxRecDepth 100000 in
theorem c_X12_greater (l : Launch) (D : va_G) (tys : List (ClassId × FieldType)) (base : Nat) (G : iv_G) (x_0 : Int32) (i_x_0 : iv_R (-2147483648) 2147483647 x_0) (x_1 : Int32) (i_x_1 : iv_R (-2147483648) 2147483647 x_1) : Met l yX12_greater (Cond.code yX12_greater cX12_greater 2 (some .int) :: iv_W0) ({ frames := 0, cells := 0, slots := 0, locals := 0 }) (iv_Pc iv_sh D classes tys base G [.int x_0, .int x_1]) (iv_Qi iv_sh D classes tys base (fun v G' => G = G' ∧ iv_R (-2147483648) 2147483647 v)) 0 0 (iv_A base) := by
  refine iv_head (by decide) (Nat.le_of_ble_eq_true rfl) ?_
  intro p e s m args below meth c ls X hr hlocks hname hB hl
  have X := X
  have hx := X.1.1
  have hb := X.1.2.1
  have hl : lv_has ls 2 [(0, .int x_0), (1, .int x_1)] := hl
  refine lv_iload_n hx hb dX12_greater_0 rfl (lv_at hl 0 rfl) ?_
  refine lv_iload_n hx hb dX12_greater_1 rfl (lv_at hl 1 rfl) ?_
  refine lv_icmp_le (tgt := 9) hx hb dX12_greater_2 (by decide) (fun c1 => ?_) (fun c1 => ?_)
  · skip
    refine lv_iload_n hx hb dX12_greater_9 rfl (lv_at hl 1 rfl) ?_
    exact iv_iret X hr hlocks hB ⟨rfl, i_x_1⟩ dX12_greater_10
  · skip
    have i1_x_1 : iv_R (-2147483648) 2147483646 x_1 := (i_x_1.cutHi (n := 2147483646) (iv_lt_r (iv_nle c1) i_x_0 (by decide)))
    have i2_x_0 : iv_R (-2147483647) 2147483647 x_0 := (i_x_0.cutLo (n := (-2147483647)) (iv_lt_l (iv_nle c1) i_x_1 (by decide)))
    refine lv_iload_n hx hb dX12_greater_5 rfl (lv_at hl 0 rfl) ?_
    refine lv_goto (tgt := 10) hx hb dX12_greater_6 (by decide) ?_
    exact iv_iret X hr hlocks hB ⟨rfl, (i2_x_0.wk (by decide))⟩ dX12_greater_10
theorem dX12_greaterPart_0 : decode cX12_greaterPart 0 = .ok (.iconst 0, 1) := by decide +kernel
theorem dX12_greaterPart_1 : decode cX12_greaterPart 1 = .ok (.istore_n 3, 1) := by decide +kernel
theorem dX12_greaterPart_2 : decode cX12_greaterPart 2 = .ok (.iconst 0, 1) := by decide +kernel
theorem dX12_greaterPart_3 : decode cX12_greaterPart 3 = .ok (.istore 4, 2) := by decide +kernel
theorem dX12_greaterPart_5 : decode cX12_greaterPart 5 = .ok (.iload 4, 2) := by decide +kernel
theorem dX12_greaterPart_7 : decode cX12_greaterPart 7 = .ok (.aload_n 0, 1) := by decide +kernel
theorem dX12_greaterPart_8 : decode cX12_greaterPart 8 = .ok (.getfield 7, 3) := by decide +kernel
theorem dX12_greaterPart_11 : decode cX12_greaterPart 11 = .ok (.sipush 146, 3) := by decide +kernel
theorem dX12_greaterPart_14 : decode cX12_greaterPart 14 = .ok (.iaload, 1) := by decide +kernel
theorem dX12_greaterPart_15 : decode cX12_greaterPart 15 = .ok (.if_icmp .ge 37, 3) := by decide +kernel
theorem dX12_greaterPart_18 : decode cX12_greaterPart 18 = .ok (.iload_n 3, 1) := by decide +kernel
theorem dX12_greaterPart_19 : decode cX12_greaterPart 19 = .ok (.iload_n 1, 1) := by decide +kernel
theorem dX12_greaterPart_20 : decode cX12_greaterPart 20 = .ok (.iload 4, 2) := by decide +kernel
theorem dX12_greaterPart_22 : decode cX12_greaterPart 22 = .ok (.ishr, 1) := by decide +kernel
theorem dX12_greaterPart_23 : decode cX12_greaterPart 23 = .ok (.iconst 1, 1) := by decide +kernel
theorem dX12_greaterPart_24 : decode cX12_greaterPart 24 = .ok (.iand, 1) := by decide +kernel
theorem dX12_greaterPart_25 : decode cX12_greaterPart 25 = .ok (.iconst 1, 1) := by decide +kernel
theorem dX12_greaterPart_26 : decode cX12_greaterPart 26 = .ok (.if_icmp .ne 17, 3) := by decide +kernel
theorem dX12_greaterPart_29 : decode cX12_greaterPart 29 = .ok (.aload_n 0, 1) := by decide +kernel
theorem dX12_greaterPart_30 : decode cX12_greaterPart 30 = .ok (.iload 4, 2) := by decide +kernel
theorem dX12_greaterPart_32 : decode cX12_greaterPart 32 = .ok (.iload_n 2, 1) := by decide +kernel
theorem dX12_greaterPart_33 : decode cX12_greaterPart 33 = .ok (.invokevirtual 299, 3) := by decide +kernel
theorem dX12_greaterPart_36 : decode cX12_greaterPart 36 = .ok (.ifCond .eq 7, 3) := by decide +kernel
theorem dX12_greaterPart_39 : decode cX12_greaterPart 39 = .ok (.iconst 1, 1) := by decide +kernel
theorem dX12_greaterPart_40 : decode cX12_greaterPart 40 = .ok (.goto 4, 3) := by decide +kernel
theorem dX12_greaterPart_43 : decode cX12_greaterPart 43 = .ok (.iconst 0, 1) := by decide +kernel
theorem dX12_greaterPart_44 : decode cX12_greaterPart 44 = .ok (.iadd, 1) := by decide +kernel
theorem dX12_greaterPart_45 : decode cX12_greaterPart 45 = .ok (.istore_n 3, 1) := by decide +kernel
theorem dX12_greaterPart_46 : decode cX12_greaterPart 46 = .ok (.iinc 4 1, 3) := by decide +kernel
theorem dX12_greaterPart_49 : decode cX12_greaterPart 49 = .ok (.goto (-44), 3) := by decide +kernel
theorem dX12_greaterPart_52 : decode cX12_greaterPart 52 = .ok (.iload_n 3, 1) := by decide +kernel
theorem dX12_greaterPart_53 : decode cX12_greaterPart 53 = .ok (.iload_n 1, 1) := by decide +kernel
theorem dX12_greaterPart_54 : decode cX12_greaterPart 54 = .ok (.invokestatic 320, 3) := by decide +kernel
theorem dX12_greaterPart_57 : decode cX12_greaterPart 57 = .ok (.iload_n 3, 1) := by decide +kernel
theorem dX12_greaterPart_58 : decode cX12_greaterPart 58 = .ok (.isub, 1) := by decide +kernel
theorem dX12_greaterPart_59 : decode cX12_greaterPart 59 = .ok (.invokestatic 279, 3) := by decide +kernel
theorem dX12_greaterPart_62 : decode cX12_greaterPart 62 = .ok (.ireturn, 1) := by decide +kernel
set_option maxHeartbeats 4000000 in
set_option maxRecDepth 100000 in
theorem c_X12_greaterPart (l : Launch) (D : va_G) (tys : List (ClassId × FieldType)) (base : Nat) (G : iv_G) (h0 : Nat) (g_h0 : Nat → Int32) (r_h0 : Nat → Nat) (a_h0 : G h0 = some (12, g_h0, r_h0)) (x_0 : Int32) (i_x_0 : iv_R 0 2047 x_0) (x_1 : Int32) (i_x_1 : iv_R 0 23 x_1) : Met l yX12_greaterPart (Cond.code yX12_greaterPart cX12_greaterPart 5 (some .int) :: iv_W0) ({ frames := 2, cells := 0, slots := 0, locals := 45 }) (iv_Pc iv_sh D classes tys base G [.ref h0, .int x_0, .int x_1]) (iv_Qi iv_sh D classes tys base (fun v G' => G = G' ∧ iv_R (-2147483648) 2147483647 v)) 0 0 (iv_A base) := by
  refine iv_head (by decide) (Nat.le_of_ble_eq_true rfl) ?_
  intro p e s m args below meth c ls X hr hlocks hname hB hl
  have X := X
  have hx := X.1.1
  have hb := X.1.2.1
  have hl : lv_has ls 5 [(0, .ref h0), (1, .int x_0), (2, .int x_1)] := hl
  refine lv_iconst (v := 0) hx hb dX12_greaterPart_0 (by decide) ?_
  refine lv_istore_n (lv' := [(3, .int 0), (0, .ref h0), (1, .int x_0), (2, .int x_1)]) hx hb dX12_greaterPart_1 rfl hl (by decide) rfl (fun ls hl => ?_)
  refine lv_iconst (v := 0) hx hb dX12_greaterPart_2 (by decide) ?_
  refine lv_istore (lv' := [(4, .int 0), (3, .int 0), (0, .ref h0), (1, .int x_0), (2, .int x_1)]) hx hb dX12_greaterPart_3 hl (by decide) rfl (fun ls hl => ?_)
  have L_5 : ∀ (n_5 : Nat) (H : Heap) (locs : List Loc) (hB : iv_B iv_sh D classes tys base G s.heap H locs) (x1 : Int32) (i_x1 : iv_R (-2147483648) 2147483647 x1) (x2 : Int32) (i_x2 : iv_R 0 10 x2) (hn_5 : (11 - x2.toInt).toNat < n_5) (ls : Array Slot) (hl : lv_has ls 5 [(4, .int x2), (3, .int x1), (0, .ref h0), (1, .int x_0), (2, .int x_1)]), W p l e ({ frames := 2, cells := 0, slots := 0, locals := 45 } : Room) s m args below meth c H locs 0 0 (MQ below (iv_Qi iv_sh D classes tys base (fun v G' => G = G' ∧ iv_R (-2147483648) 2147483647 v)) args s 0 0 (iv_A base)) (F0 m 5 ls []) := by
    intro n_5
    induction n_5 with
    | zero => intro H locs hB x1 i_x1 x2 i_x2 hn_5 ls hl; exact absurd hn_5 (Nat.not_lt_zero _)
    | succ n_5 ih_5 =>
      intro H locs hB x1 i_x1 x2 i_x2 hn_5 ls hl
      refine lv_iload hx hb dX12_greaterPart_5 (lv_at hl 0 rfl) ?_
      refine lv_aload_n hx hb dX12_greaterPart_7 rfl (lv_at hl 2 rfl) ?_
      refine iv_getr X ft_X12 hB a_h0 sh_12 0 (by decide) rfl k_fl_X12_7 dX12_greaterPart_8 (fun b3 g_b3 r_b3 e_b3 a_b3 => ?_)
      refine lv_sipush (v := 146) hx hb dX12_greaterPart_11 (by decide) ?_
      refine iv_wald_c X hB a_b3 q_146 (by decide) (lo := 0) (hi' := 10) (by decide) dX12_greaterPart_14 (fun x4 e_x4 i_x4 => ?_)
      refine lv_icmp_ge (tgt := 52) hx hb dX12_greaterPart_15 (by decide) (fun c5 => ?_) (fun c5 => ?_)
      · skip
        refine lv_iload_n hx hb dX12_greaterPart_52 rfl (lv_at hl 1 rfl) ?_
        refine lv_iload_n hx hb dX12_greaterPart_53 rfl (lv_at hl 3 rfl) ?_
        refine iv_cSi X k_good k_mf_X12_count k_st_X12_count k_ml_X12_320 hB (As := [.int x_0]) (c_X12_count l D tys base G x_0 (i_x_0.wk (by decide))) ⟨rfl, rfl⟩ ⟨Nat.le_of_ble_eq_true rfl, Nat.le_of_ble_eq_true rfl⟩ ⟨Nat.le_of_ble_eq_true rfl, Nat.le_of_ble_eq_true rfl⟩ rfl rfl hl.1 (Nat.le_of_ble_eq_true rfl) dX12_greaterPart_54 (fun x6 G9 H locs hq hB => ?_)
        obtain ⟨rfl, i_x6⟩ := hq
        refine lv_iload_n hx hb dX12_greaterPart_57 rfl (lv_at hl 1 rfl) ?_
        refine lv_isub hx hb dX12_greaterPart_58 ?_
        refine lv_topi (fun x7 e_x7 => ?_)
        have i_x7 := iv_R.all x7
        refine iv_cSi X k_good k_mf_X12_greater k_st_X12_greater k_ml_X12_279 hB (As := [.int x1, .int x7]) (c_X12_greater l D tys base G x1 i_x1 x7 i_x7) ⟨rfl, rfl⟩ ⟨Nat.le_of_ble_eq_true rfl, Nat.le_of_ble_eq_true rfl⟩ ⟨Nat.le_of_ble_eq_true rfl, Nat.le_of_ble_eq_true rfl⟩ rfl rfl hl.1 (Nat.le_of_ble_eq_true rfl) dX12_greaterPart_59 (fun x8 G9 H locs hq hB => ?_)
        obtain ⟨rfl, i_x8⟩ := hq
        exact iv_iret X hr hlocks hB ⟨rfl, i_x8⟩ dX12_greaterPart_62
      · skip
        have i8_x2 : iv_R 0 9 x2 := (i_x2.cutHi (n := 9) (iv_lt_r (iv_nle c5) i_x4 (by decide)))
        have i9_x4 : iv_R 1 10 x4 := (i_x4.cutLo (n := 1) (iv_lt_l (iv_nle c5) i_x2 (by decide)))
        refine lv_iload_n hx hb dX12_greaterPart_18 rfl (lv_at hl 1 rfl) ?_
        refine lv_iload_n hx hb dX12_greaterPart_19 rfl (lv_at hl 3 rfl) ?_
        refine lv_iload hx hb dX12_greaterPart_20 (lv_at hl 0 rfl) ?_
        refine lv_ishr hx hb dX12_greaterPart_22 ?_
        refine lv_topi (fun x11 e_x11 => ?_)
        have i_x11 := iv_R.all x11
        refine lv_iconst (v := 1) hx hb dX12_greaterPart_23 (by decide) ?_
        refine iv_iand_r hx hb q_1 (by decide) dX12_greaterPart_24 (fun x12 e_x12 i_x12 => ?_)
        refine lv_iconst (v := 1) hx hb dX12_greaterPart_25 (by decide) ?_
        refine lv_icmp_ne (tgt := 43) hx hb dX12_greaterPart_26 (by decide) (fun c13 => ?_) (fun c13 => ?_)
        · skip
          have i13_x12 : iv_R 0 0 x12 := iv_ne_hi c13 i_x12 q_1 (by decide)
          refine lv_iconst (v := 0) hx hb dX12_greaterPart_43 (by decide) ?_
          refine iv_iadd hx hb i_x1 q_0 (lo := (-2147483648)) (hi := 2147483647) (by decide) dX12_greaterPart_44 (fun x15 e_x15 i_x15 => ?_)
          refine lv_istore_n (lv' := [(3, .int x15), (4, .int x2), (0, .ref h0), (1, .int x_0), (2, .int x_1)]) hx hb dX12_greaterPart_45 rfl hl (by decide) rfl (fun ls hl => ?_)
          refine iv_iinc hx hb i8_x2 (lo := 1) (hi := 10) (by decide) dX12_greaterPart_46 hl (k := 1) rfl (by decide) (fun x16 ls e_x16 i_x16 hl => ?_)
          have hl : lv_has ls 5 [(4, .int x16), (3, .int x15), (0, .ref h0), (1, .int x_0), (2, .int x_1)] := hl
          refine lv_goto (tgt := 5) hx hb dX12_greaterPart_49 (by decide) ?_
          exact ih_5 _ _ hB x15 i_x15 x16 (i_x16.wk (by decide)) (iv_mup (c := 1) i_x2 (by decide) (by decide) (by omega) hn_5) _ (lv_sub hl [0, 1, 2, 3, 4] rfl)
        · skip
          have i16_x12 : iv_R 1 1 x12 := (i_x12.cutLo (n := 1) (iv_eq_r c13 q_1).1)
          refine lv_aload_n hx hb dX12_greaterPart_29 rfl (lv_at hl 2 rfl) ?_
          refine lv_iload hx hb dX12_greaterPart_30 (lv_at hl 0 rfl) ?_
          refine lv_iload_n hx hb dX12_greaterPart_32 rfl (lv_at hl 4 rfl) ?_
          refine iv_cVi X k_good k_mf_X12_hasLine k_im_X12_hasLine k_sel_X12_hasLine k_ml_X12_299 ft_X12 hB a_h0 sh_12 (As := [.int x2, .int x_1]) (c_X12_hasLine l D tys base G h0 g_h0 r_h0 a_h0 x2 i8_x2 x_1 (i_x_1.wk (by decide))) ⟨rfl, rfl⟩ ⟨Nat.le_of_ble_eq_true rfl, Nat.le_of_ble_eq_true rfl⟩ ⟨Nat.le_of_ble_eq_true rfl, Nat.le_of_ble_eq_true rfl⟩ rfl rfl hl.1 (Nat.le_of_ble_eq_true rfl) dX12_greaterPart_33 (fun x18 G9 H locs hq hB => ?_)
          obtain ⟨rfl, i_x18⟩ := hq
          refine lv_if_eq (tgt := 43) hx hb dX12_greaterPart_36 (by decide) (fun c19 => ?_) (fun c19 => ?_)
          · skip
            have i19_x18 : iv_R 0 0 x18 := (i_x18.cutHi (n := 0) (iv_eq_r c19 q_0).2)
            refine lv_iconst (v := 0) hx hb dX12_greaterPart_43 (by decide) ?_
            refine iv_iadd hx hb i_x1 q_0 (lo := (-2147483648)) (hi := 2147483647) (by decide) dX12_greaterPart_44 (fun x21 e_x21 i_x21 => ?_)
            refine lv_istore_n (lv' := [(3, .int x21), (4, .int x2), (0, .ref h0), (1, .int x_0), (2, .int x_1)]) hx hb dX12_greaterPart_45 rfl hl (by decide) rfl (fun ls hl => ?_)
            refine iv_iinc hx hb i8_x2 (lo := 1) (hi := 10) (by decide) dX12_greaterPart_46 hl (k := 1) rfl (by decide) (fun x22 ls e_x22 i_x22 hl => ?_)
            have hl : lv_has ls 5 [(4, .int x22), (3, .int x21), (0, .ref h0), (1, .int x_0), (2, .int x_1)] := hl
            refine lv_goto (tgt := 5) hx hb dX12_greaterPart_49 (by decide) ?_
            exact ih_5 _ _ hB x21 i_x21 x22 (i_x22.wk (by decide)) (iv_mup (c := 1) i_x2 (by decide) (by decide) (by omega) hn_5) _ (lv_sub hl [0, 1, 2, 3, 4] rfl)
          · skip
            have i22_x18 : iv_R 1 1 x18 := iv_ne_lo c19 i_x18 q_0 (by decide)
            refine lv_iconst (v := 1) hx hb dX12_greaterPart_39 (by decide) ?_
            refine lv_goto (tgt := 44) hx hb dX12_greaterPart_40 (by decide) ?_
            refine lv_iadd hx hb dX12_greaterPart_44 ?_
            refine lv_topi (fun x24 e_x24 => ?_)
            have i_x24 := iv_R.all x24
            refine lv_istore_n (lv' := [(3, .int x24), (4, .int x2), (0, .ref h0), (1, .int x_0), (2, .int x_1)]) hx hb dX12_greaterPart_45 rfl hl (by decide) rfl (fun ls hl => ?_)
            refine iv_iinc hx hb i8_x2 (lo := 1) (hi := 10) (by decide) dX12_greaterPart_46 hl (k := 1) rfl (by decide) (fun x25 ls e_x25 i_x25 hl => ?_)
            have hl : lv_has ls 5 [(4, .int x25), (3, .int x24), (0, .ref h0), (1, .int x_0), (2, .int x_1)] := hl
            refine lv_goto (tgt := 5) hx hb dX12_greaterPart_49 (by decide) ?_
            exact ih_5 _ _ hB x24 i_x24 x25 (i_x25.wk (by decide)) (iv_mup (c := 1) i_x2 (by decide) (by decide) (by omega) hn_5) _ (lv_sub hl [0, 1, 2, 3, 4] rfl)
  exact L_5 _ _ _ hB 0 (q_0.wk (by decide)) 0 (q_0.wk (by decide)) (Nat.lt_succ_self _) _ (lv_sub hl [0, 1, 2, 3, 4] rfl)
theorem dX12_isChild_0 : decode cX12_isChild 0 = .ok (.iload_n 1, 1) := by decide +kernel
theorem dX12_isChild_1 : decode cX12_isChild 1 = .ok (.iconst 0, 1) := by decide +kernel
theorem dX12_isChild_2 : decode cX12_isChild 2 = .ok (.aload_n 0, 1) := by decide +kernel
theorem dX12_isChild_3 : decode cX12_isChild 3 = .ok (.getfield 7, 3) := by decide +kernel
theorem dX12_isChild_6 : decode cX12_isChild 6 = .ok (.iconst 4, 1) := by decide +kernel
theorem dX12_isChild_7 : decode cX12_isChild 7 = .ok (.iaload, 1) := by decide +kernel
theorem dX12_isChild_8 : decode cX12_isChild 8 = .ok (.iconst 1, 1) := by decide +kernel
theorem dX12_isChild_9 : decode cX12_isChild 9 = .ok (.isub, 1) := by decide +kernel
theorem dX12_isChild_10 : decode cX12_isChild 10 = .ok (.invokestatic 56, 3) := by decide +kernel
theorem dX12_isChild_13 : decode cX12_isChild 13 = .ok (.ireturn, 1) := by decide +kernel
set_option maxHeartbeats 4000000 in
set_option maxRecDepth 100000 in
theorem c_X12_isChild (l : Launch) (D : va_G) (tys : List (ClassId × FieldType)) (base : Nat) (G : iv_G) (h0 : Nat) (g_h0 : Nat → Int32) (r_h0 : Nat → Nat) (a_h0 : G h0 = some (12, g_h0, r_h0)) (x_0 : Int32) (i_x_0 : iv_R (-2147483648) 2147483647 x_0) : Met l yX12_isChild (Cond.code yX12_isChild cX12_isChild 2 (some .boolean) :: iv_W0) ({ frames := 1, cells := 0, slots := 0, locals := 22 }) (iv_Pc iv_sh D classes tys base G [.ref h0, .int x_0]) (iv_Qi iv_sh D classes tys base (fun v G' => G = G' ∧ iv_R 0 1 v ∧ (¬ v = 0 → iv_R 0 19 x_0))) 0 0 (iv_A base) := by
  refine iv_head (by decide) (Nat.le_of_ble_eq_true rfl) ?_
  intro p e s m args below meth c ls X hr hlocks hname hB hl
  have X := X
  have hx := X.1.1
  have hb := X.1.2.1
  have hl : lv_has ls 2 [(0, .ref h0), (1, .int x_0)] := hl
  refine lv_iload_n hx hb dX12_isChild_0 rfl (lv_at hl 1 rfl) ?_
  refine lv_iconst (v := 0) hx hb dX12_isChild_1 (by decide) ?_
  refine lv_aload_n hx hb dX12_isChild_2 rfl (lv_at hl 0 rfl) ?_
  refine iv_getr X ft_X12 hB a_h0 sh_12 0 (by decide) rfl k_fl_X12_7 dX12_isChild_3 (fun b1 g_b1 r_b1 e_b1 a_b1 => ?_)
  refine lv_iconst (v := 4) hx hb dX12_isChild_6 (by decide) ?_
  refine iv_wald_c X hB a_b1 q_4 (by decide) (lo := 0) (hi' := 20) (by decide) dX12_isChild_7 (fun x2 e_x2 i_x2 => ?_)
  refine lv_iconst (v := 1) hx hb dX12_isChild_8 (by decide) ?_
  refine iv_isub hx hb i_x2 q_1 (lo := (-1)) (hi := 19) (by decide) dX12_isChild_9 (fun x3 e_x3 i_x3 => ?_)
  refine iv_cSi X k_good k_mf_X12_isIn k_st_X12_isIn k_ml_X12_56 hB (As := [.int x_0, .int 0, .int x3]) (c_X12_isIn l D tys base G x_0 i_x_0 0 (q_0.wk (by decide)) x3 (i_x3.wk (by decide))) ⟨rfl, rfl⟩ ⟨Nat.le_of_ble_eq_true rfl, Nat.le_of_ble_eq_true rfl⟩ ⟨Nat.le_of_ble_eq_true rfl, Nat.le_of_ble_eq_true rfl⟩ rfl rfl hl.1 (Nat.le_of_ble_eq_true rfl) dX12_isChild_10 (fun x4 G9 H locs hq hB => ?_)
  obtain ⟨rfl, i_x4, hp5⟩ := hq
  have k6 : ¬ x4 = 0 → iv_R 0 19 x_0 := fun h => ⟨iv_max i_x_0.1 (Int.le_trans q_0.1 (hp5.1 h).1) (by decide), iv_min i_x_0.2 (Int.le_trans (hp5.1 h).2 i_x3.2) (by decide)⟩
  exact iv_zret X hr hlocks hB i_x4 ⟨rfl, i_x4, fun h => (k6 h).wk (by decide)⟩ dX12_isChild_13
theorem dX12_ask_0 : decode cX12_ask 0 = .ok (.aload_n 0, 1) := by decide +kernel
theorem dX12_ask_1 : decode cX12_ask 1 = .ok (.iload_n 1, 1) := by decide +kernel
theorem dX12_ask_2 : decode cX12_ask 2 = .ok (.invokevirtual 338, 3) := by decide +kernel
theorem dX12_ask_5 : decode cX12_ask 5 = .ok (.ifCond .eq 15, 3) := by decide +kernel
theorem dX12_ask_8 : decode cX12_ask 8 = .ok (.aload_n 0, 1) := by decide +kernel
theorem dX12_ask_9 : decode cX12_ask 9 = .ok (.iload_n 1, 1) := by decide +kernel
theorem dX12_ask_10 : decode cX12_ask 10 = .ok (.invokevirtual 438, 3) := by decide +kernel
theorem dX12_ask_13 : decode cX12_ask 13 = .ok (.invokestatic 320, 3) := by decide +kernel
theorem dX12_ask_16 : decode cX12_ask 16 = .ok (.iconst 2, 1) := by decide +kernel
theorem dX12_ask_17 : decode cX12_ask 17 = .ok (.if_icmp .ge 5, 3) := by decide +kernel
theorem dX12_ask_20 : decode cX12_ask 20 = .ok (.iconst (-1), 1) := by decide +kernel
theorem dX12_ask_21 : decode cX12_ask 21 = .ok (.ireturn, 1) := by decide +kernel
theorem dX12_ask_22 : decode cX12_ask 22 = .ok (.aload_n 0, 1) := by decide +kernel
theorem dX12_ask_23 : decode cX12_ask 23 = .ok (.iload_n 1, 1) := by decide +kernel
theorem dX12_ask_24 : decode cX12_ask 24 = .ok (.invokevirtual 438, 3) := by decide +kernel
theorem dX12_ask_27 : decode cX12_ask 27 = .ok (.istore_n 2, 1) := by decide +kernel
theorem dX12_ask_28 : decode cX12_ask 28 = .ok (.iconst 0, 1) := by decide +kernel
theorem dX12_ask_29 : decode cX12_ask 29 = .ok (.istore_n 3, 1) := by decide +kernel
theorem dX12_ask_30 : decode cX12_ask 30 = .ok (.iconst 1, 1) := by decide +kernel
theorem dX12_ask_31 : decode cX12_ask 31 = .ok (.istore 4, 2) := by decide +kernel
theorem dX12_ask_33 : decode cX12_ask 33 = .ok (.iload 4, 2) := by decide +kernel
theorem dX12_ask_35 : decode cX12_ask 35 = .ok (.bipush 24, 2) := by decide +kernel
theorem dX12_ask_37 : decode cX12_ask 37 = .ok (.if_icmp .ge 28, 3) := by decide +kernel
theorem dX12_ask_40 : decode cX12_ask 40 = .ok (.aload_n 0, 1) := by decide +kernel
theorem dX12_ask_41 : decode cX12_ask 41 = .ok (.iload_n 2, 1) := by decide +kernel
theorem dX12_ask_42 : decode cX12_ask 42 = .ok (.iload 4, 2) := by decide +kernel
theorem dX12_ask_44 : decode cX12_ask 44 = .ok (.invokevirtual 441, 3) := by decide +kernel
theorem dX12_ask_47 : decode cX12_ask 47 = .ok (.aload_n 0, 1) := by decide +kernel
theorem dX12_ask_48 : decode cX12_ask 48 = .ok (.iload_n 2, 1) := by decide +kernel
theorem dX12_ask_49 : decode cX12_ask 49 = .ok (.iload_n 3, 1) := by decide +kernel
theorem dX12_ask_50 : decode cX12_ask 50 = .ok (.invokevirtual 441, 3) := by decide +kernel
theorem dX12_ask_53 : decode cX12_ask 53 = .ok (.if_icmp .ge 6, 3) := by decide +kernel
theorem dX12_ask_56 : decode cX12_ask 56 = .ok (.iload 4, 2) := by decide +kernel
theorem dX12_ask_58 : decode cX12_ask 58 = .ok (.istore_n 3, 1) := by decide +kernel
theorem dX12_ask_59 : decode cX12_ask 59 = .ok (.iinc 4 1, 3) := by decide +kernel
theorem dX12_ask_62 : decode cX12_ask 62 = .ok (.goto (-29), 3) := by decide +kernel
theorem dX12_ask_65 : decode cX12_ask 65 = .ok (.iload_n 3, 1) := by decide +kernel
theorem dX12_ask_66 : decode cX12_ask 66 = .ok (.ireturn, 1) := by decide +kernel
set_option maxHeartbeats 4000000 in
set_option maxRecDepth 100000 in
theorem c_X12_ask (l : Launch) (D : va_G) (tys : List (ClassId × FieldType)) (base : Nat) (G : iv_G) (h0 : Nat) (g_h0 : Nat → Int32) (r_h0 : Nat → Nat) (a_h0 : G h0 = some (12, g_h0, r_h0)) (x_0 : Int32) (i_x_0 : iv_R (-2147483648) 2147483647 x_0) : Met l yX12_ask (Cond.code yX12_ask cX12_ask 5 (some .int) :: iv_W0) ({ frames := 4, cells := 0, slots := 0, locals := 92 }) (iv_Pc iv_sh D classes tys base G [.ref h0, .int x_0]) (iv_Qi iv_sh D classes tys base (fun v G' => G = G' ∧ iv_R (-1) 23 v)) 0 0 (iv_A base) := by
  refine iv_head (by decide) (Nat.le_of_ble_eq_true rfl) ?_
  intro p e s m args below meth c ls X hr hlocks hname hB hl
  have X := X
  have hx := X.1.1
  have hb := X.1.2.1
  have hl : lv_has ls 5 [(0, .ref h0), (1, .int x_0)] := hl
  refine lv_aload_n hx hb dX12_ask_0 rfl (lv_at hl 0 rfl) ?_
  refine lv_iload_n hx hb dX12_ask_1 rfl (lv_at hl 1 rfl) ?_
  refine iv_cVi X k_good k_mf_X12_isChild k_im_X12_isChild k_sel_X12_isChild k_ml_X12_338 ft_X12 hB a_h0 sh_12 (As := [.int x_0]) (c_X12_isChild l D tys base G h0 g_h0 r_h0 a_h0 x_0 i_x_0) ⟨rfl, rfl⟩ ⟨Nat.le_of_ble_eq_true rfl, Nat.le_of_ble_eq_true rfl⟩ ⟨Nat.le_of_ble_eq_true rfl, Nat.le_of_ble_eq_true rfl⟩ rfl rfl hl.1 (Nat.le_of_ble_eq_true rfl) dX12_ask_2 (fun x1 G9 H locs hq hB => ?_)
  obtain ⟨rfl, i_x1, hp2⟩ := hq
  refine lv_if_eq (tgt := 20) hx hb dX12_ask_5 (by decide) (fun c3 => ?_) (fun c3 => ?_)
  · skip
    have i3_x1 : iv_R 0 0 x1 := (i_x1.cutHi (n := 0) (iv_eq_r c3 q_0).2)
    refine lv_iconst (v := (-1)) hx hb dX12_ask_20 (by decide) ?_
    exact iv_iret X hr hlocks hB ⟨rfl, (q_n1.wk (by decide))⟩ dX12_ask_21
  · skip
    have i4_x1 : iv_R 1 1 x1 := iv_ne_lo c3 i_x1 q_0 (by decide)
    have i5_x_0 : iv_R 0 19 x_0 := ((i_x_0.cutLo (n := 0) (hp2 c3).1).cutHi (n := 19) (hp2 c3).2)
    refine lv_aload_n hx hb dX12_ask_8 rfl (lv_at hl 0 rfl) ?_
    refine lv_iload_n hx hb dX12_ask_9 rfl (lv_at hl 1 rfl) ?_
    refine iv_cVi X k_good k_mf_X12_fitsOf k_im_X12_fitsOf k_sel_X12_fitsOf k_ml_X12_438 ft_X12 hB a_h0 sh_12 (As := [.int x_0]) (c_X12_fitsOf l D tys base G h0 g_h0 r_h0 a_h0 x_0 i5_x_0) ⟨rfl, rfl⟩ ⟨Nat.le_of_ble_eq_true rfl, Nat.le_of_ble_eq_true rfl⟩ ⟨Nat.le_of_ble_eq_true rfl, Nat.le_of_ble_eq_true rfl⟩ rfl rfl hl.1 (Nat.le_of_ble_eq_true rfl) dX12_ask_10 (fun x7 G9 H locs hq hB => ?_)
    obtain ⟨rfl, i_x7⟩ := hq
    refine iv_cSi X k_good k_mf_X12_count k_st_X12_count k_ml_X12_320 hB (As := [.int x7]) (c_X12_count l D tys base G x7 (i_x7.wk (by decide))) ⟨rfl, rfl⟩ ⟨Nat.le_of_ble_eq_true rfl, Nat.le_of_ble_eq_true rfl⟩ ⟨Nat.le_of_ble_eq_true rfl, Nat.le_of_ble_eq_true rfl⟩ rfl rfl hl.1 (Nat.le_of_ble_eq_true rfl) dX12_ask_13 (fun x8 G9 H locs hq hB => ?_)
    obtain ⟨rfl, i_x8⟩ := hq
    refine lv_iconst (v := 2) hx hb dX12_ask_16 (by decide) ?_
    refine lv_icmp_ge (tgt := 22) hx hb dX12_ask_17 (by decide) (fun c9 => ?_) (fun c9 => ?_)
    · skip
      have i9_x8 : iv_R 2 2147483647 x8 := (i_x8.cutLo (n := 2) (iv_le_l c9 q_2))
      refine lv_aload_n hx hb dX12_ask_22 rfl (lv_at hl 0 rfl) ?_
      refine lv_iload_n hx hb dX12_ask_23 rfl (lv_at hl 1 rfl) ?_
      refine iv_cVi X k_good k_mf_X12_fitsOf k_im_X12_fitsOf k_sel_X12_fitsOf k_ml_X12_438 ft_X12 hB a_h0 sh_12 (As := [.int x_0]) (c_X12_fitsOf l D tys base G h0 g_h0 r_h0 a_h0 x_0 i5_x_0) ⟨rfl, rfl⟩ ⟨Nat.le_of_ble_eq_true rfl, Nat.le_of_ble_eq_true rfl⟩ ⟨Nat.le_of_ble_eq_true rfl, Nat.le_of_ble_eq_true rfl⟩ rfl rfl hl.1 (Nat.le_of_ble_eq_true rfl) dX12_ask_24 (fun x11 G9 H locs hq hB => ?_)
      obtain ⟨rfl, i_x11⟩ := hq
      refine lv_istore_n (lv' := [(2, .int x11), (0, .ref h0), (1, .int x_0)]) hx hb dX12_ask_27 rfl hl (by decide) rfl (fun ls hl => ?_)
      refine lv_iconst (v := 0) hx hb dX12_ask_28 (by decide) ?_
      refine lv_istore_n (lv' := [(3, .int 0), (2, .int x11), (0, .ref h0), (1, .int x_0)]) hx hb dX12_ask_29 rfl hl (by decide) rfl (fun ls hl => ?_)
      refine lv_iconst (v := 1) hx hb dX12_ask_30 (by decide) ?_
      refine lv_istore (lv' := [(4, .int 1), (3, .int 0), (2, .int x11), (0, .ref h0), (1, .int x_0)]) hx hb dX12_ask_31 hl (by decide) rfl (fun ls hl => ?_)
      have L_33 : ∀ (n_33 : Nat) (H : Heap) (locs : List Loc) (hB : iv_B iv_sh D classes tys base G s.heap H locs) (x12 : Int32) (i_x12 : iv_R 0 23 x12) (x13 : Int32) (i_x13 : iv_R 1 24 x13) (hn_33 : (25 - x13.toInt).toNat < n_33) (ls : Array Slot) (hl : lv_has ls 5 [(4, .int x13), (3, .int x12), (2, .int x11), (0, .ref h0)]), W p l e ({ frames := 4, cells := 0, slots := 0, locals := 92 } : Room) s m args below meth c H locs 0 0 (MQ below (iv_Qi iv_sh D classes tys base (fun v G' => G = G' ∧ iv_R (-1) 23 v)) args s 0 0 (iv_A base)) (F0 m 33 ls []) := by
        intro n_33
        induction n_33 with
        | zero => intro H locs hB x12 i_x12 x13 i_x13 hn_33 ls hl; exact absurd hn_33 (Nat.not_lt_zero _)
        | succ n_33 ih_33 =>
          intro H locs hB x12 i_x12 x13 i_x13 hn_33 ls hl
          refine lv_iload hx hb dX12_ask_33 (lv_at hl 0 rfl) ?_
          refine lv_bipush (v := 24) hx hb dX12_ask_35 (by decide) ?_
          refine lv_icmp_ge (tgt := 65) hx hb dX12_ask_37 (by decide) (fun c14 => ?_) (fun c14 => ?_)
          · skip
            have i14_x13 : iv_R 24 24 x13 := (i_x13.cutLo (n := 24) (iv_le_l c14 q_24))
            refine lv_iload_n hx hb dX12_ask_65 rfl (lv_at hl 1 rfl) ?_
            exact iv_iret X hr hlocks hB ⟨rfl, (i_x12.wk (by decide))⟩ dX12_ask_66
          · skip
            have i15_x13 : iv_R 1 23 x13 := (i_x13.cutHi (n := 23) (iv_lt_r (iv_nle c14) q_24 (by decide)))
            refine lv_aload_n hx hb dX12_ask_40 rfl (lv_at hl 3 rfl) ?_
            refine lv_iload_n hx hb dX12_ask_41 rfl (lv_at hl 2 rfl) ?_
            refine lv_iload hx hb dX12_ask_42 (lv_at hl 0 rfl) ?_
            refine iv_cVi X k_good k_mf_X12_greaterPart k_im_X12_greaterPart k_sel_X12_greaterPart k_ml_X12_441 ft_X12 hB a_h0 sh_12 (As := [.int x11, .int x13]) (c_X12_greaterPart l D tys base G h0 g_h0 r_h0 a_h0 x11 i_x11 x13 (i15_x13.wk (by decide))) ⟨rfl, rfl⟩ ⟨Nat.le_of_ble_eq_true rfl, Nat.le_of_ble_eq_true rfl⟩ ⟨Nat.le_of_ble_eq_true rfl, Nat.le_of_ble_eq_true rfl⟩ rfl rfl hl.1 (Nat.le_of_ble_eq_true rfl) dX12_ask_44 (fun x17 G9 H locs hq hB => ?_)
            obtain ⟨rfl, i_x17⟩ := hq
            refine lv_aload_n hx hb dX12_ask_47 rfl (lv_at hl 3 rfl) ?_
            refine lv_iload_n hx hb dX12_ask_48 rfl (lv_at hl 2 rfl) ?_
            refine lv_iload_n hx hb dX12_ask_49 rfl (lv_at hl 1 rfl) ?_
            refine iv_cVi X k_good k_mf_X12_greaterPart k_im_X12_greaterPart k_sel_X12_greaterPart k_ml_X12_441 ft_X12 hB a_h0 sh_12 (As := [.int x11, .int x12]) (c_X12_greaterPart l D tys base G h0 g_h0 r_h0 a_h0 x11 i_x11 x12 i_x12) ⟨rfl, rfl⟩ ⟨Nat.le_of_ble_eq_true rfl, Nat.le_of_ble_eq_true rfl⟩ ⟨Nat.le_of_ble_eq_true rfl, Nat.le_of_ble_eq_true rfl⟩ rfl rfl hl.1 (Nat.le_of_ble_eq_true rfl) dX12_ask_50 (fun x18 G9 H locs hq hB => ?_)
            obtain ⟨rfl, i_x18⟩ := hq
            refine lv_icmp_ge (tgt := 59) hx hb dX12_ask_53 (by decide) (fun c19 => ?_) (fun c19 => ?_)
            · skip
              refine iv_iinc hx hb i15_x13 (lo := 2) (hi := 24) (by decide) dX12_ask_59 hl (k := 0) rfl (by decide) (fun x20 ls e_x20 i_x20 hl => ?_)
              have hl : lv_has ls 5 [(4, .int x20), (3, .int x12), (2, .int x11), (0, .ref h0)] := hl
              refine lv_goto (tgt := 33) hx hb dX12_ask_62 (by decide) ?_
              exact ih_33 _ _ hB x12 i_x12 x20 (i_x20.wk (by decide)) (iv_mup (c := 1) i_x13 (by decide) (by decide) (by omega) hn_33) _ (lv_sub hl [0, 1, 2, 3] rfl)
            · skip
              have i20_x17 : iv_R (-2147483648) 2147483646 x17 := (i_x17.cutHi (n := 2147483646) (iv_lt_r (iv_nle c19) i_x18 (by decide)))
              have i21_x18 : iv_R (-2147483647) 2147483647 x18 := (i_x18.cutLo (n := (-2147483647)) (iv_lt_l (iv_nle c19) i_x17 (by decide)))
              refine lv_iload hx hb dX12_ask_56 (lv_at hl 0 rfl) ?_
              refine lv_istore_n (lv' := [(3, .int x13), (4, .int x13), (2, .int x11), (0, .ref h0)]) hx hb dX12_ask_58 rfl hl (by decide) rfl (fun ls hl => ?_)
              refine iv_iinc hx hb i15_x13 (lo := 2) (hi := 24) (by decide) dX12_ask_59 hl (k := 1) rfl (by decide) (fun x23 ls e_x23 i_x23 hl => ?_)
              have hl : lv_has ls 5 [(4, .int x23), (3, .int x13), (2, .int x11), (0, .ref h0)] := hl
              refine lv_goto (tgt := 33) hx hb dX12_ask_62 (by decide) ?_
              exact ih_33 _ _ hB x13 (i15_x13.wk (by decide)) x23 (i_x23.wk (by decide)) (iv_mup (c := 1) i_x13 (by decide) (by decide) (by omega) hn_33) _ (lv_sub hl [0, 1, 2, 3] rfl)
      exact L_33 _ _ _ hB 0 (q_0.wk (by decide)) 1 (q_1.wk (by decide)) (Nat.lt_succ_self _) _ (lv_sub hl [0, 1, 2, 3] rfl)
    · skip
      have i23_x8 : iv_R (-2147483648) 1 x8 := (i_x8.cutHi (n := 1) (iv_lt_r (iv_nle c9) q_2 (by decide)))
      refine lv_iconst (v := (-1)) hx hb dX12_ask_20 (by decide) ?_
      exact iv_iret X hr hlocks hB ⟨rfl, (q_n1.wk (by decide))⟩ dX12_ask_21
theorem dX12_asked_0 : decode cX12_asked 0 = .ok (.aload_n 0, 1) := by decide +kernel
theorem dX12_asked_1 : decode cX12_asked 1 = .ok (.ldc 110, 2) := by decide +kernel
theorem dX12_asked_3 : decode cX12_asked 3 = .ok (.invokevirtual 103, 3) := by decide +kernel
theorem dX12_asked_6 : decode cX12_asked 6 = .ok (.ifCond .eq 6, 3) := by decide +kernel
theorem dX12_asked_9 : decode cX12_asked 9 = .ok (.bipush 41, 2) := by decide +kernel
theorem dX12_asked_11 : decode cX12_asked 11 = .ok (.ireturn, 1) := by decide +kernel
theorem dX12_asked_12 : decode cX12_asked 12 = .ok (.aload_n 0, 1) := by decide +kernel
theorem dX12_asked_13 : decode cX12_asked 13 = .ok (.ldc 112, 2) := by decide +kernel
theorem dX12_asked_15 : decode cX12_asked 15 = .ok (.invokevirtual 103, 3) := by decide +kernel
theorem dX12_asked_18 : decode cX12_asked 18 = .ok (.ifCond .eq 6, 3) := by decide +kernel
theorem dX12_asked_21 : decode cX12_asked 21 = .ok (.bipush 42, 2) := by decide +kernel
theorem dX12_asked_23 : decode cX12_asked 23 = .ok (.ireturn, 1) := by decide +kernel
theorem dX12_asked_24 : decode cX12_asked 24 = .ok (.aload_n 0, 1) := by decide +kernel
theorem dX12_asked_25 : decode cX12_asked 25 = .ok (.ldc 114, 2) := by decide +kernel
theorem dX12_asked_27 : decode cX12_asked 27 = .ok (.invokevirtual 103, 3) := by decide +kernel
theorem dX12_asked_30 : decode cX12_asked 30 = .ok (.ifCond .eq 6, 3) := by decide +kernel
theorem dX12_asked_33 : decode cX12_asked 33 = .ok (.bipush 43, 2) := by decide +kernel
theorem dX12_asked_35 : decode cX12_asked 35 = .ok (.ireturn, 1) := by decide +kernel
theorem dX12_asked_36 : decode cX12_asked 36 = .ok (.aload_n 0, 1) := by decide +kernel
theorem dX12_asked_37 : decode cX12_asked 37 = .ok (.ldc 116, 2) := by decide +kernel
theorem dX12_asked_39 : decode cX12_asked 39 = .ok (.invokevirtual 103, 3) := by decide +kernel
theorem dX12_asked_42 : decode cX12_asked 42 = .ok (.ifCond .eq 6, 3) := by decide +kernel
theorem dX12_asked_45 : decode cX12_asked 45 = .ok (.bipush 44, 2) := by decide +kernel
theorem dX12_asked_47 : decode cX12_asked 47 = .ok (.ireturn, 1) := by decide +kernel
theorem dX12_asked_48 : decode cX12_asked 48 = .ok (.aload_n 0, 1) := by decide +kernel
theorem dX12_asked_49 : decode cX12_asked 49 = .ok (.ldc 118, 2) := by decide +kernel
theorem dX12_asked_51 : decode cX12_asked 51 = .ok (.invokevirtual 103, 3) := by decide +kernel
theorem dX12_asked_54 : decode cX12_asked 54 = .ok (.ifCond .eq 8, 3) := by decide +kernel
theorem dX12_asked_57 : decode cX12_asked 57 = .ok (.bipush 45, 2) := by decide +kernel
theorem dX12_asked_59 : decode cX12_asked 59 = .ok (.goto 4, 3) := by decide +kernel
theorem dX12_asked_62 : decode cX12_asked 62 = .ok (.iconst 1, 1) := by decide +kernel
theorem dX12_asked_63 : decode cX12_asked 63 = .ok (.ireturn, 1) := by decide +kernel
set_option maxHeartbeats 4000000 in
set_option maxRecDepth 100000 in
theorem c_X12_asked (l : Launch) (D : va_G) (tys : List (ClassId × FieldType)) (base : Nat) (G : iv_G) (h0 : Nat) (g_h0 : Nat → Int32) (r_h0 : Nat → Nat) (a_h0 : G h0 = some (12, g_h0, r_h0)) : Met l yX12_asked (Cond.code yX12_asked cX12_asked 1 (some .int) :: iv_W0) ({ frames := 5, cells := 0, slots := 0, locals := 108 }) (iv_Pc iv_sh D classes tys base G [.ref h0]) (iv_Qi iv_sh D classes tys base (fun v G' => G = G' ∧ iv_R 1 45 v)) 0 0 (iv_A base) := by
  refine iv_head (by decide) (Nat.le_of_ble_eq_true rfl) ?_
  intro p e s m args below meth c ls X hr hlocks hname hB hl
  have X := X
  have hx := X.1.1
  have hb := X.1.2.1
  have hl : lv_has ls 1 [(0, .ref h0)] := hl
  refine lv_aload_n hx hb dX12_asked_0 rfl (lv_at hl 0 rfl) ?_
  refine iv_sldc X (i := 13) rfl dX12_asked_1 ?_
  refine iv_cVi X k_good k_mf_X12_is k_im_X12_is k_sel_X12_is k_ml_X12_103 ft_X12 hB a_h0 sh_12 (As := [.ref (D.2 100 13)]) (c_X12_is l D tys base G h0 g_h0 r_h0 a_h0 13 (by decide)) ⟨rfl, rfl⟩ ⟨Nat.le_of_ble_eq_true rfl, Nat.le_of_ble_eq_true rfl⟩ ⟨Nat.le_of_ble_eq_true rfl, Nat.le_of_ble_eq_true rfl⟩ rfl rfl hl.1 (Nat.le_of_ble_eq_true rfl) dX12_asked_3 (fun x1 G9 H locs hq hB => ?_)
  obtain ⟨rfl, i_x1⟩ := hq
  refine lv_if_eq (tgt := 12) hx hb dX12_asked_6 (by decide) (fun c2 => ?_) (fun c2 => ?_)
  · skip
    have i2_x1 : iv_R 0 0 x1 := (i_x1.cutHi (n := 0) (iv_eq_r c2 q_0).2)
    refine lv_aload_n hx hb dX12_asked_12 rfl (lv_at hl 0 rfl) ?_
    refine iv_sldc X (i := 14) rfl dX12_asked_13 ?_
    refine iv_cVi X k_good k_mf_X12_is k_im_X12_is k_sel_X12_is k_ml_X12_103 ft_X12 hB a_h0 sh_12 (As := [.ref (D.2 100 14)]) (c_X12_is l D tys base G h0 g_h0 r_h0 a_h0 14 (by decide)) ⟨rfl, rfl⟩ ⟨Nat.le_of_ble_eq_true rfl, Nat.le_of_ble_eq_true rfl⟩ ⟨Nat.le_of_ble_eq_true rfl, Nat.le_of_ble_eq_true rfl⟩ rfl rfl hl.1 (Nat.le_of_ble_eq_true rfl) dX12_asked_15 (fun x4 G9 H locs hq hB => ?_)
    obtain ⟨rfl, i_x4⟩ := hq
    refine lv_if_eq (tgt := 24) hx hb dX12_asked_18 (by decide) (fun c5 => ?_) (fun c5 => ?_)
    · skip
      have i5_x4 : iv_R 0 0 x4 := (i_x4.cutHi (n := 0) (iv_eq_r c5 q_0).2)
      refine lv_aload_n hx hb dX12_asked_24 rfl (lv_at hl 0 rfl) ?_
      refine iv_sldc X (i := 15) rfl dX12_asked_25 ?_
      refine iv_cVi X k_good k_mf_X12_is k_im_X12_is k_sel_X12_is k_ml_X12_103 ft_X12 hB a_h0 sh_12 (As := [.ref (D.2 100 15)]) (c_X12_is l D tys base G h0 g_h0 r_h0 a_h0 15 (by decide)) ⟨rfl, rfl⟩ ⟨Nat.le_of_ble_eq_true rfl, Nat.le_of_ble_eq_true rfl⟩ ⟨Nat.le_of_ble_eq_true rfl, Nat.le_of_ble_eq_true rfl⟩ rfl rfl hl.1 (Nat.le_of_ble_eq_true rfl) dX12_asked_27 (fun x7 G9 H locs hq hB => ?_)
      obtain ⟨rfl, i_x7⟩ := hq
      refine lv_if_eq (tgt := 36) hx hb dX12_asked_30 (by decide) (fun c8 => ?_) (fun c8 => ?_)
      · skip
        have i8_x7 : iv_R 0 0 x7 := (i_x7.cutHi (n := 0) (iv_eq_r c8 q_0).2)
        refine lv_aload_n hx hb dX12_asked_36 rfl (lv_at hl 0 rfl) ?_
        refine iv_sldc X (i := 16) rfl dX12_asked_37 ?_
        refine iv_cVi X k_good k_mf_X12_is k_im_X12_is k_sel_X12_is k_ml_X12_103 ft_X12 hB a_h0 sh_12 (As := [.ref (D.2 100 16)]) (c_X12_is l D tys base G h0 g_h0 r_h0 a_h0 16 (by decide)) ⟨rfl, rfl⟩ ⟨Nat.le_of_ble_eq_true rfl, Nat.le_of_ble_eq_true rfl⟩ ⟨Nat.le_of_ble_eq_true rfl, Nat.le_of_ble_eq_true rfl⟩ rfl rfl hl.1 (Nat.le_of_ble_eq_true rfl) dX12_asked_39 (fun x10 G9 H locs hq hB => ?_)
        obtain ⟨rfl, i_x10⟩ := hq
        refine lv_if_eq (tgt := 48) hx hb dX12_asked_42 (by decide) (fun c11 => ?_) (fun c11 => ?_)
        · skip
          have i11_x10 : iv_R 0 0 x10 := (i_x10.cutHi (n := 0) (iv_eq_r c11 q_0).2)
          refine lv_aload_n hx hb dX12_asked_48 rfl (lv_at hl 0 rfl) ?_
          refine iv_sldc X (i := 17) rfl dX12_asked_49 ?_
          refine iv_cVi X k_good k_mf_X12_is k_im_X12_is k_sel_X12_is k_ml_X12_103 ft_X12 hB a_h0 sh_12 (As := [.ref (D.2 100 17)]) (c_X12_is l D tys base G h0 g_h0 r_h0 a_h0 17 (by decide)) ⟨rfl, rfl⟩ ⟨Nat.le_of_ble_eq_true rfl, Nat.le_of_ble_eq_true rfl⟩ ⟨Nat.le_of_ble_eq_true rfl, Nat.le_of_ble_eq_true rfl⟩ rfl rfl hl.1 (Nat.le_of_ble_eq_true rfl) dX12_asked_51 (fun x13 G9 H locs hq hB => ?_)
          obtain ⟨rfl, i_x13⟩ := hq
          refine lv_if_eq (tgt := 62) hx hb dX12_asked_54 (by decide) (fun c14 => ?_) (fun c14 => ?_)
          · skip
            have i14_x13 : iv_R 0 0 x13 := (i_x13.cutHi (n := 0) (iv_eq_r c14 q_0).2)
            refine lv_iconst (v := 1) hx hb dX12_asked_62 (by decide) ?_
            exact iv_iret X hr hlocks hB ⟨rfl, (q_1.wk (by decide))⟩ dX12_asked_63
          · skip
            have i15_x13 : iv_R 1 1 x13 := iv_ne_lo c14 i_x13 q_0 (by decide)
            refine lv_bipush (v := 45) hx hb dX12_asked_57 (by decide) ?_
            refine lv_goto (tgt := 63) hx hb dX12_asked_59 (by decide) ?_
            exact iv_iret X hr hlocks hB ⟨rfl, (q_45.wk (by decide))⟩ dX12_asked_63
        · skip
          have i16_x10 : iv_R 1 1 x10 := iv_ne_lo c11 i_x10 q_0 (by decide)
          refine lv_bipush (v := 44) hx hb dX12_asked_45 (by decide) ?_
          exact iv_iret X hr hlocks hB ⟨rfl, (q_44.wk (by decide))⟩ dX12_asked_47
      · skip
        have i17_x7 : iv_R 1 1 x7 := iv_ne_lo c8 i_x7 q_0 (by decide)
        refine lv_bipush (v := 43) hx hb dX12_asked_33 (by decide) ?_
        exact iv_iret X hr hlocks hB ⟨rfl, (q_43.wk (by decide))⟩ dX12_asked_35
    · skip
      have i18_x4 : iv_R 1 1 x4 := iv_ne_lo c5 i_x4 q_0 (by decide)
      refine lv_bipush (v := 42) hx hb dX12_asked_21 (by decide) ?_
      exact iv_iret X hr hlocks hB ⟨rfl, (q_42.wk (by decide))⟩ dX12_asked_23
  · skip
    have i19_x1 : iv_R 1 1 x1 := iv_ne_lo c2 i_x1 q_0 (by decide)
    refine lv_bipush (v := 41) hx hb dX12_asked_9 (by decide) ?_
    exact iv_iret X hr hlocks hB ⟨rfl, (q_41.wk (by decide))⟩ dX12_asked_11
theorem dX12_isOctave_0 : decode cX12_isOctave 0 = .ok (.aload_n 0, 1) := by decide +kernel
theorem dX12_isOctave_1 : decode cX12_isOctave 1 = .ok (.iload_n 1, 1) := by decide +kernel
theorem dX12_isOctave_2 : decode cX12_isOctave 2 = .ok (.iconst 1, 1) := by decide +kernel
theorem dX12_isOctave_3 : decode cX12_isOctave 3 = .ok (.invokevirtual 282, 3) := by decide +kernel
theorem dX12_isOctave_6 : decode cX12_isOctave 6 = .ok (.aload_n 0, 1) := by decide +kernel
theorem dX12_isOctave_7 : decode cX12_isOctave 7 = .ok (.iload_n 2, 1) := by decide +kernel
theorem dX12_isOctave_8 : decode cX12_isOctave 8 = .ok (.iconst 1, 1) := by decide +kernel
theorem dX12_isOctave_9 : decode cX12_isOctave 9 = .ok (.invokevirtual 282, 3) := by decide +kernel
theorem dX12_isOctave_12 : decode cX12_isOctave 12 = .ok (.invokestatic 305, 3) := by decide +kernel
theorem dX12_isOctave_15 : decode cX12_isOctave 15 = .ok (.bipush 12, 2) := by decide +kernel
theorem dX12_isOctave_17 : decode cX12_isOctave 17 = .ok (.irem, 1) := by decide +kernel
theorem dX12_isOctave_18 : decode cX12_isOctave 18 = .ok (.ifCond .ne 7, 3) := by decide +kernel
theorem dX12_isOctave_21 : decode cX12_isOctave 21 = .ok (.iconst 1, 1) := by decide +kernel
theorem dX12_isOctave_22 : decode cX12_isOctave 22 = .ok (.goto 4, 3) := by decide +kernel
theorem dX12_isOctave_25 : decode cX12_isOctave 25 = .ok (.iconst 0, 1) := by decide +kernel
theorem dX12_isOctave_26 : decode cX12_isOctave 26 = .ok (.ireturn, 1) := by decide +kernel
set_option maxHeartbeats 4000000 in
set_option maxRecDepth 100000 in
theorem c_X12_isOctave (l : Launch) (D : va_G) (tys : List (ClassId × FieldType)) (base : Nat) (G : iv_G) (h0 : Nat) (g_h0 : Nat → Int32) (r_h0 : Nat → Nat) (a_h0 : G h0 = some (12, g_h0, r_h0)) (x_0 : Int32) (i_x_0 : iv_R 0 9 x_0) (x_1 : Int32) (i_x_1 : iv_R 0 9 x_1) : Met l yX12_isOctave (Cond.code yX12_isOctave cX12_isOctave 3 (some .boolean) :: iv_W0) ({ frames := 1, cells := 0, slots := 0, locals := 22 }) (iv_Pc iv_sh D classes tys base G [.ref h0, .int x_0, .int x_1]) (iv_Qi iv_sh D classes tys base (fun v G' => G = G' ∧ iv_R 0 1 v)) 0 0 (iv_A base) := by
  refine iv_head (by decide) (Nat.le_of_ble_eq_true rfl) ?_
  intro p e s m args below meth c ls X hr hlocks hname hB hl
  have X := X
  have hx := X.1.1
  have hb := X.1.2.1
  have hl : lv_has ls 3 [(0, .ref h0), (1, .int x_0), (2, .int x_1)] := hl
  refine lv_aload_n hx hb dX12_isOctave_0 rfl (lv_at hl 0 rfl) ?_
  refine lv_iload_n hx hb dX12_isOctave_1 rfl (lv_at hl 1 rfl) ?_
  refine lv_iconst (v := 1) hx hb dX12_isOctave_2 (by decide) ?_
  refine iv_cVi X k_good k_mf_X12_ofBell k_im_X12_ofBell k_sel_X12_ofBell k_ml_X12_282 ft_X12 hB a_h0 sh_12 (As := [.int x_0, .int 1]) (c_X12_ofBell l D tys base G h0 g_h0 r_h0 a_h0 x_0 i_x_0 1 (q_1.wk (by decide))) ⟨rfl, rfl⟩ ⟨Nat.le_of_ble_eq_true rfl, Nat.le_of_ble_eq_true rfl⟩ ⟨Nat.le_of_ble_eq_true rfl, Nat.le_of_ble_eq_true rfl⟩ rfl rfl hl.1 (Nat.le_of_ble_eq_true rfl) dX12_isOctave_3 (fun x1 G9 H locs hq hB => ?_)
  obtain ⟨rfl, i_x1, cp2, cp3⟩ := hq
  have i3_x1 : iv_R 0 47 x1 := cp3 rfl
  refine lv_aload_n hx hb dX12_isOctave_6 rfl (lv_at hl 0 rfl) ?_
  refine lv_iload_n hx hb dX12_isOctave_7 rfl (lv_at hl 2 rfl) ?_
  refine lv_iconst (v := 1) hx hb dX12_isOctave_8 (by decide) ?_
  refine iv_cVi X k_good k_mf_X12_ofBell k_im_X12_ofBell k_sel_X12_ofBell k_ml_X12_282 ft_X12 hB a_h0 sh_12 (As := [.int x_1, .int 1]) (c_X12_ofBell l D tys base G h0 g_h0 r_h0 a_h0 x_1 i_x_1 1 (q_1.wk (by decide))) ⟨rfl, rfl⟩ ⟨Nat.le_of_ble_eq_true rfl, Nat.le_of_ble_eq_true rfl⟩ ⟨Nat.le_of_ble_eq_true rfl, Nat.le_of_ble_eq_true rfl⟩ rfl rfl hl.1 (Nat.le_of_ble_eq_true rfl) dX12_isOctave_9 (fun x5 G9 H locs hq hB => ?_)
  obtain ⟨rfl, i_x5, cp6, cp7⟩ := hq
  have i7_x5 : iv_R 0 47 x5 := cp7 rfl
  refine iv_cSi X k_good k_mf_X12_apart k_st_X12_apart k_ml_X12_305 hB (As := [.int x1, .int x5]) (c_X12_apart l D tys base G x1 i3_x1 x5 i7_x5) ⟨rfl, rfl⟩ ⟨Nat.le_of_ble_eq_true rfl, Nat.le_of_ble_eq_true rfl⟩ ⟨Nat.le_of_ble_eq_true rfl, Nat.le_of_ble_eq_true rfl⟩ rfl rfl hl.1 (Nat.le_of_ble_eq_true rfl) dX12_isOctave_12 (fun x9 G9 H locs hq hB => ?_)
  obtain ⟨rfl, i_x9⟩ := hq
  refine lv_bipush (v := 12) hx hb dX12_isOctave_15 (by decide) ?_
  refine iv_irem hx hb i_x9 q_12 (lo := (-11)) (hi := 11) (by decide) dX12_isOctave_17 (fun x10 e_x10 i_x10 => ?_)
  refine lv_if_ne (tgt := 25) hx hb dX12_isOctave_18 (by decide) (fun c11 => ?_) (fun c11 => ?_)
  · skip
    refine lv_iconst (v := 0) hx hb dX12_isOctave_25 (by decide) ?_
    exact iv_zret X hr hlocks hB (q_0.wk (by decide)) ⟨rfl, (q_0.wk (by decide))⟩ dX12_isOctave_26
  · skip
    have i11_x10 : iv_R 0 0 x10 := ((i_x10.cutLo (n := 0) (iv_eq_r c11 q_0).1).cutHi (n := 0) (iv_eq_r c11 q_0).2)
    refine lv_iconst (v := 1) hx hb dX12_isOctave_21 (by decide) ?_
    refine lv_goto (tgt := 26) hx hb dX12_isOctave_22 (by decide) ?_
    exact iv_zret X hr hlocks hB (q_1.wk (by decide)) ⟨rfl, (q_1.wk (by decide))⟩ dX12_isOctave_26
theorem dX12_farOf_0 : decode cX12_farOf 0 = .ok (.aload_n 0, 1) := by decide +kernel
theorem dX12_farOf_1 : decode cX12_farOf 1 = .ok (.getfield 7, 3) := by decide +kernel
theorem dX12_farOf_4 : decode cX12_farOf 4 = .ok (.sipush 190, 3) := by decide +kernel
theorem dX12_farOf_7 : decode cX12_farOf 7 = .ok (.iconst 4, 1) := by decide +kernel
theorem dX12_farOf_8 : decode cX12_farOf 8 = .ok (.iload_n 1, 1) := by decide +kernel
theorem dX12_farOf_9 : decode cX12_farOf 9 = .ok (.imul, 1) := by decide +kernel
theorem dX12_farOf_10 : decode cX12_farOf 10 = .ok (.iadd, 1) := by decide +kernel
theorem dX12_farOf_11 : decode cX12_farOf 11 = .ok (.iload_n 2, 1) := by decide +kernel
theorem dX12_farOf_12 : decode cX12_farOf 12 = .ok (.iadd, 1) := by decide +kernel
theorem dX12_farOf_13 : decode cX12_farOf 13 = .ok (.iaload, 1) := by decide +kernel
theorem dX12_farOf_14 : decode cX12_farOf 14 = .ok (.ireturn, 1) := by decide +kernel
set_option maxHeartbeats 4000000 in
set_option maxRecDepth 100000 in
theorem c_X12_farOf (l : Launch) (D : va_G) (tys : List (ClassId × FieldType)) (base : Nat) (G : iv_G) (h0 : Nat) (g_h0 : Nat → Int32) (r_h0 : Nat → Nat) (a_h0 : G h0 = some (12, g_h0, r_h0)) (x_0 : Int32) (i_x_0 : iv_R 0 3 x_0) (x_1 : Int32) (i_x_1 : iv_R 0 3 x_1) : Met l yX12_farOf (Cond.code yX12_farOf cX12_farOf 3 (some .int) :: iv_W0) ({ frames := 0, cells := 0, slots := 0, locals := 0 }) (iv_Pc iv_sh D classes tys base G [.ref h0, .int x_0, .int x_1]) (iv_Qi iv_sh D classes tys base (fun v G' => G = G' ∧ iv_R (-2147483648) 2147483647 v)) 0 0 (iv_A base) := by
  refine iv_head (by decide) (Nat.le_of_ble_eq_true rfl) ?_
  intro p e s m args below meth c ls X hr hlocks hname hB hl
  have X := X
  have hx := X.1.1
  have hb := X.1.2.1
  have hl : lv_has ls 3 [(0, .ref h0), (1, .int x_0), (2, .int x_1)] := hl
  refine lv_aload_n hx hb dX12_farOf_0 rfl (lv_at hl 0 rfl) ?_
  refine iv_getr X ft_X12 hB a_h0 sh_12 0 (by decide) rfl k_fl_X12_7 dX12_farOf_1 (fun b1 g_b1 r_b1 e_b1 a_b1 => ?_)
  refine lv_sipush (v := 190) hx hb dX12_farOf_4 (by decide) ?_
  refine lv_iconst (v := 4) hx hb dX12_farOf_7 (by decide) ?_
  refine lv_iload_n hx hb dX12_farOf_8 rfl (lv_at hl 1 rfl) ?_
  refine iv_imul hx hb q_4 i_x_0 (lo := 0) (hi := 12) (by decide) dX12_farOf_9 (fun x2 e_x2 i_x2 => ?_)
  refine iv_iadd hx hb q_190 i_x2 (lo := 190) (hi := 202) (by decide) dX12_farOf_10 (fun x3 e_x3 i_x3 => ?_)
  refine lv_iload_n hx hb dX12_farOf_11 rfl (lv_at hl 2 rfl) ?_
  refine iv_iadd hx hb i_x3 i_x_1 (lo := 190) (hi := 205) (by decide) dX12_farOf_12 (fun x4 e_x4 i_x4 => ?_)
  refine iv_wald_f X hB a_b1 i_x4 (by decide) dX12_farOf_13 (fun x5 e_x5 i_x5 => ?_)
  exact iv_iret X hr hlocks hB ⟨rfl, i_x5⟩ dX12_farOf_14
theorem dX12_lays_0 : decode cX12_lays 0 = .ok (.aload_n 0, 1) := by decide +kernel
theorem dX12_lays_1 : decode cX12_lays 1 = .ok (.getfield 34, 3) := by decide +kernel
theorem dX12_lays_4 : decode cX12_lays 4 = .ok (.iconst 1, 1) := by decide +kernel
theorem dX12_lays_5 : decode cX12_lays 5 = .ok (.aload_n 0, 1) := by decide +kernel
theorem dX12_lays_6 : decode cX12_lays 6 = .ok (.iload_n 1, 1) := by decide +kernel
theorem dX12_lays_7 : decode cX12_lays 7 = .ok (.iconst 2, 1) := by decide +kernel
theorem dX12_lays_8 : decode cX12_lays 8 = .ok (.invokevirtual 282, 3) := by decide +kernel
theorem dX12_lays_11 : decode cX12_lays 11 = .ok (.iastore, 1) := by decide +kernel
theorem dX12_lays_12 : decode cX12_lays 12 = .ok (.aload_n 0, 1) := by decide +kernel
theorem dX12_lays_13 : decode cX12_lays 13 = .ok (.getfield 34, 3) := by decide +kernel
theorem dX12_lays_16 : decode cX12_lays 16 = .ok (.iconst 2, 1) := by decide +kernel
theorem dX12_lays_17 : decode cX12_lays 17 = .ok (.aload_n 0, 1) := by decide +kernel
theorem dX12_lays_18 : decode cX12_lays 18 = .ok (.iload_n 1, 1) := by decide +kernel
theorem dX12_lays_19 : decode cX12_lays 19 = .ok (.iconst 1, 1) := by decide +kernel
theorem dX12_lays_20 : decode cX12_lays 20 = .ok (.invokevirtual 282, 3) := by decide +kernel
theorem dX12_lays_23 : decode cX12_lays 23 = .ok (.iastore, 1) := by decide +kernel
theorem dX12_lays_24 : decode cX12_lays 24 = .ok (.aload_n 0, 1) := by decide +kernel
theorem dX12_lays_25 : decode cX12_lays 25 = .ok (.getfield 34, 3) := by decide +kernel
theorem dX12_lays_28 : decode cX12_lays 28 = .ok (.iconst 3, 1) := by decide +kernel
theorem dX12_lays_29 : decode cX12_lays 29 = .ok (.aload_n 0, 1) := by decide +kernel
theorem dX12_lays_30 : decode cX12_lays 30 = .ok (.iload_n 1, 1) := by decide +kernel
theorem dX12_lays_31 : decode cX12_lays 31 = .ok (.iconst 3, 1) := by decide +kernel
theorem dX12_lays_32 : decode cX12_lays 32 = .ok (.invokevirtual 282, 3) := by decide +kernel
theorem dX12_lays_35 : decode cX12_lays 35 = .ok (.iastore, 1) := by decide +kernel
theorem dX12_lays_36 : decode cX12_lays 36 = .ok (.aload_n 0, 1) := by decide +kernel
theorem dX12_lays_37 : decode cX12_lays 37 = .ok (.getfield 34, 3) := by decide +kernel
theorem dX12_lays_40 : decode cX12_lays 40 = .ok (.iconst 4, 1) := by decide +kernel
theorem dX12_lays_41 : decode cX12_lays 41 = .ok (.aload_n 0, 1) := by decide +kernel
theorem dX12_lays_42 : decode cX12_lays 42 = .ok (.iload_n 1, 1) := by decide +kernel
theorem dX12_lays_43 : decode cX12_lays 43 = .ok (.iconst 4, 1) := by decide +kernel
theorem dX12_lays_44 : decode cX12_lays 44 = .ok (.invokevirtual 282, 3) := by decide +kernel
theorem dX12_lays_47 : decode cX12_lays 47 = .ok (.iastore, 1) := by decide +kernel
theorem dX12_lays_48 : decode cX12_lays 48 = .ok (.aload_n 0, 1) := by decide +kernel
theorem dX12_lays_49 : decode cX12_lays 49 = .ok (.getfield 34, 3) := by decide +kernel
theorem dX12_lays_52 : decode cX12_lays 52 = .ok (.iconst 5, 1) := by decide +kernel
theorem dX12_lays_53 : decode cX12_lays 53 = .ok (.aload_n 0, 1) := by decide +kernel
theorem dX12_lays_54 : decode cX12_lays 54 = .ok (.getfield 7, 3) := by decide +kernel
theorem dX12_lays_57 : decode cX12_lays 57 = .ok (.iconst 1, 1) := by decide +kernel
theorem dX12_lays_58 : decode cX12_lays 58 = .ok (.iaload, 1) := by decide +kernel
theorem dX12_lays_59 : decode cX12_lays 59 = .ok (.iastore, 1) := by decide +kernel
theorem dX12_lays_60 : decode cX12_lays 60 = .ok (.return_, 1) := by decide +kernel
set_option maxHeartbeats 4000000 in
set_option maxRecDepth 100000 in
theorem c_X12_lays (l : Launch) (D : va_G) (tys : List (ClassId × FieldType)) (base : Nat) (G : iv_G) (h0 : Nat) (g_h0 : Nat → Int32) (r_h0 : Nat → Nat) (a_h0 : G h0 = some (12, g_h0, r_h0)) (x_0 : Int32) (i_x_0 : iv_R 0 9 x_0) : Met l yX12_lays (Cond.code yX12_lays cX12_lays 2 none :: iv_W0) ({ frames := 1, cells := 0, slots := 0, locals := 22 }) (iv_Pc iv_sh D classes tys base G [.ref h0, .int x_0]) (iv_Qv iv_sh D classes tys base (fun G' => iv_Md [68] G G')) 0 0 (iv_A base) := by
  refine iv_head (by decide) (Nat.le_of_ble_eq_true rfl) ?_
  intro p e s m args below meth c ls X hr hlocks hname hB hl
  have X := X
  have hx := X.1.1
  have hb := X.1.2.1
  have hM : iv_Md [68] G G := iv_Md.rf
  have hl : lv_has ls 2 [(0, .ref h0), (1, .int x_0)] := hl
  refine lv_aload_n hx hb dX12_lays_0 rfl (lv_at hl 0 rfl) ?_
  refine iv_getr X ft_X12 hB a_h0 sh_12 10 (by decide) rfl k_fl_X12_34 dX12_lays_1 (fun b1 g_b1 r_b1 e_b1 a_b1 => ?_)
  refine lv_iconst (v := 1) hx hb dX12_lays_4 (by decide) ?_
  refine lv_aload_n hx hb dX12_lays_5 rfl (lv_at hl 0 rfl) ?_
  refine lv_iload_n hx hb dX12_lays_6 rfl (lv_at hl 1 rfl) ?_
  refine lv_iconst (v := 2) hx hb dX12_lays_7 (by decide) ?_
  refine iv_cVi X k_good k_mf_X12_ofBell k_im_X12_ofBell k_sel_X12_ofBell k_ml_X12_282 ft_X12 hB a_h0 sh_12 (As := [.int x_0, .int 2]) (c_X12_ofBell l D tys base G h0 g_h0 r_h0 a_h0 x_0 i_x_0 2 (q_2.wk (by decide))) ⟨rfl, rfl⟩ ⟨Nat.le_of_ble_eq_true rfl, Nat.le_of_ble_eq_true rfl⟩ ⟨Nat.le_of_ble_eq_true rfl, Nat.le_of_ble_eq_true rfl⟩ rfl rfl hl.1 (Nat.le_of_ble_eq_true rfl) dX12_lays_8 (fun x2 G9 H locs hq hB => ?_)
  obtain ⟨rfl, i_x2, cp3, cp4⟩ := hq
  refine iv_ast X hB a_b1 sh_68 (iv_in q_1 (by decide)) i_x2 dX12_lays_11 (fun H locs hB => ?_)
  have hm := iv_Md.ast (j := (1 : Int32).toNatClampNeg) (x := x2) a_b1 rfl (by decide)
  have h9 := iv_up_eq (G := G) (a := b1) (k := (68, upd g_b1 (1 : Int32).toNatClampNeg x2, r_b1))
  generalize iv_up G b1 _ = G5 at hB hm h9
  have hM := hM.stp hm (by decide)
  have a_h0 := hm.at a_h0 (by decide)
  refine lv_aload_n hx hb dX12_lays_12 rfl (lv_at hl 0 rfl) ?_
  refine iv_getr X ft_X12 hB a_h0 sh_12 10 (by decide) rfl k_fl_X12_34 dX12_lays_13 (fun b7 g_b7 r_b7 e_b7 a_b7 => ?_)
  refine lv_iconst (v := 2) hx hb dX12_lays_16 (by decide) ?_
  refine lv_aload_n hx hb dX12_lays_17 rfl (lv_at hl 0 rfl) ?_
  refine lv_iload_n hx hb dX12_lays_18 rfl (lv_at hl 1 rfl) ?_
  refine lv_iconst (v := 1) hx hb dX12_lays_19 (by decide) ?_
  refine iv_cVi X k_good k_mf_X12_ofBell k_im_X12_ofBell k_sel_X12_ofBell k_ml_X12_282 ft_X12 hB a_h0 sh_12 (As := [.int x_0, .int 1]) (c_X12_ofBell l D tys base G5 h0 g_h0 r_h0 a_h0 x_0 i_x_0 1 (q_1.wk (by decide))) ⟨rfl, rfl⟩ ⟨Nat.le_of_ble_eq_true rfl, Nat.le_of_ble_eq_true rfl⟩ ⟨Nat.le_of_ble_eq_true rfl, Nat.le_of_ble_eq_true rfl⟩ rfl rfl hl.1 (Nat.le_of_ble_eq_true rfl) dX12_lays_20 (fun x8 G9 H locs hq hB => ?_)
  obtain ⟨rfl, i_x8, cp9, cp10⟩ := hq
  have i10_x8 : iv_R 0 47 x8 := cp10 rfl
  refine iv_ast X hB a_b7 sh_68 (iv_in q_2 (by decide)) (i10_x8.wk (by decide)) dX12_lays_23 (fun H locs hB => ?_)
  have hm := iv_Md.ast (j := (2 : Int32).toNatClampNeg) (x := x8) a_b7 rfl (by decide)
  have h9 := iv_up_eq (G := G5) (a := b7) (k := (68, upd g_b7 (2 : Int32).toNatClampNeg x8, r_b7))
  generalize iv_up G5 b7 _ = G12 at hB hm h9
  have hM := hM.stp hm (by decide)
  have a_h0 := hm.at a_h0 (by decide)
  refine lv_aload_n hx hb dX12_lays_24 rfl (lv_at hl 0 rfl) ?_
  refine iv_getr X ft_X12 hB a_h0 sh_12 10 (by decide) rfl k_fl_X12_34 dX12_lays_25 (fun b14 g_b14 r_b14 e_b14 a_b14 => ?_)
  refine lv_iconst (v := 3) hx hb dX12_lays_28 (by decide) ?_
  refine lv_aload_n hx hb dX12_lays_29 rfl (lv_at hl 0 rfl) ?_
  refine lv_iload_n hx hb dX12_lays_30 rfl (lv_at hl 1 rfl) ?_
  refine lv_iconst (v := 3) hx hb dX12_lays_31 (by decide) ?_
  refine iv_cVi X k_good k_mf_X12_ofBell k_im_X12_ofBell k_sel_X12_ofBell k_ml_X12_282 ft_X12 hB a_h0 sh_12 (As := [.int x_0, .int 3]) (c_X12_ofBell l D tys base G12 h0 g_h0 r_h0 a_h0 x_0 i_x_0 3 (q_3.wk (by decide))) ⟨rfl, rfl⟩ ⟨Nat.le_of_ble_eq_true rfl, Nat.le_of_ble_eq_true rfl⟩ ⟨Nat.le_of_ble_eq_true rfl, Nat.le_of_ble_eq_true rfl⟩ rfl rfl hl.1 (Nat.le_of_ble_eq_true rfl) dX12_lays_32 (fun x15 G9 H locs hq hB => ?_)
  obtain ⟨rfl, i_x15, cp16, cp17⟩ := hq
  refine iv_ast X hB a_b14 sh_68 (iv_in q_3 (by decide)) i_x15 dX12_lays_35 (fun H locs hB => ?_)
  have hm := iv_Md.ast (j := (3 : Int32).toNatClampNeg) (x := x15) a_b14 rfl (by decide)
  have h9 := iv_up_eq (G := G12) (a := b14) (k := (68, upd g_b14 (3 : Int32).toNatClampNeg x15, r_b14))
  generalize iv_up G12 b14 _ = G18 at hB hm h9
  have hM := hM.stp hm (by decide)
  have a_h0 := hm.at a_h0 (by decide)
  refine lv_aload_n hx hb dX12_lays_36 rfl (lv_at hl 0 rfl) ?_
  refine iv_getr X ft_X12 hB a_h0 sh_12 10 (by decide) rfl k_fl_X12_34 dX12_lays_37 (fun b20 g_b20 r_b20 e_b20 a_b20 => ?_)
  refine lv_iconst (v := 4) hx hb dX12_lays_40 (by decide) ?_
  refine lv_aload_n hx hb dX12_lays_41 rfl (lv_at hl 0 rfl) ?_
  refine lv_iload_n hx hb dX12_lays_42 rfl (lv_at hl 1 rfl) ?_
  refine lv_iconst (v := 4) hx hb dX12_lays_43 (by decide) ?_
  refine iv_cVi X k_good k_mf_X12_ofBell k_im_X12_ofBell k_sel_X12_ofBell k_ml_X12_282 ft_X12 hB a_h0 sh_12 (As := [.int x_0, .int 4]) (c_X12_ofBell l D tys base G18 h0 g_h0 r_h0 a_h0 x_0 i_x_0 4 (q_4.wk (by decide))) ⟨rfl, rfl⟩ ⟨Nat.le_of_ble_eq_true rfl, Nat.le_of_ble_eq_true rfl⟩ ⟨Nat.le_of_ble_eq_true rfl, Nat.le_of_ble_eq_true rfl⟩ rfl rfl hl.1 (Nat.le_of_ble_eq_true rfl) dX12_lays_44 (fun x21 G9 H locs hq hB => ?_)
  obtain ⟨rfl, i_x21, cp22, cp23⟩ := hq
  refine iv_ast X hB a_b20 sh_68 (iv_in q_4 (by decide)) i_x21 dX12_lays_47 (fun H locs hB => ?_)
  have hm := iv_Md.ast (j := (4 : Int32).toNatClampNeg) (x := x21) a_b20 rfl (by decide)
  have h9 := iv_up_eq (G := G18) (a := b20) (k := (68, upd g_b20 (4 : Int32).toNatClampNeg x21, r_b20))
  generalize iv_up G18 b20 _ = G24 at hB hm h9
  have hM := hM.stp hm (by decide)
  have a_h0 := hm.at a_h0 (by decide)
  refine lv_aload_n hx hb dX12_lays_48 rfl (lv_at hl 0 rfl) ?_
  refine iv_getr X ft_X12 hB a_h0 sh_12 10 (by decide) rfl k_fl_X12_34 dX12_lays_49 (fun b26 g_b26 r_b26 e_b26 a_b26 => ?_)
  refine lv_iconst (v := 5) hx hb dX12_lays_52 (by decide) ?_
  refine lv_aload_n hx hb dX12_lays_53 rfl (lv_at hl 0 rfl) ?_
  refine iv_getr X ft_X12 hB a_h0 sh_12 0 (by decide) rfl k_fl_X12_7 dX12_lays_54 (fun b27 g_b27 r_b27 e_b27 a_b27 => ?_)
  refine lv_iconst (v := 1) hx hb dX12_lays_57 (by decide) ?_
  refine iv_wald_c X hB a_b27 q_1 (by decide) (lo := (-2147483648)) (hi' := 2147483647) (by decide) dX12_lays_58 (fun x28 e_x28 i_x28 => ?_)
  refine iv_ast X hB a_b26 sh_68 (iv_in q_5 (by decide)) i_x28 dX12_lays_59 (fun H locs hB => ?_)
  have hm := iv_Md.ast (j := (5 : Int32).toNatClampNeg) (x := x28) a_b26 rfl (by decide)
  have h9 := iv_up_eq (G := G24) (a := b26) (k := (68, upd g_b26 (5 : Int32).toNatClampNeg x28, r_b26))
  generalize iv_up G24 b26 _ = G29 at hB hm h9
  have hM := hM.stp hm (by decide)
  have a_h0 := hm.at a_h0 (by decide)
  have a_b27 := hm.at a_b27 (by decide)
  exact iv_vret X hr hlocks hB hM dX12_lays_60
theorem dX12_both_0 : decode cX12_both 0 = .ok (.iload_n 0, 1) := by decide +kernel
theorem dX12_both_1 : decode cX12_both 1 = .ok (.tableswitch 100 23 31 #[51, 55, 59, 100, 63, 74, 85, 100, 96], 51) := by decide +kernel
theorem dX12_both_52 : decode cX12_both 52 = .ok (.iload_n 1, 1) := by decide +kernel
theorem dX12_both_53 : decode cX12_both 53 = .ok (.iload_n 2, 1) := by decide +kernel
theorem dX12_both_54 : decode cX12_both 54 = .ok (.iadd, 1) := by decide +kernel
theorem dX12_both_55 : decode cX12_both 55 = .ok (.ireturn, 1) := by decide +kernel
theorem dX12_both_56 : decode cX12_both 56 = .ok (.iload_n 1, 1) := by decide +kernel
theorem dX12_both_57 : decode cX12_both 57 = .ok (.iload_n 2, 1) := by decide +kernel
theorem dX12_both_58 : decode cX12_both 58 = .ok (.isub, 1) := by decide +kernel
theorem dX12_both_59 : decode cX12_both 59 = .ok (.ireturn, 1) := by decide +kernel
theorem dX12_both_60 : decode cX12_both 60 = .ok (.iload_n 1, 1) := by decide +kernel
theorem dX12_both_61 : decode cX12_both 61 = .ok (.iload_n 2, 1) := by decide +kernel
theorem dX12_both_62 : decode cX12_both 62 = .ok (.imul, 1) := by decide +kernel
theorem dX12_both_63 : decode cX12_both 63 = .ok (.ireturn, 1) := by decide +kernel
theorem dX12_both_64 : decode cX12_both 64 = .ok (.iload_n 1, 1) := by decide +kernel
theorem dX12_both_65 : decode cX12_both 65 = .ok (.iload_n 2, 1) := by decide +kernel
theorem dX12_both_66 : decode cX12_both 66 = .ok (.if_icmp .ge 7, 3) := by decide +kernel
theorem dX12_both_69 : decode cX12_both 69 = .ok (.iconst 1, 1) := by decide +kernel
theorem dX12_both_70 : decode cX12_both 70 = .ok (.goto 4, 3) := by decide +kernel
theorem dX12_both_73 : decode cX12_both 73 = .ok (.iconst 0, 1) := by decide +kernel
theorem dX12_both_74 : decode cX12_both 74 = .ok (.ireturn, 1) := by decide +kernel
theorem dX12_both_75 : decode cX12_both 75 = .ok (.iload_n 1, 1) := by decide +kernel
theorem dX12_both_76 : decode cX12_both 76 = .ok (.iload_n 2, 1) := by decide +kernel
theorem dX12_both_77 : decode cX12_both 77 = .ok (.if_icmp .ne 7, 3) := by decide +kernel
theorem dX12_both_80 : decode cX12_both 80 = .ok (.iconst 1, 1) := by decide +kernel
theorem dX12_both_81 : decode cX12_both 81 = .ok (.goto 4, 3) := by decide +kernel
theorem dX12_both_84 : decode cX12_both 84 = .ok (.iconst 0, 1) := by decide +kernel
theorem dX12_both_85 : decode cX12_both 85 = .ok (.ireturn, 1) := by decide +kernel
theorem dX12_both_86 : decode cX12_both 86 = .ok (.iload_n 1, 1) := by decide +kernel
theorem dX12_both_87 : decode cX12_both 87 = .ok (.iload_n 2, 1) := by decide +kernel
theorem dX12_both_88 : decode cX12_both 88 = .ok (.if_icmp .le 7, 3) := by decide +kernel
theorem dX12_both_91 : decode cX12_both 91 = .ok (.iconst 1, 1) := by decide +kernel
theorem dX12_both_92 : decode cX12_both 92 = .ok (.goto 4, 3) := by decide +kernel
theorem dX12_both_95 : decode cX12_both 95 = .ok (.iconst 0, 1) := by decide +kernel
theorem dX12_both_96 : decode cX12_both 96 = .ok (.ireturn, 1) := by decide +kernel
theorem dX12_both_97 : decode cX12_both 97 = .ok (.iload_n 1, 1) := by decide +kernel
theorem dX12_both_98 : decode cX12_both 98 = .ok (.iload_n 2, 1) := by decide +kernel
theorem dX12_both_99 : decode cX12_both 99 = .ok (.iand, 1) := by decide +kernel
theorem dX12_both_100 : decode cX12_both 100 = .ok (.ireturn, 1) := by decide +kernel
theorem dX12_both_101 : decode cX12_both 101 = .ok (.iload_n 1, 1) := by decide +kernel
theorem dX12_both_102 : decode cX12_both 102 = .ok (.iload_n 2, 1) := by decide +kernel
theorem dX12_both_103 : decode cX12_both 103 = .ok (.ior, 1) := by decide +kernel
theorem dX12_both_104 : decode cX12_both 104 = .ok (.ireturn, 1) := by decide +kernel
set_option maxHeartbeats 4000000 in
set_option maxRecDepth 100000 in
theorem c_X12_both (l : Launch) (D : va_G) (tys : List (ClassId × FieldType)) (base : Nat) (G : iv_G) (x_0 : Int32) (i_x_0 : iv_R 23 2147483647 x_0) (x_1 : Int32) (i_x_1 : iv_R (-2147483648) 2147483647 x_1) (x_2 : Int32) (i_x_2 : iv_R (-2147483648) 2147483647 x_2) : Met l yX12_both (Cond.code yX12_both cX12_both 3 (some .int) :: iv_W0) ({ frames := 0, cells := 0, slots := 0, locals := 0 }) (iv_Pc iv_sh D classes tys base G [.int x_0, .int x_1, .int x_2]) (iv_Qi iv_sh D classes tys base (fun v G' => G = G' ∧ iv_R (-2147483648) 2147483647 v)) 0 0 (iv_A base) := by
  refine iv_head (by decide) (Nat.le_of_ble_eq_true rfl) ?_
  intro p e s m args below meth c ls X hr hlocks hname hB hl
  have X := X
  have hx := X.1.1
  have hb := X.1.2.1
  have hl : lv_has ls 3 [(0, .int x_0), (1, .int x_1), (2, .int x_2)] := hl
  refine lv_iload_n hx hb dX12_both_0 rfl (lv_at hl 0 rfl) ?_
  by_cases w1 : x_0.toInt = 23
  · skip
    refine lv_tableIn (tgt := 52) hx hb dX12_both_1 (by omega) (by omega) (by rw [w1]; rfl) (by decide) ?_
    have w1i : iv_R 23 23 x_0 := iv_lit w1
    refine lv_iload_n hx hb dX12_both_52 rfl (lv_at hl 1 rfl) ?_
    refine lv_iload_n hx hb dX12_both_53 rfl (lv_at hl 2 rfl) ?_
    refine lv_iadd hx hb dX12_both_54 ?_
    refine lv_topi (fun x2 e_x2 => ?_)
    have i_x2 := iv_R.all x2
    exact iv_iret X hr hlocks hB ⟨rfl, i_x2⟩ dX12_both_55
  skip
  by_cases w3 : x_0.toInt = 24
  · skip
    refine lv_tableIn (tgt := 56) hx hb dX12_both_1 (by omega) (by omega) (by rw [w3]; rfl) (by decide) ?_
    have w3i : iv_R 24 24 x_0 := iv_lit w3
    refine lv_iload_n hx hb dX12_both_56 rfl (lv_at hl 1 rfl) ?_
    refine lv_iload_n hx hb dX12_both_57 rfl (lv_at hl 2 rfl) ?_
    refine lv_isub hx hb dX12_both_58 ?_
    refine lv_topi (fun x4 e_x4 => ?_)
    have i_x4 := iv_R.all x4
    exact iv_iret X hr hlocks hB ⟨rfl, i_x4⟩ dX12_both_59
  skip
  by_cases w5 : x_0.toInt = 25
  · skip
    refine lv_tableIn (tgt := 60) hx hb dX12_both_1 (by omega) (by omega) (by rw [w5]; rfl) (by decide) ?_
    have w5i : iv_R 25 25 x_0 := iv_lit w5
    refine lv_iload_n hx hb dX12_both_60 rfl (lv_at hl 1 rfl) ?_
    refine lv_iload_n hx hb dX12_both_61 rfl (lv_at hl 2 rfl) ?_
    refine lv_imul hx hb dX12_both_62 ?_
    refine lv_topi (fun x6 e_x6 => ?_)
    have i_x6 := iv_R.all x6
    exact iv_iret X hr hlocks hB ⟨rfl, i_x6⟩ dX12_both_63
  skip
  by_cases w7 : x_0.toInt = 26
  · skip
    refine lv_tableIn (tgt := 101) hx hb dX12_both_1 (by omega) (by omega) (by rw [w7]; rfl) (by decide) ?_
    have w7i : iv_R 26 26 x_0 := iv_lit w7
    refine lv_iload_n hx hb dX12_both_101 rfl (lv_at hl 1 rfl) ?_
    refine lv_iload_n hx hb dX12_both_102 rfl (lv_at hl 2 rfl) ?_
    refine lv_ior hx hb dX12_both_103 ?_
    refine lv_topi (fun x8 e_x8 => ?_)
    have i_x8 := iv_R.all x8
    exact iv_iret X hr hlocks hB ⟨rfl, i_x8⟩ dX12_both_104
  skip
  by_cases w9 : x_0.toInt = 27
  · skip
    refine lv_tableIn (tgt := 64) hx hb dX12_both_1 (by omega) (by omega) (by rw [w9]; rfl) (by decide) ?_
    have w9i : iv_R 27 27 x_0 := iv_lit w9
    refine lv_iload_n hx hb dX12_both_64 rfl (lv_at hl 1 rfl) ?_
    refine lv_iload_n hx hb dX12_both_65 rfl (lv_at hl 2 rfl) ?_
    refine lv_icmp_ge (tgt := 73) hx hb dX12_both_66 (by decide) (fun c10 => ?_) (fun c10 => ?_)
    · skip
      refine lv_iconst (v := 0) hx hb dX12_both_73 (by decide) ?_
      exact iv_iret X hr hlocks hB ⟨rfl, (q_0.wk (by decide))⟩ dX12_both_74
    · skip
      have i10_x_1 : iv_R (-2147483648) 2147483646 x_1 := (i_x_1.cutHi (n := 2147483646) (iv_lt_r (iv_nle c10) i_x_2 (by decide)))
      have i11_x_2 : iv_R (-2147483647) 2147483647 x_2 := (i_x_2.cutLo (n := (-2147483647)) (iv_lt_l (iv_nle c10) i_x_1 (by decide)))
      refine lv_iconst (v := 1) hx hb dX12_both_69 (by decide) ?_
      refine lv_goto (tgt := 74) hx hb dX12_both_70 (by decide) ?_
      exact iv_iret X hr hlocks hB ⟨rfl, (q_1.wk (by decide))⟩ dX12_both_74
  skip
  by_cases w13 : x_0.toInt = 28
  · skip
    refine lv_tableIn (tgt := 75) hx hb dX12_both_1 (by omega) (by omega) (by rw [w13]; rfl) (by decide) ?_
    have w13i : iv_R 28 28 x_0 := iv_lit w13
    refine lv_iload_n hx hb dX12_both_75 rfl (lv_at hl 1 rfl) ?_
    refine lv_iload_n hx hb dX12_both_76 rfl (lv_at hl 2 rfl) ?_
    refine lv_icmp_ne (tgt := 84) hx hb dX12_both_77 (by decide) (fun c14 => ?_) (fun c14 => ?_)
    · skip
      refine lv_iconst (v := 0) hx hb dX12_both_84 (by decide) ?_
      exact iv_iret X hr hlocks hB ⟨rfl, (q_0.wk (by decide))⟩ dX12_both_85
    · skip
      refine lv_iconst (v := 1) hx hb dX12_both_80 (by decide) ?_
      refine lv_goto (tgt := 85) hx hb dX12_both_81 (by decide) ?_
      exact iv_iret X hr hlocks hB ⟨rfl, (q_1.wk (by decide))⟩ dX12_both_85
  skip
  by_cases w15 : x_0.toInt = 29
  · skip
    refine lv_tableIn (tgt := 86) hx hb dX12_both_1 (by omega) (by omega) (by rw [w15]; rfl) (by decide) ?_
    have w15i : iv_R 29 29 x_0 := iv_lit w15
    refine lv_iload_n hx hb dX12_both_86 rfl (lv_at hl 1 rfl) ?_
    refine lv_iload_n hx hb dX12_both_87 rfl (lv_at hl 2 rfl) ?_
    refine lv_icmp_le (tgt := 95) hx hb dX12_both_88 (by decide) (fun c16 => ?_) (fun c16 => ?_)
    · skip
      refine lv_iconst (v := 0) hx hb dX12_both_95 (by decide) ?_
      exact iv_iret X hr hlocks hB ⟨rfl, (q_0.wk (by decide))⟩ dX12_both_96
    · skip
      have i16_x_2 : iv_R (-2147483648) 2147483646 x_2 := (i_x_2.cutHi (n := 2147483646) (iv_lt_r (iv_nle c16) i_x_1 (by decide)))
      have i17_x_1 : iv_R (-2147483647) 2147483647 x_1 := (i_x_1.cutLo (n := (-2147483647)) (iv_lt_l (iv_nle c16) i_x_2 (by decide)))
      refine lv_iconst (v := 1) hx hb dX12_both_91 (by decide) ?_
      refine lv_goto (tgt := 96) hx hb dX12_both_92 (by decide) ?_
      exact iv_iret X hr hlocks hB ⟨rfl, (q_1.wk (by decide))⟩ dX12_both_96
  skip
  by_cases w19 : x_0.toInt = 30
  · skip
    refine lv_tableIn (tgt := 101) hx hb dX12_both_1 (by omega) (by omega) (by rw [w19]; rfl) (by decide) ?_
    have w19i : iv_R 30 30 x_0 := iv_lit w19
    refine lv_iload_n hx hb dX12_both_101 rfl (lv_at hl 1 rfl) ?_
    refine lv_iload_n hx hb dX12_both_102 rfl (lv_at hl 2 rfl) ?_
    refine lv_ior hx hb dX12_both_103 ?_
    refine lv_topi (fun x20 e_x20 => ?_)
    have i_x20 := iv_R.all x20
    exact iv_iret X hr hlocks hB ⟨rfl, i_x20⟩ dX12_both_104
  skip
  by_cases w21 : x_0.toInt = 31
  · skip
    refine lv_tableIn (tgt := 97) hx hb dX12_both_1 (by omega) (by omega) (by rw [w21]; rfl) (by decide) ?_
    have w21i : iv_R 31 31 x_0 := iv_lit w21
    refine lv_iload_n hx hb dX12_both_97 rfl (lv_at hl 1 rfl) ?_
    refine lv_iload_n hx hb dX12_both_98 rfl (lv_at hl 2 rfl) ?_
    refine lv_iand hx hb dX12_both_99 ?_
    refine lv_topi (fun x22 e_x22 => ?_)
    have i_x22 := iv_R.all x22
    exact iv_iret X hr hlocks hB ⟨rfl, i_x22⟩ dX12_both_100
  skip
  refine lv_tableOut (tgt := 101) hx hb dX12_both_1 (by have := i_x_0.1; have := i_x_0.2; omega) (by decide) ?_
  refine lv_iload_n hx hb dX12_both_101 rfl (lv_at hl 1 rfl) ?_
  refine lv_iload_n hx hb dX12_both_102 rfl (lv_at hl 2 rfl) ?_
  refine lv_ior hx hb dX12_both_103 ?_
  refine lv_topi (fun x23 e_x23 => ?_)
  have i_x23 := iv_R.all x23
  exact iv_iret X hr hlocks hB ⟨rfl, i_x23⟩ dX12_both_104
theorem dX12_comesTo_0 : decode cX12_comesTo 0 = .ok (.iconst 0, 1) := by decide +kernel
theorem dX12_comesTo_1 : decode cX12_comesTo 1 = .ok (.istore 4, 2) := by decide +kernel
theorem dX12_comesTo_3 : decode cX12_comesTo 3 = .ok (.iload_n 2, 1) := by decide +kernel
theorem dX12_comesTo_4 : decode cX12_comesTo 4 = .ok (.istore 5, 2) := by decide +kernel
theorem dX12_comesTo_6 : decode cX12_comesTo 6 = .ok (.iload 5, 2) := by decide +kernel
theorem dX12_comesTo_8 : decode cX12_comesTo 8 = .ok (.iload_n 3, 1) := by decide +kernel
theorem dX12_comesTo_9 : decode cX12_comesTo 9 = .ok (.if_icmp .ge 177, 3) := by decide +kernel
theorem dX12_comesTo_12 : decode cX12_comesTo 12 = .ok (.aload_n 0, 1) := by decide +kernel
theorem dX12_comesTo_13 : decode cX12_comesTo 13 = .ok (.getfield 7, 3) := by decide +kernel
theorem dX12_comesTo_16 : decode cX12_comesTo 16 = .ok (.sipush 874, 3) := by decide +kernel
theorem dX12_comesTo_19 : decode cX12_comesTo 19 = .ok (.sipush 820, 3) := by decide +kernel
theorem dX12_comesTo_22 : decode cX12_comesTo 22 = .ok (.iload_n 1, 1) := by decide +kernel
theorem dX12_comesTo_23 : decode cX12_comesTo 23 = .ok (.imul, 1) := by decide +kernel
theorem dX12_comesTo_24 : decode cX12_comesTo 24 = .ok (.iadd, 1) := by decide +kernel
theorem dX12_comesTo_25 : decode cX12_comesTo 25 = .ok (.iconst 2, 1) := by decide +kernel
theorem dX12_comesTo_26 : decode cX12_comesTo 26 = .ok (.iload 5, 2) := by decide +kernel
theorem dX12_comesTo_28 : decode cX12_comesTo 28 = .ok (.imul, 1) := by decide +kernel
theorem dX12_comesTo_29 : decode cX12_comesTo 29 = .ok (.iadd, 1) := by decide +kernel
theorem dX12_comesTo_30 : decode cX12_comesTo 30 = .ok (.iaload, 1) := by decide +kernel
theorem dX12_comesTo_31 : decode cX12_comesTo 31 = .ok (.istore 6, 2) := by decide +kernel
theorem dX12_comesTo_33 : decode cX12_comesTo 33 = .ok (.aload_n 0, 1) := by decide +kernel
theorem dX12_comesTo_34 : decode cX12_comesTo 34 = .ok (.getfield 7, 3) := by decide +kernel
theorem dX12_comesTo_37 : decode cX12_comesTo 37 = .ok (.sipush 874, 3) := by decide +kernel
theorem dX12_comesTo_40 : decode cX12_comesTo 40 = .ok (.sipush 820, 3) := by decide +kernel
theorem dX12_comesTo_43 : decode cX12_comesTo 43 = .ok (.iload_n 1, 1) := by decide +kernel
theorem dX12_comesTo_44 : decode cX12_comesTo 44 = .ok (.imul, 1) := by decide +kernel
theorem dX12_comesTo_45 : decode cX12_comesTo 45 = .ok (.iadd, 1) := by decide +kernel
theorem dX12_comesTo_46 : decode cX12_comesTo 46 = .ok (.iconst 2, 1) := by decide +kernel
theorem dX12_comesTo_47 : decode cX12_comesTo 47 = .ok (.iload 5, 2) := by decide +kernel
theorem dX12_comesTo_49 : decode cX12_comesTo 49 = .ok (.imul, 1) := by decide +kernel
theorem dX12_comesTo_50 : decode cX12_comesTo 50 = .ok (.iadd, 1) := by decide +kernel
theorem dX12_comesTo_51 : decode cX12_comesTo 51 = .ok (.iconst 1, 1) := by decide +kernel
theorem dX12_comesTo_52 : decode cX12_comesTo 52 = .ok (.iadd, 1) := by decide +kernel
theorem dX12_comesTo_53 : decode cX12_comesTo 53 = .ok (.iaload, 1) := by decide +kernel
theorem dX12_comesTo_54 : decode cX12_comesTo 54 = .ok (.istore 7, 2) := by decide +kernel
theorem dX12_comesTo_56 : decode cX12_comesTo 56 = .ok (.iload 6, 2) := by decide +kernel
theorem dX12_comesTo_58 : decode cX12_comesTo 58 = .ok (.bipush 23, 2) := by decide +kernel
theorem dX12_comesTo_60 : decode cX12_comesTo 60 = .ok (.if_icmp .ge 33, 3) := by decide +kernel
theorem dX12_comesTo_63 : decode cX12_comesTo 63 = .ok (.aload_n 0, 1) := by decide +kernel
theorem dX12_comesTo_64 : decode cX12_comesTo 64 = .ok (.getfield 31, 3) := by decide +kernel
theorem dX12_comesTo_67 : decode cX12_comesTo 67 = .ok (.iload 4, 2) := by decide +kernel
theorem dX12_comesTo_69 : decode cX12_comesTo 69 = .ok (.iload 6, 2) := by decide +kernel
theorem dX12_comesTo_71 : decode cX12_comesTo 71 = .ok (.ifCond .ne 8, 3) := by decide +kernel
theorem dX12_comesTo_74 : decode cX12_comesTo 74 = .ok (.iload 7, 2) := by decide +kernel
theorem dX12_comesTo_76 : decode cX12_comesTo 76 = .ok (.goto 10, 3) := by decide +kernel
theorem dX12_comesTo_79 : decode cX12_comesTo 79 = .ok (.aload_n 0, 1) := by decide +kernel
theorem dX12_comesTo_80 : decode cX12_comesTo 80 = .ok (.getfield 34, 3) := by decide +kernel
theorem dX12_comesTo_83 : decode cX12_comesTo 83 = .ok (.iload 6, 2) := by decide +kernel
theorem dX12_comesTo_85 : decode cX12_comesTo 85 = .ok (.iaload, 1) := by decide +kernel
theorem dX12_comesTo_86 : decode cX12_comesTo 86 = .ok (.iastore, 1) := by decide +kernel
theorem dX12_comesTo_87 : decode cX12_comesTo 87 = .ok (.iinc 4 1, 3) := by decide +kernel
theorem dX12_comesTo_90 : decode cX12_comesTo 90 = .ok (.goto 90, 3) := by decide +kernel
theorem dX12_comesTo_93 : decode cX12_comesTo 93 = .ok (.iload 6, 2) := by decide +kernel
theorem dX12_comesTo_95 : decode cX12_comesTo 95 = .ok (.bipush 26, 2) := by decide +kernel
theorem dX12_comesTo_97 : decode cX12_comesTo 97 = .ok (.if_icmp .ne 20, 3) := by decide +kernel
theorem dX12_comesTo_100 : decode cX12_comesTo 100 = .ok (.aload_n 0, 1) := by decide +kernel
theorem dX12_comesTo_101 : decode cX12_comesTo 101 = .ok (.getfield 31, 3) := by decide +kernel
theorem dX12_comesTo_104 : decode cX12_comesTo 104 = .ok (.iload 4, 2) := by decide +kernel
theorem dX12_comesTo_106 : decode cX12_comesTo 106 = .ok (.iconst 1, 1) := by decide +kernel
theorem dX12_comesTo_107 : decode cX12_comesTo 107 = .ok (.isub, 1) := by decide +kernel
theorem dX12_comesTo_108 : decode cX12_comesTo 108 = .ok (.dup2, 1) := by decide +kernel
theorem dX12_comesTo_109 : decode cX12_comesTo 109 = .ok (.iaload, 1) := by decide +kernel
theorem dX12_comesTo_110 : decode cX12_comesTo 110 = .ok (.iload 7, 2) := by decide +kernel
theorem dX12_comesTo_112 : decode cX12_comesTo 112 = .ok (.idiv, 1) := by decide +kernel
theorem dX12_comesTo_113 : decode cX12_comesTo 113 = .ok (.iastore, 1) := by decide +kernel
theorem dX12_comesTo_114 : decode cX12_comesTo 114 = .ok (.goto 66, 3) := by decide +kernel
theorem dX12_comesTo_117 : decode cX12_comesTo 117 = .ok (.iload 6, 2) := by decide +kernel
theorem dX12_comesTo_119 : decode cX12_comesTo 119 = .ok (.bipush 30, 2) := by decide +kernel
theorem dX12_comesTo_121 : decode cX12_comesTo 121 = .ok (.if_icmp .ne 26, 3) := by decide +kernel
theorem dX12_comesTo_124 : decode cX12_comesTo 124 = .ok (.aload_n 0, 1) := by decide +kernel
theorem dX12_comesTo_125 : decode cX12_comesTo 125 = .ok (.getfield 31, 3) := by decide +kernel
theorem dX12_comesTo_128 : decode cX12_comesTo 128 = .ok (.iload 4, 2) := by decide +kernel
theorem dX12_comesTo_130 : decode cX12_comesTo 130 = .ok (.iconst 1, 1) := by decide +kernel
theorem dX12_comesTo_131 : decode cX12_comesTo 131 = .ok (.isub, 1) := by decide +kernel
theorem dX12_comesTo_132 : decode cX12_comesTo 132 = .ok (.iconst 1, 1) := by decide +kernel
theorem dX12_comesTo_133 : decode cX12_comesTo 133 = .ok (.aload_n 0, 1) := by decide +kernel
theorem dX12_comesTo_134 : decode cX12_comesTo 134 = .ok (.getfield 31, 3) := by decide +kernel
theorem dX12_comesTo_137 : decode cX12_comesTo 137 = .ok (.iload 4, 2) := by decide +kernel
theorem dX12_comesTo_139 : decode cX12_comesTo 139 = .ok (.iconst 1, 1) := by decide +kernel
theorem dX12_comesTo_140 : decode cX12_comesTo 140 = .ok (.isub, 1) := by decide +kernel
theorem dX12_comesTo_141 : decode cX12_comesTo 141 = .ok (.iaload, 1) := by decide +kernel
theorem dX12_comesTo_142 : decode cX12_comesTo 142 = .ok (.isub, 1) := by decide +kernel
theorem dX12_comesTo_143 : decode cX12_comesTo 143 = .ok (.iastore, 1) := by decide +kernel
theorem dX12_comesTo_144 : decode cX12_comesTo 144 = .ok (.goto 36, 3) := by decide +kernel
theorem dX12_comesTo_147 : decode cX12_comesTo 147 = .ok (.iinc 4 (-1), 3) := by decide +kernel
theorem dX12_comesTo_150 : decode cX12_comesTo 150 = .ok (.aload_n 0, 1) := by decide +kernel
theorem dX12_comesTo_151 : decode cX12_comesTo 151 = .ok (.getfield 31, 3) := by decide +kernel
theorem dX12_comesTo_154 : decode cX12_comesTo 154 = .ok (.iload 4, 2) := by decide +kernel
theorem dX12_comesTo_156 : decode cX12_comesTo 156 = .ok (.iconst 1, 1) := by decide +kernel
theorem dX12_comesTo_157 : decode cX12_comesTo 157 = .ok (.isub, 1) := by decide +kernel
theorem dX12_comesTo_158 : decode cX12_comesTo 158 = .ok (.iload 6, 2) := by decide +kernel
theorem dX12_comesTo_160 : decode cX12_comesTo 160 = .ok (.aload_n 0, 1) := by decide +kernel
theorem dX12_comesTo_161 : decode cX12_comesTo 161 = .ok (.getfield 31, 3) := by decide +kernel
theorem dX12_comesTo_164 : decode cX12_comesTo 164 = .ok (.iload 4, 2) := by decide +kernel
theorem dX12_comesTo_166 : decode cX12_comesTo 166 = .ok (.iconst 1, 1) := by decide +kernel
theorem dX12_comesTo_167 : decode cX12_comesTo 167 = .ok (.isub, 1) := by decide +kernel
theorem dX12_comesTo_168 : decode cX12_comesTo 168 = .ok (.iaload, 1) := by decide +kernel
theorem dX12_comesTo_169 : decode cX12_comesTo 169 = .ok (.aload_n 0, 1) := by decide +kernel
theorem dX12_comesTo_170 : decode cX12_comesTo 170 = .ok (.getfield 31, 3) := by decide +kernel
theorem dX12_comesTo_173 : decode cX12_comesTo 173 = .ok (.iload 4, 2) := by decide +kernel
theorem dX12_comesTo_175 : decode cX12_comesTo 175 = .ok (.iaload, 1) := by decide +kernel
theorem dX12_comesTo_176 : decode cX12_comesTo 176 = .ok (.invokestatic 265, 3) := by decide +kernel
theorem dX12_comesTo_179 : decode cX12_comesTo 179 = .ok (.iastore, 1) := by decide +kernel
theorem dX12_comesTo_180 : decode cX12_comesTo 180 = .ok (.iinc 5 1, 3) := by decide +kernel
theorem dX12_comesTo_183 : decode cX12_comesTo 183 = .ok (.goto (-177), 3) := by decide +kernel
theorem dX12_comesTo_186 : decode cX12_comesTo 186 = .ok (.aload_n 0, 1) := by decide +kernel
theorem dX12_comesTo_187 : decode cX12_comesTo 187 = .ok (.getfield 31, 3) := by decide +kernel
theorem dX12_comesTo_190 : decode cX12_comesTo 190 = .ok (.iconst 0, 1) := by decide +kernel
theorem dX12_comesTo_191 : decode cX12_comesTo 191 = .ok (.iaload, 1) := by decide +kernel
theorem dX12_comesTo_192 : decode cX12_comesTo 192 = .ok (.ireturn, 1) := by decide +kernel
set_option maxHeartbeats 4000000 in
set_option maxRecDepth 100000 in
theorem c_X12_comesTo (l : Launch) (D : va_G) (tys : List (ClassId × FieldType)) (base : Nat) (G : iv_G) (h0 : Nat) (g_h0 : Nat → Int32) (r_h0 : Nat → Nat) (a_h0 : G h0 = some (12, g_h0, r_h0)) (x_0 : Int32) (i_x_0 : iv_R 0 1 x_0) (x_1 : Int32) (i_x_1 : iv_R 0 410 x_1) (x_2 : Int32) (i_x_2 : iv_R 0 410 x_2) (gw : Nat → Int32) (rw : Nat → Nat) (hw : G (r_h0 0) = some (60, gw, rw)) (hbe : x_1.toInt ≤ x_2.toInt) (hsg : iv_sg gw (874 + 820 * x_0.toInt.toNat) (x_2.toInt.toNat - x_1.toInt.toNat) x_1.toInt.toNat 0) : Met l yX12_comesTo (Cond.code yX12_comesTo cX12_comesTo 8 (some .int) :: iv_W0) ({ frames := 1, cells := 0, slots := 0, locals := 22 }) (iv_Pc iv_sh D classes tys base G [.ref h0, .int x_0, .int x_1, .int x_2]) (iv_Qi iv_sh D classes tys base (fun v G' => iv_Md [67] G G' ∧ iv_R (-2147483648) 2147483647 v)) 0 0 (iv_A base) := by
  refine iv_head (by decide) (Nat.le_of_ble_eq_true rfl) ?_
  intro p e s m args below meth c ls X hr hlocks hname hB hl
  have X := X
  have hx := X.1.1
  have hb := X.1.2.1
  have hM : iv_Md [67] G G := iv_Md.rf
  have hl : lv_has ls 8 [(0, .ref h0), (1, .int x_0), (2, .int x_1), (3, .int x_2)] := hl
  refine lv_iconst (v := 0) hx hb dX12_comesTo_0 (by decide) ?_
  refine lv_istore (lv' := [(4, .int 0), (0, .ref h0), (1, .int x_0), (2, .int x_1), (3, .int x_2)]) hx hb dX12_comesTo_1 hl (by decide) rfl (fun ls hl => ?_)
  refine lv_iload_n hx hb dX12_comesTo_3 rfl (lv_at hl 3 rfl) ?_
  refine lv_istore (lv' := [(5, .int x_1), (4, .int 0), (0, .ref h0), (1, .int x_0), (2, .int x_1), (3, .int x_2)]) hx hb dX12_comesTo_4 hl (by decide) rfl (fun ls hl => ?_)
  have L_6 : ∀ (n_6 : Nat) (G3 : iv_G) (hM : iv_Md [67] G G3) (H : Heap) (locs : List Loc) (hB : iv_B iv_sh D classes tys base G3 s.heap H locs) (a_h0 : G3 h0 = some (12, g_h0, r_h0)) (x1 : Int32) (i_x1 : iv_R 0 410 x1) (x2 : Int32) (i_x2 : iv_R 0 410 x2) (hn_6 : (411 - x2.toInt).toNat < n_6) (inv_6 : x2.toInt ≤ x_2.toInt ∧ x1.toInt ≤ x2.toInt ∧ iv_sg gw (874 + 820 * x_0.toInt.toNat) (x_2.toInt.toNat - x2.toInt.toNat) x2.toInt.toNat x1.toInt.toNat) (ls : Array Slot) (hl : lv_has ls 8 [(5, .int x2), (4, .int x1), (0, .ref h0), (1, .int x_0), (3, .int x_2)]), W p l e ({ frames := 1, cells := 0, slots := 0, locals := 22 } : Room) s m args below meth c H locs 0 0 (MQ below (iv_Qi iv_sh D classes tys base (fun v G' => iv_Md [67] G G' ∧ iv_R (-2147483648) 2147483647 v)) args s 0 0 (iv_A base)) (F0 m 6 ls []) := by
    intro n_6
    induction n_6 with
    | zero => intro G3 hM H locs hB a_h0 x1 i_x1 x2 i_x2 hn_6 inv_6 ls hl; exact absurd hn_6 (Nat.not_lt_zero _)
    | succ n_6 ih_6 =>
      intro G3 hM H locs hB a_h0 x1 i_x1 x2 i_x2 hn_6 inv_6 ls hl
      refine lv_iload hx hb dX12_comesTo_6 (lv_at hl 0 rfl) ?_
      refine lv_iload_n hx hb dX12_comesTo_8 rfl (lv_at hl 4 rfl) ?_
      refine lv_icmp_ge (tgt := 186) hx hb dX12_comesTo_9 (by decide) (fun c4 => ?_) (fun c4 => ?_)
      · skip
        refine lv_aload_n hx hb dX12_comesTo_186 rfl (lv_at hl 2 rfl) ?_
        refine iv_getr X ft_X12 hB a_h0 sh_12 9 (by decide) rfl k_fl_X12_31 dX12_comesTo_187 (fun b5 g_b5 r_b5 e_b5 a_b5 => ?_)
        refine lv_iconst (v := 0) hx hb dX12_comesTo_190 (by decide) ?_
        refine iv_ald X hB a_b5 sh_67 (iv_in q_0 (by decide)) dX12_comesTo_191 (fun x6 e_x6 i_x6 => ?_)
        exact iv_iret X hr hlocks hB ⟨hM, i_x6⟩ dX12_comesTo_192
      · skip
        have i6_x2 : iv_R 0 409 x2 := (i_x2.cutHi (n := 409) (iv_lt_r (iv_nle c4) i_x_2 (by decide)))
        have i7_x_2 : iv_R 1 410 x_2 := (i_x_2.cutLo (n := 1) (iv_lt_l (iv_nle c4) i_x2 (by decide)))
        refine lv_aload_n hx hb dX12_comesTo_12 rfl (lv_at hl 2 rfl) ?_
        refine iv_getr X ft_X12 hB a_h0 sh_12 0 (by decide) rfl k_fl_X12_7 dX12_comesTo_13 (fun b9 g_b9 r_b9 e_b9 a_b9 => ?_)
        refine lv_sipush (v := 874) hx hb dX12_comesTo_16 (by decide) ?_
        refine lv_sipush (v := 820) hx hb dX12_comesTo_19 (by decide) ?_
        refine lv_iload_n hx hb dX12_comesTo_22 rfl (lv_at hl 3 rfl) ?_
        refine iv_imul hx hb q_820 i_x_0 (lo := 0) (hi := 820) (by decide) dX12_comesTo_23 (fun x10 e_x10 i_x10 => ?_)
        have e_x10 : x10.toInt = 820 * x_0.toInt := e_x10
        refine iv_iadd hx hb q_874 i_x10 (lo := 874) (hi := 1694) (by decide) dX12_comesTo_24 (fun x11 e_x11 i_x11 => ?_)
        have e_x11 : x11.toInt = 874 + x10.toInt := e_x11
        refine lv_iconst (v := 2) hx hb dX12_comesTo_25 (by decide) ?_
        refine lv_iload hx hb dX12_comesTo_26 (lv_at hl 0 rfl) ?_
        refine iv_imul hx hb q_2 i6_x2 (lo := 0) (hi := 818) (by decide) dX12_comesTo_28 (fun x12 e_x12 i_x12 => ?_)
        have e_x12 : x12.toInt = 2 * x2.toInt := e_x12
        refine iv_iadd hx hb i_x11 i_x12 (lo := 874) (hi := 2512) (by decide) dX12_comesTo_29 (fun x13 e_x13 i_x13 => ?_)
        refine iv_aldP X hB a_b9 sh_60 (iv_in i_x13 (by decide)) dX12_comesTo_30 (fun hP => ?_)
        refine lv_topi (fun x14 e_x14 => ?_)
        have i_x14 := iv_R.all x14
        refine lv_istore (lv' := [(6, .int x14), (5, .int x2), (4, .int x1), (0, .ref h0), (1, .int x_0), (3, .int x_2)]) hx hb dX12_comesTo_31 hl (by decide) rfl (fun ls hl => ?_)
        refine lv_aload_n hx hb dX12_comesTo_33 rfl (lv_at hl 3 rfl) ?_
        refine iv_getr0 X ft_X12 hB a_h0 sh_12 0 (by decide) rfl k_fl_X12_7 dX12_comesTo_34 e_b9 ?_
        refine lv_sipush (v := 874) hx hb dX12_comesTo_37 (by decide) ?_
        refine lv_sipush (v := 820) hx hb dX12_comesTo_40 (by decide) ?_
        refine lv_iload_n hx hb dX12_comesTo_43 rfl (lv_at hl 4 rfl) ?_
        refine iv_imul hx hb q_820 i_x_0 (lo := 0) (hi := 820) (by decide) dX12_comesTo_44 (fun x15 e_x15 i_x15 => ?_)
        have e_x15 : x15.toInt = 820 * x_0.toInt := e_x15
        refine iv_iadd hx hb q_874 i_x15 (lo := 874) (hi := 1694) (by decide) dX12_comesTo_45 (fun x16 e_x16 i_x16 => ?_)
        have e_x16 : x16.toInt = 874 + x15.toInt := e_x16
        refine lv_iconst (v := 2) hx hb dX12_comesTo_46 (by decide) ?_
        refine lv_iload hx hb dX12_comesTo_47 (lv_at hl 1 rfl) ?_
        refine iv_imul hx hb q_2 i6_x2 (lo := 0) (hi := 818) (by decide) dX12_comesTo_49 (fun x17 e_x17 i_x17 => ?_)
        have e_x17 : x17.toInt = 2 * x2.toInt := e_x17
        refine iv_iadd hx hb i_x16 i_x17 (lo := 874) (hi := 2512) (by decide) dX12_comesTo_50 (fun x18 e_x18 i_x18 => ?_)
        refine lv_iconst (v := 1) hx hb dX12_comesTo_51 (by decide) ?_
        refine iv_iadd hx hb i_x18 q_1 (lo := 875) (hi := 2513) (by decide) dX12_comesTo_52 (fun x19 e_x19 i_x19 => ?_)
        have e_x19 : x19.toInt = x18.toInt + 1 := e_x19
        refine iv_aldP X hB a_b9 sh_60 (iv_in i_x19 (by decide)) dX12_comesTo_53 (fun hP => ?_)
        refine lv_topi (fun x20 e_x20 => ?_)
        have i_x20 := iv_R.all x20
        refine lv_istore (lv' := [(7, .int x20), (6, .int x14), (5, .int x2), (4, .int x1), (0, .ref h0), (1, .int x_0), (3, .int x_2)]) hx hb dX12_comesTo_54 hl (by decide) rfl (fun ls hl => ?_)
        have hw1 := hM.at hw (by decide)
        have hg1 : g_b9 = gw := iv_samew hw1 e_b9 a_b9
        have hl1 := Int32.lt_iff_toInt_lt.mp (iv_nle c4)
        have hq_x2_1 := i6_x2.1
        have hr_x2_1 := i6_x2.2
        have hq_x1_1 := i_x1.1
        have hr_x1_1 := i_x1.2
        have hq_x_0_1 := i_x_0.1
        have hr_x_0_1 := i_x_0.2
        have es1 : x14 = gw (874 + 820 * x_0.toInt.toNat + 2 * x2.toInt.toNat) := by rw [e_x14, hg1]; congr 1; show x13.toInt.toNat = _; omega
        have hh1 := hg1
        have ev1 : x20 = gw (874 + 820 * x_0.toInt.toNat + 2 * x2.toInt.toNat + 1) := by rw [e_x20, hh1]; congr 1; show x19.toInt.toNat = _; omega
        have hd1 : iv_sD gw (874 + 820 * x_0.toInt.toNat) (x_2.toInt.toNat - x2.toInt.toNat) x2.toInt.toNat x1.toInt.toNat x14 x20 := iv_sg_s inv_6.2.2 (by omega) es1 ev1
        refine lv_iload hx hb dX12_comesTo_56 (lv_at hl 1 rfl) ?_
        refine lv_bipush (v := 23) hx hb dX12_comesTo_58 (by decide) ?_
        refine lv_icmp_ge (tgt := 93) hx hb dX12_comesTo_60 (by decide) (fun c21 => ?_) (fun c21 => ?_)
        · skip
          have i21_x14 : iv_R 23 2147483647 x14 := (i_x14.cutLo (n := 23) (iv_le_l c21 q_23))
          refine lv_iload hx hb dX12_comesTo_93 (lv_at hl 1 rfl) ?_
          refine lv_bipush (v := 26) hx hb dX12_comesTo_95 (by decide) ?_
          refine lv_icmp_ne (tgt := 117) hx hb dX12_comesTo_97 (by decide) (fun c23 => ?_) (fun c23 => ?_)
          · skip
            refine lv_iload hx hb dX12_comesTo_117 (lv_at hl 1 rfl) ?_
            refine lv_bipush (v := 30) hx hb dX12_comesTo_119 (by decide) ?_
            refine lv_icmp_ne (tgt := 147) hx hb dX12_comesTo_121 (by decide) (fun c24 => ?_) (fun c24 => ?_)
            · skip
              have hc2 := iv_c4 hd1 (Int32.not_lt.mpr (by assumption)) (by assumption) (by assumption)
              have ht3 : 2 ≤ x1.toInt := by have w1 := hc2.1; omega
              have i24_x1 : iv_R 2 410 x1 := i_x1.cutLo ht3
              refine iv_iinc hx hb i24_x1 (lo := 1) (hi := 409) (by decide) dX12_comesTo_147 hl (k := 3) rfl (by decide) (fun x26 ls e_x26 i_x26 hl => ?_)
              have hl : lv_has ls 8 [(4, .int x26), (7, .int x20), (6, .int x14), (5, .int x2), (0, .ref h0), (1, .int x_0), (3, .int x_2)] := hl
              refine lv_aload_n hx hb dX12_comesTo_150 rfl (lv_at hl 4 rfl) ?_
              refine iv_getr X ft_X12 hB a_h0 sh_12 9 (by decide) rfl k_fl_X12_31 dX12_comesTo_151 (fun b27 g_b27 r_b27 e_b27 a_b27 => ?_)
              refine lv_iload hx hb dX12_comesTo_154 (lv_at hl 0 rfl) ?_
              refine lv_iconst (v := 1) hx hb dX12_comesTo_156 (by decide) ?_
              refine iv_isub hx hb i_x26 q_1 (lo := 0) (hi := 408) (by decide) dX12_comesTo_157 (fun x28 e_x28 i_x28 => ?_)
              have e_x28 : x28.toInt = x26.toInt - 1 := e_x28
              refine lv_iload hx hb dX12_comesTo_158 (lv_at hl 2 rfl) ?_
              refine lv_aload_n hx hb dX12_comesTo_160 rfl (lv_at hl 4 rfl) ?_
              refine iv_getr0 X ft_X12 hB a_h0 sh_12 9 (by decide) rfl k_fl_X12_31 dX12_comesTo_161 e_b27 ?_
              refine lv_iload hx hb dX12_comesTo_164 (lv_at hl 0 rfl) ?_
              refine lv_iconst (v := 1) hx hb dX12_comesTo_166 (by decide) ?_
              refine iv_isub hx hb i_x26 q_1 (lo := 0) (hi := 408) (by decide) dX12_comesTo_167 (fun x29 e_x29 i_x29 => ?_)
              have e_x29 : x29.toInt = x26.toInt - 1 := e_x29
              refine iv_ald X hB a_b27 sh_67 (iv_in i_x29 (by decide)) dX12_comesTo_168 (fun x30 e_x30 i_x30 => ?_)
              refine lv_aload_n hx hb dX12_comesTo_169 rfl (lv_at hl 4 rfl) ?_
              refine iv_getr0 X ft_X12 hB a_h0 sh_12 9 (by decide) rfl k_fl_X12_31 dX12_comesTo_170 e_b27 ?_
              refine lv_iload hx hb dX12_comesTo_173 (lv_at hl 0 rfl) ?_
              refine iv_ald X hB a_b27 sh_67 (iv_in i_x26 (by decide)) dX12_comesTo_175 (fun x31 e_x31 i_x31 => ?_)
              refine iv_cSi X k_good k_mf_X12_both k_st_X12_both k_ml_X12_265 hB (As := [.int x14, .int x30, .int x31]) (c_X12_both l D tys base G3 x14 i21_x14 x30 i_x30 x31 i_x31) ⟨rfl, rfl⟩ ⟨Nat.le_of_ble_eq_true rfl, Nat.le_of_ble_eq_true rfl⟩ ⟨Nat.le_of_ble_eq_true rfl, Nat.le_of_ble_eq_true rfl⟩ rfl rfl hl.1 (Nat.le_of_ble_eq_true rfl) dX12_comesTo_176 (fun x32 G9 H locs hq hB => ?_)
              obtain ⟨rfl, i_x32⟩ := hq
              refine iv_ast X hB a_b27 sh_67 (iv_in i_x28 (by decide)) i_x32 dX12_comesTo_179 (fun H locs hB => ?_)
              have hm := iv_Md.ast (j := x28.toNatClampNeg) (x := x32) a_b27 rfl (by decide)
              have h9 := iv_up_eq (G := G3) (a := b27) (k := (67, upd g_b27 x28.toNatClampNeg x32, r_b27))
              generalize iv_up G3 b27 _ = G33 at hB hm h9
              have hM := hM.stp hm (by decide)
              have a_h0 := hm.at a_h0 (by decide)
              have a_b9 := hm.at a_b9 (by decide)
              refine iv_iinc hx hb i6_x2 (lo := 1) (hi := 410) (by decide) dX12_comesTo_180 hl (k := 3) rfl (by decide) (fun x35 ls e_x35 i_x35 hl => ?_)
              have hl : lv_has ls 8 [(5, .int x35), (4, .int x26), (7, .int x20), (6, .int x14), (0, .ref h0), (1, .int x_0), (3, .int x_2)] := hl
              refine lv_goto (tgt := 6) hx hb dX12_comesTo_183 (by decide) ?_
              exact ih_6 G33 hM _ _ hB a_h0 x26 (i_x26.wk (by decide)) x35 (i_x35.wk (by decide)) (iv_mup (c := 1) i_x2 (by decide) (by decide) (by omega) hn_6) ⟨by omega, by omega, iv_sgc hc2.2 (by omega) (by omega) (by omega)⟩ _ (lv_sub hl [0, 1, 4, 5, 6] rfl)
            · skip
              have i35_x14 : iv_R 30 30 x14 := ((i21_x14.cutLo (n := 30) (iv_eq_r c24 q_30).1).cutHi (n := 30) (iv_eq_r c24 q_30).2)
              have hc4 := iv_c3 hd1 (by assumption)
              have ht5 : 1 ≤ x1.toInt := by have w1 := hc4.1; omega
              have i36_x1 : iv_R 1 410 x1 := i_x1.cutLo ht5
              refine lv_aload_n hx hb dX12_comesTo_124 rfl (lv_at hl 4 rfl) ?_
              refine iv_getr X ft_X12 hB a_h0 sh_12 9 (by decide) rfl k_fl_X12_31 dX12_comesTo_125 (fun b38 g_b38 r_b38 e_b38 a_b38 => ?_)
              refine lv_iload hx hb dX12_comesTo_128 (lv_at hl 3 rfl) ?_
              refine lv_iconst (v := 1) hx hb dX12_comesTo_130 (by decide) ?_
              refine iv_isub hx hb i36_x1 q_1 (lo := 0) (hi := 409) (by decide) dX12_comesTo_131 (fun x39 e_x39 i_x39 => ?_)
              have e_x39 : x39.toInt = x1.toInt - 1 := e_x39
              refine lv_iconst (v := 1) hx hb dX12_comesTo_132 (by decide) ?_
              refine lv_aload_n hx hb dX12_comesTo_133 rfl (lv_at hl 4 rfl) ?_
              refine iv_getr0 X ft_X12 hB a_h0 sh_12 9 (by decide) rfl k_fl_X12_31 dX12_comesTo_134 e_b38 ?_
              refine lv_iload hx hb dX12_comesTo_137 (lv_at hl 3 rfl) ?_
              refine lv_iconst (v := 1) hx hb dX12_comesTo_139 (by decide) ?_
              refine iv_isub hx hb i36_x1 q_1 (lo := 0) (hi := 409) (by decide) dX12_comesTo_140 (fun x40 e_x40 i_x40 => ?_)
              have e_x40 : x40.toInt = x1.toInt - 1 := e_x40
              refine iv_ald X hB a_b38 sh_67 (iv_in i_x40 (by decide)) dX12_comesTo_141 (fun x41 e_x41 i_x41 => ?_)
              refine lv_isub hx hb dX12_comesTo_142 ?_
              refine lv_topi (fun x42 e_x42 => ?_)
              have i_x42 := iv_R.all x42
              refine iv_ast X hB a_b38 sh_67 (iv_in i_x39 (by decide)) i_x42 dX12_comesTo_143 (fun H locs hB => ?_)
              have hm := iv_Md.ast (j := x39.toNatClampNeg) (x := x42) a_b38 rfl (by decide)
              have h9 := iv_up_eq (G := G3) (a := b38) (k := (67, upd g_b38 x39.toNatClampNeg x42, r_b38))
              generalize iv_up G3 b38 _ = G43 at hB hm h9
              have hM := hM.stp hm (by decide)
              have a_h0 := hm.at a_h0 (by decide)
              have a_b9 := hm.at a_b9 (by decide)
              refine lv_goto (tgt := 180) hx hb dX12_comesTo_144 (by decide) ?_
              refine iv_iinc hx hb i6_x2 (lo := 1) (hi := 410) (by decide) dX12_comesTo_180 hl (k := 2) rfl (by decide) (fun x45 ls e_x45 i_x45 hl => ?_)
              have hl : lv_has ls 8 [(5, .int x45), (7, .int x20), (6, .int x14), (4, .int x1), (0, .ref h0), (1, .int x_0), (3, .int x_2)] := hl
              refine lv_goto (tgt := 6) hx hb dX12_comesTo_183 (by decide) ?_
              exact ih_6 G43 hM _ _ hB a_h0 x1 (i36_x1.wk (by decide)) x45 (i_x45.wk (by decide)) (iv_mup (c := 1) i_x2 (by decide) (by decide) (by omega) hn_6) ⟨by omega, by omega, iv_sgc hc4.2 (by omega) (by omega) (by omega)⟩ _ (lv_sub hl [0, 3, 4, 5, 6] rfl)
          · skip
            have i45_x14 : iv_R 26 26 x14 := ((i21_x14.cutLo (n := 26) (iv_eq_r c23 q_26).1).cutHi (n := 26) (iv_eq_r c23 q_26).2)
            have hc6 := iv_c2 hd1 (by assumption)
            have ht7 : 1 ≤ x1.toInt := by have w1 := hc6.1; omega
            have i46_x1 : iv_R 1 410 x1 := i_x1.cutLo ht7
            refine lv_aload_n hx hb dX12_comesTo_100 rfl (lv_at hl 4 rfl) ?_
            refine iv_getr X ft_X12 hB a_h0 sh_12 9 (by decide) rfl k_fl_X12_31 dX12_comesTo_101 (fun b48 g_b48 r_b48 e_b48 a_b48 => ?_)
            refine lv_iload hx hb dX12_comesTo_104 (lv_at hl 3 rfl) ?_
            refine lv_iconst (v := 1) hx hb dX12_comesTo_106 (by decide) ?_
            refine iv_isub hx hb i46_x1 q_1 (lo := 0) (hi := 409) (by decide) dX12_comesTo_107 (fun x49 e_x49 i_x49 => ?_)
            have e_x49 : x49.toInt = x1.toInt - 1 := e_x49
            refine lv_dup2_11 hx hb dX12_comesTo_108 rfl rfl ?_
            refine iv_ald X hB a_b48 sh_67 (iv_in i_x49 (by decide)) dX12_comesTo_109 (fun x50 e_x50 i_x50 => ?_)
            refine lv_iload hx hb dX12_comesTo_110 (lv_at hl 0 rfl) ?_
            refine lv_idiv hx hb dX12_comesTo_112 hc6.2.1 ?_
            refine lv_topi (fun x51 e_x51 => ?_)
            have i_x51 := iv_R.all x51
            refine iv_ast X hB a_b48 sh_67 (iv_in i_x49 (by decide)) i_x51 dX12_comesTo_113 (fun H locs hB => ?_)
            have hm := iv_Md.ast (j := x49.toNatClampNeg) (x := x51) a_b48 rfl (by decide)
            have h9 := iv_up_eq (G := G3) (a := b48) (k := (67, upd g_b48 x49.toNatClampNeg x51, r_b48))
            generalize iv_up G3 b48 _ = G52 at hB hm h9
            have hM := hM.stp hm (by decide)
            have a_h0 := hm.at a_h0 (by decide)
            have a_b9 := hm.at a_b9 (by decide)
            refine lv_goto (tgt := 180) hx hb dX12_comesTo_114 (by decide) ?_
            refine iv_iinc hx hb i6_x2 (lo := 1) (hi := 410) (by decide) dX12_comesTo_180 hl (k := 2) rfl (by decide) (fun x54 ls e_x54 i_x54 hl => ?_)
            have hl : lv_has ls 8 [(5, .int x54), (7, .int x20), (6, .int x14), (4, .int x1), (0, .ref h0), (1, .int x_0), (3, .int x_2)] := hl
            refine lv_goto (tgt := 6) hx hb dX12_comesTo_183 (by decide) ?_
            exact ih_6 G52 hM _ _ hB a_h0 x1 (i46_x1.wk (by decide)) x54 (i_x54.wk (by decide)) (iv_mup (c := 1) i_x2 (by decide) (by decide) (by omega) hn_6) ⟨by omega, by omega, iv_sgc hc6.2.2 (by omega) (by omega) (by omega)⟩ _ (lv_sub hl [0, 3, 4, 5, 6] rfl)
        · skip
          have i54_x14 : iv_R (-2147483648) 22 x14 := (i_x14.cutHi (n := 22) (iv_lt_r (iv_nle c21) q_23 (by decide)))
          have hc8 := iv_c1 hd1 (iv_nle c21)
          refine lv_aload_n hx hb dX12_comesTo_63 rfl (lv_at hl 4 rfl) ?_
          refine iv_getr X ft_X12 hB a_h0 sh_12 9 (by decide) rfl k_fl_X12_31 dX12_comesTo_64 (fun b56 g_b56 r_b56 e_b56 a_b56 => ?_)
          refine lv_iload hx hb dX12_comesTo_67 (lv_at hl 3 rfl) ?_
          refine lv_iload hx hb dX12_comesTo_69 (lv_at hl 1 rfl) ?_
          refine lv_if_ne (tgt := 79) hx hb dX12_comesTo_71 (by decide) (fun c57 => ?_) (fun c57 => ?_)
          · skip
            have i57_x14 : iv_R 1 11 x14 := iv_ne_lo c57 hc8.1 q_0 (by decide)
            refine lv_aload_n hx hb dX12_comesTo_79 rfl (lv_at hl 4 rfl) ?_
            refine iv_getr X ft_X12 hB a_h0 sh_12 10 (by decide) rfl k_fl_X12_34 dX12_comesTo_80 (fun b59 g_b59 r_b59 e_b59 a_b59 => ?_)
            refine lv_iload hx hb dX12_comesTo_83 (lv_at hl 1 rfl) ?_
            refine iv_ald X hB a_b59 sh_68 (iv_in i57_x14 (by decide)) dX12_comesTo_85 (fun x60 e_x60 i_x60 => ?_)
            refine iv_ast X hB a_b56 sh_67 (iv_in i_x1 (by decide)) i_x60 dX12_comesTo_86 (fun H locs hB => ?_)
            have hm := iv_Md.ast (j := x1.toNatClampNeg) (x := x60) a_b56 rfl (by decide)
            have h9 := iv_up_eq (G := G3) (a := b56) (k := (67, upd g_b56 x1.toNatClampNeg x60, r_b56))
            generalize iv_up G3 b56 _ = G61 at hB hm h9
            have hM := hM.stp hm (by decide)
            have a_h0 := hm.at a_h0 (by decide)
            have a_b9 := hm.at a_b9 (by decide)
            refine iv_iinc hx hb i_x1 (lo := 1) (hi := 411) (by decide) dX12_comesTo_87 hl (k := 3) rfl (by decide) (fun x63 ls e_x63 i_x63 hl => ?_)
            have hl : lv_has ls 8 [(4, .int x63), (7, .int x20), (6, .int x14), (5, .int x2), (0, .ref h0), (1, .int x_0), (3, .int x_2)] := hl
            refine lv_goto (tgt := 180) hx hb dX12_comesTo_90 (by decide) ?_
            refine iv_iinc hx hb i6_x2 (lo := 1) (hi := 410) (by decide) dX12_comesTo_180 hl (k := 3) rfl (by decide) (fun x64 ls e_x64 i_x64 hl => ?_)
            have hl : lv_has ls 8 [(5, .int x64), (4, .int x63), (7, .int x20), (6, .int x14), (0, .ref h0), (1, .int x_0), (3, .int x_2)] := hl
            refine lv_goto (tgt := 6) hx hb dX12_comesTo_183 (by decide) ?_
            exact ih_6 G61 hM _ _ hB a_h0 x63 ⟨by have w1 := i_x63.1; omega, by have w9 := i_x64.2; omega⟩ x64 (i_x64.wk (by decide)) (iv_mup (c := 1) i_x2 (by decide) (by decide) (by omega) hn_6) ⟨by omega, by omega, iv_sgc hc8.2 (by omega) (by omega) (by omega)⟩ _ (lv_sub hl [0, 1, 4, 5, 6] rfl)
          · skip
            have i64_x14 : iv_R 0 0 x14 := (hc8.1.cutHi (n := 0) (iv_eq_r c57 q_0).2)
            refine lv_iload hx hb dX12_comesTo_74 (lv_at hl 0 rfl) ?_
            refine lv_goto (tgt := 86) hx hb dX12_comesTo_76 (by decide) ?_
            refine iv_ast X hB a_b56 sh_67 (iv_in i_x1 (by decide)) i_x20 dX12_comesTo_86 (fun H locs hB => ?_)
            have hm := iv_Md.ast (j := x1.toNatClampNeg) (x := x20) a_b56 rfl (by decide)
            have h9 := iv_up_eq (G := G3) (a := b56) (k := (67, upd g_b56 x1.toNatClampNeg x20, r_b56))
            generalize iv_up G3 b56 _ = G66 at hB hm h9
            have hM := hM.stp hm (by decide)
            have a_h0 := hm.at a_h0 (by decide)
            have a_b9 := hm.at a_b9 (by decide)
            refine iv_iinc hx hb i_x1 (lo := 1) (hi := 411) (by decide) dX12_comesTo_87 hl (k := 3) rfl (by decide) (fun x68 ls e_x68 i_x68 hl => ?_)
            have hl : lv_has ls 8 [(4, .int x68), (7, .int x20), (6, .int x14), (5, .int x2), (0, .ref h0), (1, .int x_0), (3, .int x_2)] := hl
            refine lv_goto (tgt := 180) hx hb dX12_comesTo_90 (by decide) ?_
            refine iv_iinc hx hb i6_x2 (lo := 1) (hi := 410) (by decide) dX12_comesTo_180 hl (k := 3) rfl (by decide) (fun x69 ls e_x69 i_x69 hl => ?_)
            have hl : lv_has ls 8 [(5, .int x69), (4, .int x68), (7, .int x20), (6, .int x14), (0, .ref h0), (1, .int x_0), (3, .int x_2)] := hl
            refine lv_goto (tgt := 6) hx hb dX12_comesTo_183 (by decide) ?_
            exact ih_6 G66 hM _ _ hB a_h0 x68 ⟨by have w1 := i_x68.1; omega, by have w9 := i_x69.2; omega⟩ x69 (i_x69.wk (by decide)) (iv_mup (c := 1) i_x2 (by decide) (by decide) (by omega) hn_6) ⟨by omega, by omega, iv_sgc hc8.2 (by omega) (by omega) (by omega)⟩ _ (lv_sub hl [0, 1, 4, 5, 6] rfl)
  exact L_6 _ G hM _ _ hB a_h0 0 (q_0.wk (by decide)) x_1 i_x_1 (Nat.lt_succ_self _) ⟨hbe, by have w1 := i_x_1.1; have w2 : (0 : Int32).toInt = 0 := rfl; omega, hsg⟩ _ (lv_sub hl [0, 1, 2, 3, 5] rfl)
theorem dX12_isSo_0 : decode cX12_isSo 0 = .ok (.aload_n 0, 1) := by decide +kernel
theorem dX12_isSo_1 : decode cX12_isSo 1 = .ok (.getfield 7, 3) := by decide +kernel
theorem dX12_isSo_4 : decode cX12_isSo 4 = .ok (.sipush 810, 3) := by decide +kernel
theorem dX12_isSo_7 : decode cX12_isSo 7 = .ok (.bipush 16, 2) := by decide +kernel
theorem dX12_isSo_9 : decode cX12_isSo 9 = .ok (.iload_n 1, 1) := by decide +kernel
theorem dX12_isSo_10 : decode cX12_isSo 10 = .ok (.imul, 1) := by decide +kernel
theorem dX12_isSo_11 : decode cX12_isSo 11 = .ok (.iadd, 1) := by decide +kernel
theorem dX12_isSo_12 : decode cX12_isSo 12 = .ok (.iload_n 2, 1) := by decide +kernel
theorem dX12_isSo_13 : decode cX12_isSo 13 = .ok (.iadd, 1) := by decide +kernel
theorem dX12_isSo_14 : decode cX12_isSo 14 = .ok (.iaload, 1) := by decide +kernel
theorem dX12_isSo_15 : decode cX12_isSo 15 = .ok (.aload_n 0, 1) := by decide +kernel
theorem dX12_isSo_16 : decode cX12_isSo 16 = .ok (.getfield 7, 3) := by decide +kernel
theorem dX12_isSo_19 : decode cX12_isSo 19 = .ok (.sipush 778, 3) := by decide +kernel
theorem dX12_isSo_22 : decode cX12_isSo 22 = .ok (.bipush 16, 2) := by decide +kernel
theorem dX12_isSo_24 : decode cX12_isSo 24 = .ok (.iload_n 1, 1) := by decide +kernel
theorem dX12_isSo_25 : decode cX12_isSo 25 = .ok (.imul, 1) := by decide +kernel
theorem dX12_isSo_26 : decode cX12_isSo 26 = .ok (.iadd, 1) := by decide +kernel
theorem dX12_isSo_27 : decode cX12_isSo 27 = .ok (.iload_n 2, 1) := by decide +kernel
theorem dX12_isSo_28 : decode cX12_isSo 28 = .ok (.iadd, 1) := by decide +kernel
theorem dX12_isSo_29 : decode cX12_isSo 29 = .ok (.iaload, 1) := by decide +kernel
theorem dX12_isSo_30 : decode cX12_isSo 30 = .ok (.if_icmp .eq 42, 3) := by decide +kernel
theorem dX12_isSo_33 : decode cX12_isSo 33 = .ok (.aload_n 0, 1) := by decide +kernel
theorem dX12_isSo_34 : decode cX12_isSo 34 = .ok (.iload_n 1, 1) := by decide +kernel
theorem dX12_isSo_35 : decode cX12_isSo 35 = .ok (.aload_n 0, 1) := by decide +kernel
theorem dX12_isSo_36 : decode cX12_isSo 36 = .ok (.getfield 7, 3) := by decide +kernel
theorem dX12_isSo_39 : decode cX12_isSo 39 = .ok (.sipush 778, 3) := by decide +kernel
theorem dX12_isSo_42 : decode cX12_isSo 42 = .ok (.bipush 16, 2) := by decide +kernel
theorem dX12_isSo_44 : decode cX12_isSo 44 = .ok (.iload_n 1, 1) := by decide +kernel
theorem dX12_isSo_45 : decode cX12_isSo 45 = .ok (.imul, 1) := by decide +kernel
theorem dX12_isSo_46 : decode cX12_isSo 46 = .ok (.iadd, 1) := by decide +kernel
theorem dX12_isSo_47 : decode cX12_isSo 47 = .ok (.iload_n 2, 1) := by decide +kernel
theorem dX12_isSo_48 : decode cX12_isSo 48 = .ok (.iadd, 1) := by decide +kernel
theorem dX12_isSo_49 : decode cX12_isSo 49 = .ok (.iaload, 1) := by decide +kernel
theorem dX12_isSo_50 : decode cX12_isSo 50 = .ok (.aload_n 0, 1) := by decide +kernel
theorem dX12_isSo_51 : decode cX12_isSo 51 = .ok (.getfield 7, 3) := by decide +kernel
theorem dX12_isSo_54 : decode cX12_isSo 54 = .ok (.sipush 810, 3) := by decide +kernel
theorem dX12_isSo_57 : decode cX12_isSo 57 = .ok (.bipush 16, 2) := by decide +kernel
theorem dX12_isSo_59 : decode cX12_isSo 59 = .ok (.iload_n 1, 1) := by decide +kernel
theorem dX12_isSo_60 : decode cX12_isSo 60 = .ok (.imul, 1) := by decide +kernel
theorem dX12_isSo_61 : decode cX12_isSo 61 = .ok (.iadd, 1) := by decide +kernel
theorem dX12_isSo_62 : decode cX12_isSo 62 = .ok (.iload_n 2, 1) := by decide +kernel
theorem dX12_isSo_63 : decode cX12_isSo 63 = .ok (.iadd, 1) := by decide +kernel
theorem dX12_isSo_64 : decode cX12_isSo 64 = .ok (.iaload, 1) := by decide +kernel
theorem dX12_isSo_65 : decode cX12_isSo 65 = .ok (.invokevirtual 269, 3) := by decide +kernel
theorem dX12_isSo_68 : decode cX12_isSo 68 = .ok (.iconst 1, 1) := by decide +kernel
theorem dX12_isSo_69 : decode cX12_isSo 69 = .ok (.if_icmp .ne 7, 3) := by decide +kernel
theorem dX12_isSo_72 : decode cX12_isSo 72 = .ok (.iconst 1, 1) := by decide +kernel
theorem dX12_isSo_73 : decode cX12_isSo 73 = .ok (.goto 4, 3) := by decide +kernel
theorem dX12_isSo_76 : decode cX12_isSo 76 = .ok (.iconst 0, 1) := by decide +kernel
theorem dX12_isSo_77 : decode cX12_isSo 77 = .ok (.ireturn, 1) := by decide +kernel
set_option maxHeartbeats 4000000 in
set_option maxRecDepth 100000 in
theorem c_X12_isSo (l : Launch) (D : va_G) (tys : List (ClassId × FieldType)) (base : Nat) (G : iv_G) (h0 : Nat) (g_h0 : Nat → Int32) (r_h0 : Nat → Nat) (a_h0 : G h0 = some (12, g_h0, r_h0)) (x_0 : Int32) (i_x_0 : iv_R 0 1 x_0) (x_1 : Int32) (i_x_1 : iv_R 0 15 x_1) (gw : Nat → Int32) (rw : Nat → Nat) (hw : G (r_h0 0) = some (60, gw, rw)) (hin : x_1.toInt < (gw (150 + x_0.toInt.toNat)).toInt) : Met l yX12_isSo (Cond.code yX12_isSo cX12_isSo 3 (some .boolean) :: iv_W0) ({ frames := 2, cells := 0, slots := 0, locals := 49 }) (iv_Pc iv_sh D classes tys base G [.ref h0, .int x_0, .int x_1]) (iv_Qi iv_sh D classes tys base (fun v G' => iv_Md [67] G G' ∧ iv_R 0 1 v)) 0 0 (iv_A base) := by
  refine iv_head (by decide) (Nat.le_of_ble_eq_true rfl) ?_
  intro p e s m args below meth c ls X hr hlocks hname hB hl
  have X := X
  have hx := X.1.1
  have hb := X.1.2.1
  have hM : iv_Md [67] G G := iv_Md.rf
  have hl : lv_has ls 3 [(0, .ref h0), (1, .int x_0), (2, .int x_1)] := hl
  refine lv_aload_n hx hb dX12_isSo_0 rfl (lv_at hl 0 rfl) ?_
  refine iv_getr X ft_X12 hB a_h0 sh_12 0 (by decide) rfl k_fl_X12_7 dX12_isSo_1 (fun b1 g_b1 r_b1 e_b1 a_b1 => ?_)
  refine lv_sipush (v := 810) hx hb dX12_isSo_4 (by decide) ?_
  refine lv_bipush (v := 16) hx hb dX12_isSo_7 (by decide) ?_
  refine lv_iload_n hx hb dX12_isSo_9 rfl (lv_at hl 1 rfl) ?_
  refine iv_imul hx hb q_16 i_x_0 (lo := 0) (hi := 16) (by decide) dX12_isSo_10 (fun x2 e_x2 i_x2 => ?_)
  have e_x2 : x2.toInt = 16 * x_0.toInt := e_x2
  refine iv_iadd hx hb q_810 i_x2 (lo := 810) (hi := 826) (by decide) dX12_isSo_11 (fun x3 e_x3 i_x3 => ?_)
  have e_x3 : x3.toInt = 810 + x2.toInt := e_x3
  refine lv_iload_n hx hb dX12_isSo_12 rfl (lv_at hl 2 rfl) ?_
  refine iv_iadd hx hb i_x3 i_x_1 (lo := 810) (hi := 841) (by decide) dX12_isSo_13 (fun x4 e_x4 i_x4 => ?_)
  refine iv_aldP X hB a_b1 sh_60 (iv_in i_x4 (by decide)) dX12_isSo_14 (fun hP => ?_)
  refine lv_topi (fun x5 e_x5 => ?_)
  have i_x5 := iv_R.all x5
  refine lv_aload_n hx hb dX12_isSo_15 rfl (lv_at hl 0 rfl) ?_
  refine iv_getr0 X ft_X12 hB a_h0 sh_12 0 (by decide) rfl k_fl_X12_7 dX12_isSo_16 e_b1 ?_
  refine lv_sipush (v := 778) hx hb dX12_isSo_19 (by decide) ?_
  refine lv_bipush (v := 16) hx hb dX12_isSo_22 (by decide) ?_
  refine lv_iload_n hx hb dX12_isSo_24 rfl (lv_at hl 1 rfl) ?_
  refine iv_imul hx hb q_16 i_x_0 (lo := 0) (hi := 16) (by decide) dX12_isSo_25 (fun x6 e_x6 i_x6 => ?_)
  have e_x6 : x6.toInt = 16 * x_0.toInt := e_x6
  refine iv_iadd hx hb q_778 i_x6 (lo := 778) (hi := 794) (by decide) dX12_isSo_26 (fun x7 e_x7 i_x7 => ?_)
  have e_x7 : x7.toInt = 778 + x6.toInt := e_x7
  refine lv_iload_n hx hb dX12_isSo_27 rfl (lv_at hl 2 rfl) ?_
  refine iv_iadd hx hb i_x7 i_x_1 (lo := 778) (hi := 809) (by decide) dX12_isSo_28 (fun x8 e_x8 i_x8 => ?_)
  refine iv_aldP X hB a_b1 sh_60 (iv_in i_x8 (by decide)) dX12_isSo_29 (fun hP => ?_)
  refine lv_topi (fun x9 e_x9 => ?_)
  have i_x9 := iv_R.all x9
  refine lv_icmp_eq (tgt := 72) hx hb dX12_isSo_30 (by decide) (fun c10 => ?_) (fun c10 => ?_)
  · skip
    refine lv_iconst (v := 1) hx hb dX12_isSo_72 (by decide) ?_
    refine lv_goto (tgt := 77) hx hb dX12_isSo_73 (by decide) ?_
    exact iv_zret X hr hlocks hB (q_1.wk (by decide)) ⟨hM, (q_1.wk (by decide))⟩ dX12_isSo_77
  · skip
    refine lv_aload_n hx hb dX12_isSo_33 rfl (lv_at hl 0 rfl) ?_
    refine lv_iload_n hx hb dX12_isSo_34 rfl (lv_at hl 1 rfl) ?_
    refine lv_aload_n hx hb dX12_isSo_35 rfl (lv_at hl 0 rfl) ?_
    refine iv_getr0 X ft_X12 hB a_h0 sh_12 0 (by decide) rfl k_fl_X12_7 dX12_isSo_36 e_b1 ?_
    refine lv_sipush (v := 778) hx hb dX12_isSo_39 (by decide) ?_
    refine lv_bipush (v := 16) hx hb dX12_isSo_42 (by decide) ?_
    refine lv_iload_n hx hb dX12_isSo_44 rfl (lv_at hl 1 rfl) ?_
    refine iv_imul hx hb q_16 i_x_0 (lo := 0) (hi := 16) (by decide) dX12_isSo_45 (fun x11 e_x11 i_x11 => ?_)
    have e_x11 : x11.toInt = 16 * x_0.toInt := e_x11
    refine iv_iadd hx hb q_778 i_x11 (lo := 778) (hi := 794) (by decide) dX12_isSo_46 (fun x12 e_x12 i_x12 => ?_)
    have e_x12 : x12.toInt = 778 + x11.toInt := e_x12
    refine lv_iload_n hx hb dX12_isSo_47 rfl (lv_at hl 2 rfl) ?_
    refine iv_iadd hx hb i_x12 i_x_1 (lo := 778) (hi := 809) (by decide) dX12_isSo_48 (fun x13 e_x13 i_x13 => ?_)
    refine iv_aldP X hB a_b1 sh_60 (iv_in i_x13 (by decide)) dX12_isSo_49 (fun hP => ?_)
    refine lv_topi (fun x14 e_x14 => ?_)
    have i_x14 := iv_R.all x14
    refine lv_aload_n hx hb dX12_isSo_50 rfl (lv_at hl 0 rfl) ?_
    refine iv_getr0 X ft_X12 hB a_h0 sh_12 0 (by decide) rfl k_fl_X12_7 dX12_isSo_51 e_b1 ?_
    refine lv_sipush (v := 810) hx hb dX12_isSo_54 (by decide) ?_
    refine lv_bipush (v := 16) hx hb dX12_isSo_57 (by decide) ?_
    refine lv_iload_n hx hb dX12_isSo_59 rfl (lv_at hl 1 rfl) ?_
    refine iv_imul hx hb q_16 i_x_0 (lo := 0) (hi := 16) (by decide) dX12_isSo_60 (fun x15 e_x15 i_x15 => ?_)
    have e_x15 : x15.toInt = 16 * x_0.toInt := e_x15
    refine iv_iadd hx hb q_810 i_x15 (lo := 810) (hi := 826) (by decide) dX12_isSo_61 (fun x16 e_x16 i_x16 => ?_)
    have e_x16 : x16.toInt = 810 + x15.toInt := e_x16
    refine lv_iload_n hx hb dX12_isSo_62 rfl (lv_at hl 2 rfl) ?_
    refine iv_iadd hx hb i_x16 i_x_1 (lo := 810) (hi := 841) (by decide) dX12_isSo_63 (fun x17 e_x17 i_x17 => ?_)
    refine iv_aldP X hB a_b1 sh_60 (iv_in i_x17 (by decide)) dX12_isSo_64 (fun hP => ?_)
    refine lv_topi (fun x18 e_x18 => ?_)
    have i_x18 := iv_R.all x18
    have hg2 : g_b1 = gw := iv_samew hw e_b1 a_b1
    have hq_x_0_2 := i_x_0.1
    have hr_x_0_2 := i_x_0.2
    have hq_x_1_2 := i_x_1.1
    have hr_x_1_2 := i_x_1.2
    have hL2 := iv_wP_lw (hg2 ▸ hP) x_0.toInt.toNat (by omega)
    obtain ⟨b2, m2, e2, l1_2, l2_2, l3_2, l4_2, l5_2, l6_2, l7_2, l8_2⟩ := hL2 x_1.toInt.toNat (by have w1 := hin; omega)
    have hv2_49 : x14.toInt = (m2 : Int) := by rw [e_x14, hg2, show x13.toNatClampNeg = 778 + 16 * x_0.toInt.toNat + x_1.toInt.toNat from (by show x13.toInt.toNat = _; omega), l2_2]; exact nI_toInt (by omega)
    have i18_x14 : iv_R 0 410 x14 := ⟨by omega, by omega⟩
    have hv2_64 : x18.toInt = (e2 : Int) := by rw [e_x18, hg2, show x17.toNatClampNeg = 810 + 16 * x_0.toInt.toNat + x_1.toInt.toNat from (by show x17.toInt.toNat = _; omega), l3_2]; exact nI_toInt (by omega)
    have i19_x18 : iv_R 0 410 x18 := ⟨by omega, by omega⟩
    refine iv_cVi X k_good k_mf_X12_comesTo k_im_X12_comesTo k_sel_X12_comesTo k_ml_X12_269 ft_X12 hB a_h0 sh_12 (As := [.int x_0, .int x14, .int x18]) (c_X12_comesTo l D tys base G h0 g_h0 r_h0 a_h0 x_0 i_x_0 x14 i18_x14 x18 i19_x18 gw rw hw (by omega) (iv_sgc l8_2 (by omega) (by omega) rfl)) ⟨rfl, rfl⟩ ⟨Nat.le_of_ble_eq_true rfl, Nat.le_of_ble_eq_true rfl⟩ ⟨Nat.le_of_ble_eq_true rfl, Nat.le_of_ble_eq_true rfl⟩ rfl rfl hl.1 (Nat.le_of_ble_eq_true rfl) dX12_isSo_65 (fun x21 G9 H locs hq hB => ?_)
    obtain ⟨hm, i_x21⟩ := hq
    obtain ⟨G22, hG9⟩ : ∃ g, g = G9 := ⟨_, rfl⟩
    rw [← hG9] at hm hB
    have hM := hM.stp hm (by decide)
    have a_h0 := hm.at a_h0 (by decide)
    have a_b1 := hm.at a_b1 (by decide)
    refine lv_iconst (v := 1) hx hb dX12_isSo_68 (by decide) ?_
    refine lv_icmp_ne (tgt := 76) hx hb dX12_isSo_69 (by decide) (fun c23 => ?_) (fun c23 => ?_)
    · skip
      refine lv_iconst (v := 0) hx hb dX12_isSo_76 (by decide) ?_
      exact iv_zret X hr hlocks hB (q_0.wk (by decide)) ⟨hM, (q_0.wk (by decide))⟩ dX12_isSo_77
    · skip
      have i23_x21 : iv_R 1 1 x21 := ((i_x21.cutLo (n := 1) (iv_eq_r c23 q_1).1).cutHi (n := 1) (iv_eq_r c23 q_1).2)
      refine lv_iconst (v := 1) hx hb dX12_isSo_72 (by decide) ?_
      refine lv_goto (tgt := 77) hx hb dX12_isSo_73 (by decide) ?_
      exact iv_zret X hr hlocks hB (q_1.wk (by decide)) ⟨hM, (q_1.wk (by decide))⟩ dX12_isSo_77
theorem dX12_lesser_0 : decode cX12_lesser 0 = .ok (.iload_n 0, 1) := by decide +kernel
theorem dX12_lesser_1 : decode cX12_lesser 1 = .ok (.iload_n 1, 1) := by decide +kernel
theorem dX12_lesser_2 : decode cX12_lesser 2 = .ok (.if_icmp .ge 7, 3) := by decide +kernel
theorem dX12_lesser_5 : decode cX12_lesser 5 = .ok (.iload_n 0, 1) := by decide +kernel
theorem dX12_lesser_6 : decode cX12_lesser 6 = .ok (.goto 4, 3) := by decide +kernel
theorem dX12_lesser_9 : decode cX12_lesser 9 = .ok (.iload_n 1, 1) := by decide +kernel
theorem dX12_lesser_10 : decode cX12_lesser 10 = .ok (.ireturn, 1) := by decide +kernel
set_option maxHeartbeats 4000000 in
set_option maxRecDepth 100000 in
theorem c_X12_lesser (l : Launch) (D : va_G) (tys : List (ClassId × FieldType)) (base : Nat) (G : iv_G) (x_0 : Int32) (i_x_0 : iv_R (-2147483648) 2147483647 x_0) (x_1 : Int32) (i_x_1 : iv_R (-2147483648) 2147483647 x_1) : Met l yX12_lesser (Cond.code yX12_lesser cX12_lesser 2 (some .int) :: iv_W0) ({ frames := 0, cells := 0, slots := 0, locals := 0 }) (iv_Pc iv_sh D classes tys base G [.int x_0, .int x_1]) (iv_Qi iv_sh D classes tys base (fun v G' => G = G' ∧ iv_R (-2147483648) 2147483647 v)) 0 0 (iv_A base) := by
  refine iv_head (by decide) (Nat.le_of_ble_eq_true rfl) ?_
  intro p e s m args below meth c ls X hr hlocks hname hB hl
  have X := X
  have hx := X.1.1
  have hb := X.1.2.1
  have hl : lv_has ls 2 [(0, .int x_0), (1, .int x_1)] := hl
  refine lv_iload_n hx hb dX12_lesser_0 rfl (lv_at hl 0 rfl) ?_
  refine lv_iload_n hx hb dX12_lesser_1 rfl (lv_at hl 1 rfl) ?_
  refine lv_icmp_ge (tgt := 9) hx hb dX12_lesser_2 (by decide) (fun c1 => ?_) (fun c1 => ?_)
  · skip
    refine lv_iload_n hx hb dX12_lesser_9 rfl (lv_at hl 1 rfl) ?_
    exact iv_iret X hr hlocks hB ⟨rfl, i_x_1⟩ dX12_lesser_10
  · skip
    have i1_x_0 : iv_R (-2147483648) 2147483646 x_0 := (i_x_0.cutHi (n := 2147483646) (iv_lt_r (iv_nle c1) i_x_1 (by decide)))
    have i2_x_1 : iv_R (-2147483647) 2147483647 x_1 := (i_x_1.cutLo (n := (-2147483647)) (iv_lt_l (iv_nle c1) i_x_0 (by decide)))
    refine lv_iload_n hx hb dX12_lesser_5 rfl (lv_at hl 0 rfl) ?_
    refine lv_goto (tgt := 10) hx hb dX12_lesser_6 (by decide) ?_
    exact iv_iret X hr hlocks hB ⟨rfl, (i1_x_0.wk (by decide))⟩ dX12_lesser_10
theorem dX12_says_0 : decode cX12_says 0 = .ok (.iconst 0, 1) := by decide +kernel
theorem dX12_says_1 : decode cX12_says 1 = .ok (.istore 5, 2) := by decide +kernel
theorem dX12_says_3 : decode cX12_says 3 = .ok (.iload 5, 2) := by decide +kernel
theorem dX12_says_5 : decode cX12_says 5 = .ok (.aload_n 0, 1) := by decide +kernel
theorem dX12_says_6 : decode cX12_says 6 = .ok (.getfield 7, 3) := by decide +kernel
theorem dX12_says_9 : decode cX12_says 9 = .ok (.sipush 150, 3) := by decide +kernel
theorem dX12_says_12 : decode cX12_says 12 = .ok (.iload_n 1, 1) := by decide +kernel
theorem dX12_says_13 : decode cX12_says 13 = .ok (.iadd, 1) := by decide +kernel
theorem dX12_says_14 : decode cX12_says 14 = .ok (.iaload, 1) := by decide +kernel
theorem dX12_says_15 : decode cX12_says 15 = .ok (.if_icmp .ge 86, 3) := by decide +kernel
theorem dX12_says_18 : decode cX12_says 18 = .ok (.aload_n 0, 1) := by decide +kernel
theorem dX12_says_19 : decode cX12_says 19 = .ok (.getfield 7, 3) := by decide +kernel
theorem dX12_says_22 : decode cX12_says 22 = .ok (.sipush 842, 3) := by decide +kernel
theorem dX12_says_25 : decode cX12_says 25 = .ok (.bipush 16, 2) := by decide +kernel
theorem dX12_says_27 : decode cX12_says 27 = .ok (.iload_n 1, 1) := by decide +kernel
theorem dX12_says_28 : decode cX12_says 28 = .ok (.imul, 1) := by decide +kernel
theorem dX12_says_29 : decode cX12_says 29 = .ok (.iadd, 1) := by decide +kernel
theorem dX12_says_30 : decode cX12_says 30 = .ok (.iload 5, 2) := by decide +kernel
theorem dX12_says_32 : decode cX12_says 32 = .ok (.iadd, 1) := by decide +kernel
theorem dX12_says_33 : decode cX12_says 33 = .ok (.iaload, 1) := by decide +kernel
theorem dX12_says_34 : decode cX12_says 34 = .ok (.iload_n 2, 1) := by decide +kernel
theorem dX12_says_35 : decode cX12_says 35 = .ok (.if_icmp .ne 60, 3) := by decide +kernel
theorem dX12_says_38 : decode cX12_says 38 = .ok (.aload_n 0, 1) := by decide +kernel
theorem dX12_says_39 : decode cX12_says 39 = .ok (.iload_n 1, 1) := by decide +kernel
theorem dX12_says_40 : decode cX12_says 40 = .ok (.iload 5, 2) := by decide +kernel
theorem dX12_says_42 : decode cX12_says 42 = .ok (.invokevirtual 272, 3) := by decide +kernel
theorem dX12_says_45 : decode cX12_says 45 = .ok (.ifCond .eq 50, 3) := by decide +kernel
theorem dX12_says_48 : decode cX12_says 48 = .ok (.iconst 0, 1) := by decide +kernel
theorem dX12_says_49 : decode cX12_says 49 = .ok (.iload 4, 2) := by decide +kernel
theorem dX12_says_51 : decode cX12_says 51 = .ok (.aload_n 0, 1) := by decide +kernel
theorem dX12_says_52 : decode cX12_says 52 = .ok (.iload_n 1, 1) := by decide +kernel
theorem dX12_says_53 : decode cX12_says 53 = .ok (.aload_n 0, 1) := by decide +kernel
theorem dX12_says_54 : decode cX12_says 54 = .ok (.getfield 7, 3) := by decide +kernel
theorem dX12_says_57 : decode cX12_says 57 = .ok (.sipush 746, 3) := by decide +kernel
theorem dX12_says_60 : decode cX12_says 60 = .ok (.bipush 16, 2) := by decide +kernel
theorem dX12_says_62 : decode cX12_says 62 = .ok (.iload_n 1, 1) := by decide +kernel
theorem dX12_says_63 : decode cX12_says 63 = .ok (.imul, 1) := by decide +kernel
theorem dX12_says_64 : decode cX12_says 64 = .ok (.iadd, 1) := by decide +kernel
theorem dX12_says_65 : decode cX12_says 65 = .ok (.iload 5, 2) := by decide +kernel
theorem dX12_says_67 : decode cX12_says 67 = .ok (.iadd, 1) := by decide +kernel
theorem dX12_says_68 : decode cX12_says 68 = .ok (.iaload, 1) := by decide +kernel
theorem dX12_says_69 : decode cX12_says 69 = .ok (.aload_n 0, 1) := by decide +kernel
theorem dX12_says_70 : decode cX12_says 70 = .ok (.getfield 7, 3) := by decide +kernel
theorem dX12_says_73 : decode cX12_says 73 = .ok (.sipush 778, 3) := by decide +kernel
theorem dX12_says_76 : decode cX12_says 76 = .ok (.bipush 16, 2) := by decide +kernel
theorem dX12_says_78 : decode cX12_says 78 = .ok (.iload_n 1, 1) := by decide +kernel
theorem dX12_says_79 : decode cX12_says 79 = .ok (.imul, 1) := by decide +kernel
theorem dX12_says_80 : decode cX12_says 80 = .ok (.iadd, 1) := by decide +kernel
theorem dX12_says_81 : decode cX12_says 81 = .ok (.iload 5, 2) := by decide +kernel
theorem dX12_says_83 : decode cX12_says 83 = .ok (.iadd, 1) := by decide +kernel
theorem dX12_says_84 : decode cX12_says 84 = .ok (.iaload, 1) := by decide +kernel
theorem dX12_says_85 : decode cX12_says 85 = .ok (.invokevirtual 269, 3) := by decide +kernel
theorem dX12_says_88 : decode cX12_says 88 = .ok (.invokestatic 275, 3) := by decide +kernel
theorem dX12_says_91 : decode cX12_says 91 = .ok (.invokestatic 279, 3) := by decide +kernel
theorem dX12_says_94 : decode cX12_says 94 = .ok (.ireturn, 1) := by decide +kernel
theorem dX12_says_95 : decode cX12_says 95 = .ok (.iinc 5 1, 3) := by decide +kernel
theorem dX12_says_98 : decode cX12_says 98 = .ok (.goto (-95), 3) := by decide +kernel
theorem dX12_says_101 : decode cX12_says 101 = .ok (.iconst 0, 1) := by decide +kernel
theorem dX12_says_102 : decode cX12_says 102 = .ok (.iload 4, 2) := by decide +kernel
theorem dX12_says_104 : decode cX12_says 104 = .ok (.iload_n 3, 1) := by decide +kernel
theorem dX12_says_105 : decode cX12_says 105 = .ok (.invokestatic 275, 3) := by decide +kernel
theorem dX12_says_108 : decode cX12_says 108 = .ok (.invokestatic 279, 3) := by decide +kernel
theorem dX12_says_111 : decode cX12_says 111 = .ok (.ireturn, 1) := by decide +kernel
set_option maxHeartbeats 4000000 in
set_option maxRecDepth 100000 in
theorem c_X12_says (l : Launch) (D : va_G) (tys : List (ClassId × FieldType)) (base : Nat) (G : iv_G) (h0 : Nat) (g_h0 : Nat → Int32) (r_h0 : Nat → Nat) (a_h0 : G h0 = some (12, g_h0, r_h0)) (x_0 : Int32) (i_x_0 : iv_R 0 1 x_0) (x_1 : Int32) (i_x_1 : iv_R (-2147483648) 2147483647 x_1) (x_2 : Int32) (i_x_2 : iv_R (-2147483648) 2147483647 x_2) (x_3 : Int32) (i_x_3 : iv_R (-2147483648) 2147483647 x_3) (gw : Nat → Int32) (rw : Nat → Nat) (hw : G (r_h0 0) = some (60, gw, rw)) : Met l yX12_says (Cond.code yX12_says cX12_says 6 (some .int) :: iv_W0) ({ frames := 3, cells := 0, slots := 0, locals := 71 }) (iv_Pc iv_sh D classes tys base G [.ref h0, .int x_0, .int x_1, .int x_2, .int x_3]) (iv_Qi iv_sh D classes tys base (fun v G' => iv_Md [67] G G' ∧ iv_R (-2147483648) 2147483647 v)) 0 0 (iv_A base) := by
  refine iv_head (by decide) (Nat.le_of_ble_eq_true rfl) ?_
  intro p e s m args below meth c ls X hr hlocks hname hB hl
  have X := X
  have hx := X.1.1
  have hb := X.1.2.1
  have hM : iv_Md [67] G G := iv_Md.rf
  have hl : lv_has ls 6 [(0, .ref h0), (1, .int x_0), (2, .int x_1), (3, .int x_2), (4, .int x_3)] := hl
  refine lv_iconst (v := 0) hx hb dX12_says_0 (by decide) ?_
  refine lv_istore (lv' := [(5, .int 0), (0, .ref h0), (1, .int x_0), (2, .int x_1), (3, .int x_2), (4, .int x_3)]) hx hb dX12_says_1 hl (by decide) rfl (fun ls hl => ?_)
  have L_3 : ∀ (n_3 : Nat) (G2 : iv_G) (hM : iv_Md [67] G G2) (H : Heap) (locs : List Loc) (hB : iv_B iv_sh D classes tys base G2 s.heap H locs) (a_h0 : G2 h0 = some (12, g_h0, r_h0)) (x1 : Int32) (i_x1 : iv_R 0 16 x1) (hn_3 : (17 - x1.toInt).toNat < n_3) (ls : Array Slot) (hl : lv_has ls 6 [(5, .int x1), (0, .ref h0), (1, .int x_0), (2, .int x_1), (3, .int x_2), (4, .int x_3)]), W p l e ({ frames := 3, cells := 0, slots := 0, locals := 71 } : Room) s m args below meth c H locs 0 0 (MQ below (iv_Qi iv_sh D classes tys base (fun v G' => iv_Md [67] G G' ∧ iv_R (-2147483648) 2147483647 v)) args s 0 0 (iv_A base)) (F0 m 3 ls []) := by
    intro n_3
    induction n_3 with
    | zero => intro G2 hM H locs hB a_h0 x1 i_x1 hn_3 ls hl; exact absurd hn_3 (Nat.not_lt_zero _)
    | succ n_3 ih_3 =>
      intro G2 hM H locs hB a_h0 x1 i_x1 hn_3 ls hl
      refine lv_iload hx hb dX12_says_3 (lv_at hl 0 rfl) ?_
      refine lv_aload_n hx hb dX12_says_5 rfl (lv_at hl 1 rfl) ?_
      refine iv_getr X ft_X12 hB a_h0 sh_12 0 (by decide) rfl k_fl_X12_7 dX12_says_6 (fun b3 g_b3 r_b3 e_b3 a_b3 => ?_)
      refine lv_sipush (v := 150) hx hb dX12_says_9 (by decide) ?_
      refine lv_iload_n hx hb dX12_says_12 rfl (lv_at hl 2 rfl) ?_
      refine iv_iadd hx hb q_150 i_x_0 (lo := 150) (hi := 151) (by decide) dX12_says_13 (fun x4 e_x4 i_x4 => ?_)
      have e_x4 : x4.toInt = 150 + x_0.toInt := e_x4
      refine iv_aldP X hB a_b3 sh_60 (iv_in i_x4 (by decide)) dX12_says_14 (fun hP => ?_)
      refine lv_topi (fun x5 e_x5 => ?_)
      have i_x5 := iv_R.all x5
      have hw1 := hM.at hw (by decide)
      have hg2 : g_b3 = gw := iv_samew hw1 e_b3 a_b3
      have hq_x_0_2 := i_x_0.1
      have hr_x_0_2 := i_x_0.2
      have hv2 : x5 = gw (150 + x_0.toInt.toNat) := by rw [e_x5, hg2, show x4.toNatClampNeg = 150 + x_0.toInt.toNat from (by show x4.toInt.toNat = _; omega)]
      have i5_x5 : iv_R 0 16 x5 := by rw [hv2]; exact iv_wP_ln (hg2 ▸ hP) _ (by omega)
      refine lv_icmp_ge (tgt := 101) hx hb dX12_says_15 (by decide) (fun c7 => ?_) (fun c7 => ?_)
      · skip
        refine lv_iconst (v := 0) hx hb dX12_says_101 (by decide) ?_
        refine lv_iload hx hb dX12_says_102 (lv_at hl 5 rfl) ?_
        refine lv_iload_n hx hb dX12_says_104 rfl (lv_at hl 4 rfl) ?_
        refine iv_cSi X k_good k_mf_X12_lesser k_st_X12_lesser k_ml_X12_275 hB (As := [.int x_3, .int x_2]) (c_X12_lesser l D tys base G2 x_3 i_x_3 x_2 i_x_2) ⟨rfl, rfl⟩ ⟨Nat.le_of_ble_eq_true rfl, Nat.le_of_ble_eq_true rfl⟩ ⟨Nat.le_of_ble_eq_true rfl, Nat.le_of_ble_eq_true rfl⟩ rfl rfl hl.1 (Nat.le_of_ble_eq_true rfl) dX12_says_105 (fun x8 G9 H locs hq hB => ?_)
        obtain ⟨rfl, i_x8⟩ := hq
        refine iv_cSi X k_good k_mf_X12_greater k_st_X12_greater k_ml_X12_279 hB (As := [.int 0, .int x8]) (c_X12_greater l D tys base G2 0 (q_0.wk (by decide)) x8 i_x8) ⟨rfl, rfl⟩ ⟨Nat.le_of_ble_eq_true rfl, Nat.le_of_ble_eq_true rfl⟩ ⟨Nat.le_of_ble_eq_true rfl, Nat.le_of_ble_eq_true rfl⟩ rfl rfl hl.1 (Nat.le_of_ble_eq_true rfl) dX12_says_108 (fun x9 G9 H locs hq hB => ?_)
        obtain ⟨rfl, i_x9⟩ := hq
        exact iv_iret X hr hlocks hB ⟨hM, i_x9⟩ dX12_says_111
      · skip
        have i9_x1 : iv_R 0 15 x1 := (i_x1.cutHi (n := 15) (iv_lt_r (iv_nle c7) i5_x5 (by decide)))
        have i10_x5 : iv_R 1 16 x5 := (i5_x5.cutLo (n := 1) (iv_lt_l (iv_nle c7) i_x1 (by decide)))
        refine lv_aload_n hx hb dX12_says_18 rfl (lv_at hl 1 rfl) ?_
        refine iv_getr0 X ft_X12 hB a_h0 sh_12 0 (by decide) rfl k_fl_X12_7 dX12_says_19 e_b3 ?_
        refine lv_sipush (v := 842) hx hb dX12_says_22 (by decide) ?_
        refine lv_bipush (v := 16) hx hb dX12_says_25 (by decide) ?_
        refine lv_iload_n hx hb dX12_says_27 rfl (lv_at hl 2 rfl) ?_
        refine iv_imul hx hb q_16 i_x_0 (lo := 0) (hi := 16) (by decide) dX12_says_28 (fun x12 e_x12 i_x12 => ?_)
        have e_x12 : x12.toInt = 16 * x_0.toInt := e_x12
        refine iv_iadd hx hb q_842 i_x12 (lo := 842) (hi := 858) (by decide) dX12_says_29 (fun x13 e_x13 i_x13 => ?_)
        have e_x13 : x13.toInt = 842 + x12.toInt := e_x13
        refine lv_iload hx hb dX12_says_30 (lv_at hl 0 rfl) ?_
        refine iv_iadd hx hb i_x13 i9_x1 (lo := 842) (hi := 873) (by decide) dX12_says_32 (fun x14 e_x14 i_x14 => ?_)
        refine iv_aldP X hB a_b3 sh_60 (iv_in i_x14 (by decide)) dX12_says_33 (fun hP => ?_)
        refine lv_topi (fun x15 e_x15 => ?_)
        have i_x15 := iv_R.all x15
        refine lv_iload_n hx hb dX12_says_34 rfl (lv_at hl 3 rfl) ?_
        refine lv_icmp_ne (tgt := 95) hx hb dX12_says_35 (by decide) (fun c16 => ?_) (fun c16 => ?_)
        · skip
          refine iv_iinc hx hb i9_x1 (lo := 1) (hi := 16) (by decide) dX12_says_95 hl (k := 0) rfl (by decide) (fun x17 ls e_x17 i_x17 hl => ?_)
          have hl : lv_has ls 6 [(5, .int x17), (0, .ref h0), (1, .int x_0), (2, .int x_1), (3, .int x_2), (4, .int x_3)] := hl
          refine lv_goto (tgt := 3) hx hb dX12_says_98 (by decide) ?_
          exact ih_3 G2 hM _ _ hB a_h0 x17 (i_x17.wk (by decide)) (iv_mup (c := 1) i_x1 (by decide) (by decide) (by omega) hn_3) _ (lv_sub hl [0, 1, 2, 3, 4, 5] rfl)
        · skip
          refine lv_aload_n hx hb dX12_says_38 rfl (lv_at hl 1 rfl) ?_
          refine lv_iload_n hx hb dX12_says_39 rfl (lv_at hl 2 rfl) ?_
          refine lv_iload hx hb dX12_says_40 (lv_at hl 0 rfl) ?_
          have hw3 := hM.at hw (by decide)
          have hi4 : x1.toInt < (gw (150 + x_0.toInt.toNat)).toInt := by rw [← hv2]; exact Int32.lt_iff_toInt_lt.mp (iv_nle c7)
          refine iv_cVi X k_good k_mf_X12_isSo k_im_X12_isSo k_sel_X12_isSo k_ml_X12_272 ft_X12 hB a_h0 sh_12 (As := [.int x_0, .int x1]) (c_X12_isSo l D tys base G2 h0 g_h0 r_h0 a_h0 x_0 i_x_0 x1 i9_x1 gw rw hw3 hi4) ⟨rfl, rfl⟩ ⟨Nat.le_of_ble_eq_true rfl, Nat.le_of_ble_eq_true rfl⟩ ⟨Nat.le_of_ble_eq_true rfl, Nat.le_of_ble_eq_true rfl⟩ rfl rfl hl.1 (Nat.le_of_ble_eq_true rfl) dX12_says_42 (fun x18 G9 H locs hq hB => ?_)
          obtain ⟨hm, i_x18⟩ := hq
          obtain ⟨G19, hG9⟩ : ∃ g, g = G9 := ⟨_, rfl⟩
          rw [← hG9] at hm hB
          have hM := hM.stp hm (by decide)
          have a_h0 := hm.at a_h0 (by decide)
          have a_b3 := hm.at a_b3 (by decide)
          refine lv_if_eq (tgt := 95) hx hb dX12_says_45 (by decide) (fun c20 => ?_) (fun c20 => ?_)
          · skip
            have i20_x18 : iv_R 0 0 x18 := (i_x18.cutHi (n := 0) (iv_eq_r c20 q_0).2)
            refine iv_iinc hx hb i9_x1 (lo := 1) (hi := 16) (by decide) dX12_says_95 hl (k := 0) rfl (by decide) (fun x22 ls e_x22 i_x22 hl => ?_)
            have hl : lv_has ls 6 [(5, .int x22), (0, .ref h0), (1, .int x_0), (2, .int x_1), (3, .int x_2), (4, .int x_3)] := hl
            refine lv_goto (tgt := 3) hx hb dX12_says_98 (by decide) ?_
            exact ih_3 G19 hM _ _ hB a_h0 x22 (i_x22.wk (by decide)) (iv_mup (c := 1) i_x1 (by decide) (by decide) (by omega) hn_3) _ (lv_sub hl [0, 1, 2, 3, 4, 5] rfl)
          · skip
            have i22_x18 : iv_R 1 1 x18 := iv_ne_lo c20 i_x18 q_0 (by decide)
            refine lv_iconst (v := 0) hx hb dX12_says_48 (by decide) ?_
            refine lv_iload hx hb dX12_says_49 (lv_at hl 5 rfl) ?_
            refine lv_aload_n hx hb dX12_says_51 rfl (lv_at hl 1 rfl) ?_
            refine lv_iload_n hx hb dX12_says_52 rfl (lv_at hl 2 rfl) ?_
            refine lv_aload_n hx hb dX12_says_53 rfl (lv_at hl 1 rfl) ?_
            refine iv_getr0 X ft_X12 hB a_h0 sh_12 0 (by decide) rfl k_fl_X12_7 dX12_says_54 e_b3 ?_
            refine lv_sipush (v := 746) hx hb dX12_says_57 (by decide) ?_
            refine lv_bipush (v := 16) hx hb dX12_says_60 (by decide) ?_
            refine lv_iload_n hx hb dX12_says_62 rfl (lv_at hl 2 rfl) ?_
            refine iv_imul hx hb q_16 i_x_0 (lo := 0) (hi := 16) (by decide) dX12_says_63 (fun x24 e_x24 i_x24 => ?_)
            have e_x24 : x24.toInt = 16 * x_0.toInt := e_x24
            refine iv_iadd hx hb q_746 i_x24 (lo := 746) (hi := 762) (by decide) dX12_says_64 (fun x25 e_x25 i_x25 => ?_)
            have e_x25 : x25.toInt = 746 + x24.toInt := e_x25
            refine lv_iload hx hb dX12_says_65 (lv_at hl 0 rfl) ?_
            refine iv_iadd hx hb i_x25 i9_x1 (lo := 746) (hi := 777) (by decide) dX12_says_67 (fun x26 e_x26 i_x26 => ?_)
            refine iv_aldP X hB a_b3 sh_60 (iv_in i_x26 (by decide)) dX12_says_68 (fun hP => ?_)
            refine lv_topi (fun x27 e_x27 => ?_)
            have i_x27 := iv_R.all x27
            refine lv_aload_n hx hb dX12_says_69 rfl (lv_at hl 1 rfl) ?_
            refine iv_getr0 X ft_X12 hB a_h0 sh_12 0 (by decide) rfl k_fl_X12_7 dX12_says_70 e_b3 ?_
            refine lv_sipush (v := 778) hx hb dX12_says_73 (by decide) ?_
            refine lv_bipush (v := 16) hx hb dX12_says_76 (by decide) ?_
            refine lv_iload_n hx hb dX12_says_78 rfl (lv_at hl 2 rfl) ?_
            refine iv_imul hx hb q_16 i_x_0 (lo := 0) (hi := 16) (by decide) dX12_says_79 (fun x28 e_x28 i_x28 => ?_)
            have e_x28 : x28.toInt = 16 * x_0.toInt := e_x28
            refine iv_iadd hx hb q_778 i_x28 (lo := 778) (hi := 794) (by decide) dX12_says_80 (fun x29 e_x29 i_x29 => ?_)
            have e_x29 : x29.toInt = 778 + x28.toInt := e_x29
            refine lv_iload hx hb dX12_says_81 (lv_at hl 0 rfl) ?_
            refine iv_iadd hx hb i_x29 i9_x1 (lo := 778) (hi := 809) (by decide) dX12_says_83 (fun x30 e_x30 i_x30 => ?_)
            refine iv_aldP X hB a_b3 sh_60 (iv_in i_x30 (by decide)) dX12_says_84 (fun hP => ?_)
            refine lv_topi (fun x31 e_x31 => ?_)
            have i_x31 := iv_R.all x31
            have hw5 := hM.at hw (by decide)
            have hg6 : g_b3 = gw := iv_samew hw5 e_b3 a_b3
            have hq_x_0_6 := i_x_0.1
            have hr_x_0_6 := i_x_0.2
            have hq_x1_6 := i9_x1.1
            have hr_x1_6 := i9_x1.2
            have hL6 := iv_wP_lw (hg6 ▸ hP) x_0.toInt.toNat (by omega)
            obtain ⟨b6, m6, e6, l1_6, l2_6, l3_6, l4_6, l5_6, l6_6, l7_6, l8_6⟩ := hL6 x1.toInt.toNat (by have w1 := hi4; omega)
            have hv6_68 : x27.toInt = (b6 : Int) := by rw [e_x27, hg6, show x26.toNatClampNeg = 746 + 16 * x_0.toInt.toNat + x1.toInt.toNat from (by show x26.toInt.toNat = _; omega), l1_6]; exact nI_toInt (by omega)
            have i31_x27 : iv_R 0 410 x27 := ⟨by omega, by omega⟩
            have hv6_84 : x31.toInt = (m6 : Int) := by rw [e_x31, hg6, show x30.toNatClampNeg = 778 + 16 * x_0.toInt.toNat + x1.toInt.toNat from (by show x30.toInt.toNat = _; omega), l2_6]; exact nI_toInt (by omega)
            have i32_x31 : iv_R 0 410 x31 := ⟨by omega, by omega⟩
            refine iv_cVi X k_good k_mf_X12_comesTo k_im_X12_comesTo k_sel_X12_comesTo k_ml_X12_269 ft_X12 hB a_h0 sh_12 (As := [.int x_0, .int x27, .int x31]) (c_X12_comesTo l D tys base G19 h0 g_h0 r_h0 a_h0 x_0 i_x_0 x27 i31_x27 x31 i32_x31 gw rw hw5 (by omega) (iv_sgc l7_6 (by omega) (by omega) rfl)) ⟨rfl, rfl⟩ ⟨Nat.le_of_ble_eq_true rfl, Nat.le_of_ble_eq_true rfl⟩ ⟨Nat.le_of_ble_eq_true rfl, Nat.le_of_ble_eq_true rfl⟩ rfl rfl hl.1 (Nat.le_of_ble_eq_true rfl) dX12_says_85 (fun x34 G9 H locs hq hB => ?_)
            obtain ⟨hm, i_x34⟩ := hq
            obtain ⟨G35, hG9⟩ : ∃ g, g = G9 := ⟨_, rfl⟩
            rw [← hG9] at hm hB
            have hM := hM.stp hm (by decide)
            have a_h0 := hm.at a_h0 (by decide)
            have a_b3 := hm.at a_b3 (by decide)
            refine iv_cSi X k_good k_mf_X12_lesser k_st_X12_lesser k_ml_X12_275 hB (As := [.int x_3, .int x34]) (c_X12_lesser l D tys base G35 x_3 i_x_3 x34 i_x34) ⟨rfl, rfl⟩ ⟨Nat.le_of_ble_eq_true rfl, Nat.le_of_ble_eq_true rfl⟩ ⟨Nat.le_of_ble_eq_true rfl, Nat.le_of_ble_eq_true rfl⟩ rfl rfl hl.1 (Nat.le_of_ble_eq_true rfl) dX12_says_88 (fun x36 G9 H locs hq hB => ?_)
            obtain ⟨rfl, i_x36⟩ := hq
            refine iv_cSi X k_good k_mf_X12_greater k_st_X12_greater k_ml_X12_279 hB (As := [.int 0, .int x36]) (c_X12_greater l D tys base G35 0 (q_0.wk (by decide)) x36 i_x36) ⟨rfl, rfl⟩ ⟨Nat.le_of_ble_eq_true rfl, Nat.le_of_ble_eq_true rfl⟩ ⟨Nat.le_of_ble_eq_true rfl, Nat.le_of_ble_eq_true rfl⟩ rfl rfl hl.1 (Nat.le_of_ble_eq_true rfl) dX12_says_91 (fun x37 G9 H locs hq hB => ?_)
            obtain ⟨rfl, i_x37⟩ := hq
            exact iv_iret X hr hlocks hB ⟨hM, i_x37⟩ dX12_says_94
  exact L_3 _ G hM _ _ hB a_h0 0 (q_0.wk (by decide)) (Nat.lt_succ_self _) _ (lv_sub hl [0, 1, 2, 3, 4, 5] rfl)
theorem dX12_loudOf_0 : decode cX12_loudOf 0 = .ok (.aload_n 0, 1) := by decide +kernel
theorem dX12_loudOf_1 : decode cX12_loudOf 1 = .ok (.iload_n 1, 1) := by decide +kernel
theorem dX12_loudOf_2 : decode cX12_loudOf 2 = .ok (.invokevirtual 285, 3) := by decide +kernel
theorem dX12_loudOf_5 : decode cX12_loudOf 5 = .ok (.aload_n 0, 1) := by decide +kernel
theorem dX12_loudOf_6 : decode cX12_loudOf 6 = .ok (.getfield 34, 3) := by decide +kernel
theorem dX12_loudOf_9 : decode cX12_loudOf 9 = .ok (.bipush 6, 2) := by decide +kernel
theorem dX12_loudOf_11 : decode cX12_loudOf 11 = .ok (.aload_n 0, 1) := by decide +kernel
theorem dX12_loudOf_12 : decode cX12_loudOf 12 = .ok (.aload_n 0, 1) := by decide +kernel
theorem dX12_loudOf_13 : decode cX12_loudOf 13 = .ok (.iload_n 1, 1) := by decide +kernel
theorem dX12_loudOf_14 : decode cX12_loudOf 14 = .ok (.iconst 0, 1) := by decide +kernel
theorem dX12_loudOf_15 : decode cX12_loudOf 15 = .ok (.invokevirtual 282, 3) := by decide +kernel
theorem dX12_loudOf_18 : decode cX12_loudOf 18 = .ok (.iload_n 2, 1) := by decide +kernel
theorem dX12_loudOf_19 : decode cX12_loudOf 19 = .ok (.invokevirtual 289, 3) := by decide +kernel
theorem dX12_loudOf_22 : decode cX12_loudOf 22 = .ok (.iastore, 1) := by decide +kernel
theorem dX12_loudOf_23 : decode cX12_loudOf 23 = .ok (.aload_n 0, 1) := by decide +kernel
theorem dX12_loudOf_24 : decode cX12_loudOf 24 = .ok (.getfield 34, 3) := by decide +kernel
theorem dX12_loudOf_27 : decode cX12_loudOf 27 = .ok (.bipush 7, 2) := by decide +kernel
theorem dX12_loudOf_29 : decode cX12_loudOf 29 = .ok (.iload_n 3, 1) := by decide +kernel
theorem dX12_loudOf_30 : decode cX12_loudOf 30 = .ok (.iastore, 1) := by decide +kernel
theorem dX12_loudOf_31 : decode cX12_loudOf 31 = .ok (.aload_n 0, 1) := by decide +kernel
theorem dX12_loudOf_32 : decode cX12_loudOf 32 = .ok (.getfield 34, 3) := by decide +kernel
theorem dX12_loudOf_35 : decode cX12_loudOf 35 = .ok (.bipush 8, 2) := by decide +kernel
theorem dX12_loudOf_37 : decode cX12_loudOf 37 = .ok (.aload_n 0, 1) := by decide +kernel
theorem dX12_loudOf_38 : decode cX12_loudOf 38 = .ok (.iload_n 1, 1) := by decide +kernel
theorem dX12_loudOf_39 : decode cX12_loudOf 39 = .ok (.iconst 5, 1) := by decide +kernel
theorem dX12_loudOf_40 : decode cX12_loudOf 40 = .ok (.invokevirtual 282, 3) := by decide +kernel
theorem dX12_loudOf_43 : decode cX12_loudOf 43 = .ok (.iastore, 1) := by decide +kernel
theorem dX12_loudOf_44 : decode cX12_loudOf 44 = .ok (.aload_n 0, 1) := by decide +kernel
theorem dX12_loudOf_45 : decode cX12_loudOf 45 = .ok (.iconst 0, 1) := by decide +kernel
theorem dX12_loudOf_46 : decode cX12_loudOf 46 = .ok (.bipush 20, 2) := by decide +kernel
theorem dX12_loudOf_48 : decode cX12_loudOf 48 = .ok (.aload_n 0, 1) := by decide +kernel
theorem dX12_loudOf_49 : decode cX12_loudOf 49 = .ok (.iload_n 1, 1) := by decide +kernel
theorem dX12_loudOf_50 : decode cX12_loudOf 50 = .ok (.iconst 2, 1) := by decide +kernel
theorem dX12_loudOf_51 : decode cX12_loudOf 51 = .ok (.invokevirtual 282, 3) := by decide +kernel
theorem dX12_loudOf_54 : decode cX12_loudOf 54 = .ok (.aload_n 0, 1) := by decide +kernel
theorem dX12_loudOf_55 : decode cX12_loudOf 55 = .ok (.aload_n 0, 1) := by decide +kernel
theorem dX12_loudOf_56 : decode cX12_loudOf 56 = .ok (.iload_n 1, 1) := by decide +kernel
theorem dX12_loudOf_57 : decode cX12_loudOf 57 = .ok (.iconst 0, 1) := by decide +kernel
theorem dX12_loudOf_58 : decode cX12_loudOf 58 = .ok (.invokevirtual 282, 3) := by decide +kernel
theorem dX12_loudOf_61 : decode cX12_loudOf 61 = .ok (.iload_n 2, 1) := by decide +kernel
theorem dX12_loudOf_62 : decode cX12_loudOf 62 = .ok (.invokevirtual 289, 3) := by decide +kernel
theorem dX12_loudOf_65 : decode cX12_loudOf 65 = .ok (.isub, 1) := by decide +kernel
theorem dX12_loudOf_66 : decode cX12_loudOf 66 = .ok (.sipush 999, 3) := by decide +kernel
theorem dX12_loudOf_69 : decode cX12_loudOf 69 = .ok (.invokevirtual 292, 3) := by decide +kernel
theorem dX12_loudOf_72 : decode cX12_loudOf 72 = .ok (.ireturn, 1) := by decide +kernel
set_option maxHeartbeats 4000000 in
set_option maxRecDepth 100000 in
theorem c_X12_loudOf (l : Launch) (D : va_G) (tys : List (ClassId × FieldType)) (base : Nat) (G : iv_G) (h0 : Nat) (g_h0 : Nat → Int32) (r_h0 : Nat → Nat) (a_h0 : G h0 = some (12, g_h0, r_h0)) (x_0 : Int32) (i_x_0 : iv_R 0 9 x_0) (x_1 : Int32) (i_x_1 : iv_R 0 3 x_1) (x_2 : Int32) (i_x_2 : iv_R 0 23 x_2) : Met l yX12_loudOf (Cond.code yX12_loudOf cX12_loudOf 4 (some .int) :: iv_W0) ({ frames := 4, cells := 0, slots := 0, locals := 96 }) (iv_Pc iv_sh D classes tys base G [.ref h0, .int x_0, .int x_1, .int x_2]) (iv_Qi iv_sh D classes tys base (fun v G' => iv_Md [67, 68] G G' ∧ iv_R (-2147483648) 2147483647 v)) 0 0 (iv_A base) := by
  refine iv_head (by decide) (Nat.le_of_ble_eq_true rfl) ?_
  intro p e s m args below meth c ls X hr hlocks hname hB hl
  have X := X
  have hx := X.1.1
  have hb := X.1.2.1
  have hM : iv_Md [67, 68] G G := iv_Md.rf
  have hl : lv_has ls 4 [(0, .ref h0), (1, .int x_0), (2, .int x_1), (3, .int x_2)] := hl
  refine lv_aload_n hx hb dX12_loudOf_0 rfl (lv_at hl 0 rfl) ?_
  refine lv_iload_n hx hb dX12_loudOf_1 rfl (lv_at hl 1 rfl) ?_
  refine iv_cVv X k_good k_mf_X12_lays k_im_X12_lays k_sel_X12_lays k_ml_X12_285 ft_X12 hB a_h0 sh_12 (As := [.int x_0]) (c_X12_lays l D tys base G h0 g_h0 r_h0 a_h0 x_0 i_x_0) ⟨rfl, rfl⟩ ⟨Nat.le_of_ble_eq_true rfl, Nat.le_of_ble_eq_true rfl⟩ ⟨Nat.le_of_ble_eq_true rfl, Nat.le_of_ble_eq_true rfl⟩ rfl rfl hl.1 (Nat.le_of_ble_eq_true rfl) dX12_loudOf_2 (fun G9 H locs hq hB => ?_)
  have hm := hq
  obtain ⟨G1, hG9⟩ : ∃ g, g = G9 := ⟨_, rfl⟩
  rw [← hG9] at hm hB
  have hM := hM.stp hm (by decide)
  have a_h0 := hm.at a_h0 (by decide)
  refine lv_aload_n hx hb dX12_loudOf_5 rfl (lv_at hl 0 rfl) ?_
  refine iv_getr X ft_X12 hB a_h0 sh_12 10 (by decide) rfl k_fl_X12_34 dX12_loudOf_6 (fun b2 g_b2 r_b2 e_b2 a_b2 => ?_)
  refine lv_bipush (v := 6) hx hb dX12_loudOf_9 (by decide) ?_
  refine lv_aload_n hx hb dX12_loudOf_11 rfl (lv_at hl 0 rfl) ?_
  refine lv_aload_n hx hb dX12_loudOf_12 rfl (lv_at hl 0 rfl) ?_
  refine lv_iload_n hx hb dX12_loudOf_13 rfl (lv_at hl 1 rfl) ?_
  refine lv_iconst (v := 0) hx hb dX12_loudOf_14 (by decide) ?_
  refine iv_cVi X k_good k_mf_X12_ofBell k_im_X12_ofBell k_sel_X12_ofBell k_ml_X12_282 ft_X12 hB a_h0 sh_12 (As := [.int x_0, .int 0]) (c_X12_ofBell l D tys base G1 h0 g_h0 r_h0 a_h0 x_0 i_x_0 0 (q_0.wk (by decide))) ⟨rfl, rfl⟩ ⟨Nat.le_of_ble_eq_true rfl, Nat.le_of_ble_eq_true rfl⟩ ⟨Nat.le_of_ble_eq_true rfl, Nat.le_of_ble_eq_true rfl⟩ rfl rfl hl.1 (Nat.le_of_ble_eq_true rfl) dX12_loudOf_15 (fun x3 G9 H locs hq hB => ?_)
  obtain ⟨rfl, i_x3, cp4, cp5⟩ := hq
  have i5_x3 : iv_R 0 3 x3 := cp4 rfl
  refine lv_iload_n hx hb dX12_loudOf_18 rfl (lv_at hl 2 rfl) ?_
  refine iv_cVi X k_good k_mf_X12_farOf k_im_X12_farOf k_sel_X12_farOf k_ml_X12_289 ft_X12 hB a_h0 sh_12 (As := [.int x3, .int x_1]) (c_X12_farOf l D tys base G1 h0 g_h0 r_h0 a_h0 x3 i5_x3 x_1 i_x_1) ⟨rfl, rfl⟩ ⟨Nat.le_of_ble_eq_true rfl, Nat.le_of_ble_eq_true rfl⟩ ⟨Nat.le_of_ble_eq_true rfl, Nat.le_of_ble_eq_true rfl⟩ rfl rfl hl.1 (Nat.le_of_ble_eq_true rfl) dX12_loudOf_19 (fun x7 G9 H locs hq hB => ?_)
  obtain ⟨rfl, i_x7⟩ := hq
  refine iv_ast X hB a_b2 sh_68 (iv_in q_6 (by decide)) i_x7 dX12_loudOf_22 (fun H locs hB => ?_)
  have hm := iv_Md.ast (j := (6 : Int32).toNatClampNeg) (x := x7) a_b2 rfl (by decide)
  have h9 := iv_up_eq (G := G1) (a := b2) (k := (68, upd g_b2 (6 : Int32).toNatClampNeg x7, r_b2))
  generalize iv_up G1 b2 _ = G8 at hB hm h9
  have hM := hM.stp hm (by decide)
  have a_h0 := hm.at a_h0 (by decide)
  refine lv_aload_n hx hb dX12_loudOf_23 rfl (lv_at hl 0 rfl) ?_
  refine iv_getr X ft_X12 hB a_h0 sh_12 10 (by decide) rfl k_fl_X12_34 dX12_loudOf_24 (fun b10 g_b10 r_b10 e_b10 a_b10 => ?_)
  refine lv_bipush (v := 7) hx hb dX12_loudOf_27 (by decide) ?_
  refine lv_iload_n hx hb dX12_loudOf_29 rfl (lv_at hl 3 rfl) ?_
  refine iv_ast X hB a_b10 sh_68 (iv_in q_7 (by decide)) (i_x_2.wk (by decide)) dX12_loudOf_30 (fun H locs hB => ?_)
  have hm := iv_Md.ast (j := (7 : Int32).toNatClampNeg) (x := x_2) a_b10 rfl (by decide)
  have h9 := iv_up_eq (G := G8) (a := b10) (k := (68, upd g_b10 (7 : Int32).toNatClampNeg x_2, r_b10))
  generalize iv_up G8 b10 _ = G11 at hB hm h9
  have hM := hM.stp hm (by decide)
  have a_h0 := hm.at a_h0 (by decide)
  refine lv_aload_n hx hb dX12_loudOf_31 rfl (lv_at hl 0 rfl) ?_
  refine iv_getr X ft_X12 hB a_h0 sh_12 10 (by decide) rfl k_fl_X12_34 dX12_loudOf_32 (fun b13 g_b13 r_b13 e_b13 a_b13 => ?_)
  refine lv_bipush (v := 8) hx hb dX12_loudOf_35 (by decide) ?_
  refine lv_aload_n hx hb dX12_loudOf_37 rfl (lv_at hl 0 rfl) ?_
  refine lv_iload_n hx hb dX12_loudOf_38 rfl (lv_at hl 1 rfl) ?_
  refine lv_iconst (v := 5) hx hb dX12_loudOf_39 (by decide) ?_
  refine iv_cVi X k_good k_mf_X12_ofBell k_im_X12_ofBell k_sel_X12_ofBell k_ml_X12_282 ft_X12 hB a_h0 sh_12 (As := [.int x_0, .int 5]) (c_X12_ofBell l D tys base G11 h0 g_h0 r_h0 a_h0 x_0 i_x_0 5 (q_5.wk (by decide))) ⟨rfl, rfl⟩ ⟨Nat.le_of_ble_eq_true rfl, Nat.le_of_ble_eq_true rfl⟩ ⟨Nat.le_of_ble_eq_true rfl, Nat.le_of_ble_eq_true rfl⟩ rfl rfl hl.1 (Nat.le_of_ble_eq_true rfl) dX12_loudOf_40 (fun x14 G9 H locs hq hB => ?_)
  obtain ⟨rfl, i_x14, cp15, cp16⟩ := hq
  refine iv_ast X hB a_b13 sh_68 (iv_in q_8 (by decide)) i_x14 dX12_loudOf_43 (fun H locs hB => ?_)
  have hm := iv_Md.ast (j := (8 : Int32).toNatClampNeg) (x := x14) a_b13 rfl (by decide)
  have h9 := iv_up_eq (G := G11) (a := b13) (k := (68, upd g_b13 (8 : Int32).toNatClampNeg x14, r_b13))
  generalize iv_up G11 b13 _ = G17 at hB hm h9
  have hM := hM.stp hm (by decide)
  have a_h0 := hm.at a_h0 (by decide)
  refine lv_aload_n hx hb dX12_loudOf_44 rfl (lv_at hl 0 rfl) ?_
  refine lv_iconst (v := 0) hx hb dX12_loudOf_45 (by decide) ?_
  refine lv_bipush (v := 20) hx hb dX12_loudOf_46 (by decide) ?_
  refine lv_aload_n hx hb dX12_loudOf_48 rfl (lv_at hl 0 rfl) ?_
  refine lv_iload_n hx hb dX12_loudOf_49 rfl (lv_at hl 1 rfl) ?_
  refine lv_iconst (v := 2) hx hb dX12_loudOf_50 (by decide) ?_
  refine iv_cVi X k_good k_mf_X12_ofBell k_im_X12_ofBell k_sel_X12_ofBell k_ml_X12_282 ft_X12 hB a_h0 sh_12 (As := [.int x_0, .int 2]) (c_X12_ofBell l D tys base G17 h0 g_h0 r_h0 a_h0 x_0 i_x_0 2 (q_2.wk (by decide))) ⟨rfl, rfl⟩ ⟨Nat.le_of_ble_eq_true rfl, Nat.le_of_ble_eq_true rfl⟩ ⟨Nat.le_of_ble_eq_true rfl, Nat.le_of_ble_eq_true rfl⟩ rfl rfl hl.1 (Nat.le_of_ble_eq_true rfl) dX12_loudOf_51 (fun x19 G9 H locs hq hB => ?_)
  obtain ⟨rfl, i_x19, cp20, cp21⟩ := hq
  refine lv_aload_n hx hb dX12_loudOf_54 rfl (lv_at hl 0 rfl) ?_
  refine lv_aload_n hx hb dX12_loudOf_55 rfl (lv_at hl 0 rfl) ?_
  refine lv_iload_n hx hb dX12_loudOf_56 rfl (lv_at hl 1 rfl) ?_
  refine lv_iconst (v := 0) hx hb dX12_loudOf_57 (by decide) ?_
  refine iv_cVi X k_good k_mf_X12_ofBell k_im_X12_ofBell k_sel_X12_ofBell k_ml_X12_282 ft_X12 hB a_h0 sh_12 (As := [.int x_0, .int 0]) (c_X12_ofBell l D tys base G17 h0 g_h0 r_h0 a_h0 x_0 i_x_0 0 (q_0.wk (by decide))) ⟨rfl, rfl⟩ ⟨Nat.le_of_ble_eq_true rfl, Nat.le_of_ble_eq_true rfl⟩ ⟨Nat.le_of_ble_eq_true rfl, Nat.le_of_ble_eq_true rfl⟩ rfl rfl hl.1 (Nat.le_of_ble_eq_true rfl) dX12_loudOf_58 (fun x22 G9 H locs hq hB => ?_)
  obtain ⟨rfl, i_x22, cp23, cp24⟩ := hq
  have i24_x22 : iv_R 0 3 x22 := cp23 rfl
  refine lv_iload_n hx hb dX12_loudOf_61 rfl (lv_at hl 2 rfl) ?_
  refine iv_cVi X k_good k_mf_X12_farOf k_im_X12_farOf k_sel_X12_farOf k_ml_X12_289 ft_X12 hB a_h0 sh_12 (As := [.int x22, .int x_1]) (c_X12_farOf l D tys base G17 h0 g_h0 r_h0 a_h0 x22 i24_x22 x_1 i_x_1) ⟨rfl, rfl⟩ ⟨Nat.le_of_ble_eq_true rfl, Nat.le_of_ble_eq_true rfl⟩ ⟨Nat.le_of_ble_eq_true rfl, Nat.le_of_ble_eq_true rfl⟩ rfl rfl hl.1 (Nat.le_of_ble_eq_true rfl) dX12_loudOf_62 (fun x26 G9 H locs hq hB => ?_)
  obtain ⟨rfl, i_x26⟩ := hq
  refine lv_isub hx hb dX12_loudOf_65 ?_
  refine lv_topi (fun x27 e_x27 => ?_)
  have i_x27 := iv_R.all x27
  refine lv_sipush (v := 999) hx hb dX12_loudOf_66 (by decide) ?_
  obtain ⟨gv1, rv1, hv1⟩ := iv_getw hB a_h0
  refine iv_cVi X k_good k_mf_X12_says k_im_X12_says k_sel_X12_says k_ml_X12_292 ft_X12 hB a_h0 sh_12 (As := [.int 0, .int 20, .int x27, .int 999]) (c_X12_says l D tys base G17 h0 g_h0 r_h0 a_h0 0 (q_0.wk (by decide)) 20 (q_20.wk (by decide)) x27 i_x27 999 (q_999.wk (by decide)) gv1 rv1 hv1) ⟨rfl, rfl⟩ ⟨Nat.le_of_ble_eq_true rfl, Nat.le_of_ble_eq_true rfl⟩ ⟨Nat.le_of_ble_eq_true rfl, Nat.le_of_ble_eq_true rfl⟩ rfl rfl hl.1 (Nat.le_of_ble_eq_true rfl) dX12_loudOf_69 (fun x28 G9 H locs hq hB => ?_)
  obtain ⟨hm, i_x28⟩ := hq
  obtain ⟨G29, hG9⟩ : ∃ g, g = G9 := ⟨_, rfl⟩
  rw [← hG9] at hm hB
  have hM := hM.stp hm (by decide)
  have a_h0 := hm.at a_h0 (by decide)
  exact iv_iret X hr hlocks hB ⟨hM, i_x28⟩ dX12_loudOf_72
