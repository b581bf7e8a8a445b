theorem dX12_apart_0 : decode cX12_apart 0 = .ok (.iload_n 0, 1) := by decide +kernel
theorem dX12_apart_1 : decode cX12_apart 1 = .ok (.iload_n 1, 1) := by decide +kernel
theorem dX12_apart_2 : decode cX12_apart 2 = .ok (.if_icmp .ge 9, 3) := by decide +kernel
theorem dX12_apart_5 : decode cX12_apart 5 = .ok (.iload_n 1, 1) := by decide +kernel
theorem dX12_apart_6 : decode cX12_apart 6 = .ok (.iload_n 0, 1) := by decide +kernel
theorem dX12_apart_7 : decode cX12_apart 7 = .ok (.isub, 1) := by decide +kernel
theorem dX12_apart_8 : decode cX12_apart 8 = .ok (.goto 6, 3) := by decide +kernel
theorem dX12_apart_11 : decode cX12_apart 11 = .ok (.iload_n 0, 1) := by decide +kernel
theorem dX12_apart_12 : decode cX12_apart 12 = .ok (.iload_n 1, 1) := by decide +kernel
theorem dX12_apart_13 : decode cX12_apart 13 = .ok (.isub, 1) := by decide +kernel
theorem dX12_apart_14 : decode cX12_apart 14 = .ok (.ireturn, 1) := by decide +kernel
set_option maxHeartbeats 4000000 in
set_option maxRecDepth 100000 in
theorem c_X12_apart (l : Launch) (D : va_G) (tys : List (ClassId × FieldType)) (base : Nat) (G : iv_G) (x_0 : Int32) (i_x_0 : iv_R 0 47 x_0) (x_1 : Int32) (i_x_1 : iv_R 0 47 x_1) : Met l yX12_apart (Cond.code yX12_apart cX12_apart 2 (some .int) :: iv_W0) ({ frames := 0, cells := 0, slots := 0, locals := 0 }) (iv_Pc iv_sh D classes tys base G [.int x_0, .int x_1]) (iv_Qi iv_sh D classes tys base (fun v G' => G = G' ∧ iv_R (-47) 47 v)) 0 0 (iv_A base) := by
  refine iv_head (by decide) (Nat.le_of_ble_eq_true rfl) ?_
  intro p e s m args below meth c ls X hr hlocks hname hB hl
  have X := X
  have hx := X.1.1
  have hb := X.1.2.1
  have hl : lv_has ls 2 [(0, .int x_0), (1, .int x_1)] := hl
  refine lv_iload_n hx hb dX12_apart_0 rfl (lv_at hl 0 rfl) ?_
  refine lv_iload_n hx hb dX12_apart_1 rfl (lv_at hl 1 rfl) ?_
  refine lv_icmp_ge (tgt := 11) hx hb dX12_apart_2 (by decide) (fun c1 => ?_) (fun c1 => ?_)
  · skip
    refine lv_iload_n hx hb dX12_apart_11 rfl (lv_at hl 0 rfl) ?_
    refine lv_iload_n hx hb dX12_apart_12 rfl (lv_at hl 1 rfl) ?_
    refine iv_isub hx hb i_x_0 i_x_1 (lo := (-47)) (hi := 47) (by decide) dX12_apart_13 (fun x2 e_x2 i_x2 => ?_)
    exact iv_iret X hr hlocks hB ⟨rfl, i_x2⟩ dX12_apart_14
  · skip
    have i2_x_0 : iv_R 0 46 x_0 := (i_x_0.cutHi (n := 46) (iv_lt_r (iv_nle c1) i_x_1 (by decide)))
    have i3_x_1 : iv_R 1 47 x_1 := (i_x_1.cutLo (n := 1) (iv_lt_l (iv_nle c1) i_x_0 (by decide)))
    refine lv_iload_n hx hb dX12_apart_5 rfl (lv_at hl 1 rfl) ?_
    refine lv_iload_n hx hb dX12_apart_6 rfl (lv_at hl 0 rfl) ?_
    refine iv_isub hx hb i3_x_1 i2_x_0 (lo := (-45)) (hi := 47) (by decide) dX12_apart_7 (fun x5 e_x5 i_x5 => ?_)
    refine lv_goto (tgt := 14) hx hb dX12_apart_8 (by decide) ?_
    exact iv_iret X hr hlocks hB ⟨rfl, (i_x5.wk (by decide))⟩ dX12_apart_14
theorem dX12_count_0 : decode cX12_count 0 = .ok (.iconst 0, 1) := by decide +kernel
theorem dX12_count_1 : decode cX12_count 1 = .ok (.istore_n 1, 1) := by decide +kernel
theorem dX12_count_2 : decode cX12_count 2 = .ok (.iconst 0, 1) := by decide +kernel
theorem dX12_count_3 : decode cX12_count 3 = .ok (.istore_n 2, 1) := by decide +kernel
theorem dX12_count_4 : decode cX12_count 4 = .ok (.iload_n 2, 1) := by decide +kernel
theorem dX12_count_5 : decode cX12_count 5 = .ok (.bipush 24, 2) := by decide +kernel
theorem dX12_count_7 : decode cX12_count 7 = .ok (.if_icmp .ge 17, 3) := by decide +kernel
theorem dX12_count_10 : decode cX12_count 10 = .ok (.iload_n 1, 1) := by decide +kernel
theorem dX12_count_11 : decode cX12_count 11 = .ok (.iload_n 0, 1) := by decide +kernel
theorem dX12_count_12 : decode cX12_count 12 = .ok (.iload_n 2, 1) := by decide +kernel
theorem dX12_count_13 : decode cX12_count 13 = .ok (.ishr, 1) := by decide +kernel
theorem dX12_count_14 : decode cX12_count 14 = .ok (.iconst 1, 1) := by decide +kernel
theorem dX12_count_15 : decode cX12_count 15 = .ok (.iand, 1) := by decide +kernel
theorem dX12_count_16 : decode cX12_count 16 = .ok (.iadd, 1) := by decide +kernel
theorem dX12_count_17 : decode cX12_count 17 = .ok (.istore_n 1, 1) := by decide +kernel
theorem dX12_count_18 : decode cX12_count 18 = .ok (.iinc 2 1, 3) := by decide +kernel
theorem dX12_count_21 : decode cX12_count 21 = .ok (.goto (-17), 3) := by decide +kernel
theorem dX12_count_24 : decode cX12_count 24 = .ok (.iload_n 1, 1) := by decide +kernel
theorem dX12_count_25 : decode cX12_count 25 = .ok (.ireturn, 1) := by decide +kernel
set_option maxHeartbeats 4000000 in
set_option maxRecDepth 100000 in
theorem c_X12_count (l : Launch) (D : va_G) (tys : List (ClassId × FieldType)) (base : Nat) (G : iv_G) (x_0 : Int32) (i_x_0 : iv_R 0 2147483647 x_0) : Met l yX12_count (Cond.code yX12_count cX12_count 3 (some .int) :: iv_W0) ({ frames := 0, cells := 0, slots := 0, locals := 0 }) (iv_Pc iv_sh D classes tys base G [.int x_0]) (iv_Qi iv_sh D classes tys base (fun v G' => G = G' ∧ iv_R (-2147483648) 2147483647 v)) 0 0 (iv_A base) := by
  refine iv_head (by decide) (Nat.le_of_ble_eq_true rfl) ?_
  intro p e s m args below meth c ls X hr hlocks hname hB hl
  have X := X
  have hx := X.1.1
  have hb := X.1.2.1
  have hl : lv_has ls 3 [(0, .int x_0)] := hl
  refine lv_iconst (v := 0) hx hb dX12_count_0 (by decide) ?_
  refine lv_istore_n (lv' := [(1, .int 0), (0, .int x_0)]) hx hb dX12_count_1 rfl hl (by decide) rfl (fun ls hl => ?_)
  refine lv_iconst (v := 0) hx hb dX12_count_2 (by decide) ?_
  refine lv_istore_n (lv' := [(2, .int 0), (1, .int 0), (0, .int x_0)]) hx hb dX12_count_3 rfl hl (by decide) rfl (fun ls hl => ?_)
  have L_4 : ∀ (n_4 : Nat) (H : Heap) (locs : List Loc) (hB : iv_B iv_sh D classes tys base G s.heap H locs) (x1 : Int32) (i_x1 : iv_R (-2147483648) 2147483647 x1) (x2 : Int32) (i_x2 : iv_R 0 24 x2) (hn_4 : (25 - x2.toInt).toNat < n_4) (ls : Array Slot) (hl : lv_has ls 3 [(2, .int x2), (1, .int x1), (0, .int x_0)]), W p l e ({ frames := 0, cells := 0, slots := 0, locals := 0 } : Room) s m args below meth c H locs 0 0 (MQ below (iv_Qi iv_sh D classes tys base (fun v G' => G = G' ∧ iv_R (-2147483648) 2147483647 v)) args s 0 0 (iv_A base)) (F0 m 4 ls []) := by
    intro n_4
    induction n_4 with
    | zero => intro H locs hB x1 i_x1 x2 i_x2 hn_4 ls hl; exact absurd hn_4 (Nat.not_lt_zero _)
    | succ n_4 ih_4 =>
      intro H locs hB x1 i_x1 x2 i_x2 hn_4 ls hl
      refine lv_iload_n hx hb dX12_count_4 rfl (lv_at hl 0 rfl) ?_
      refine lv_bipush (v := 24) hx hb dX12_count_5 (by decide) ?_
      refine lv_icmp_ge (tgt := 24) hx hb dX12_count_7 (by decide) (fun c3 => ?_) (fun c3 => ?_)
      · skip
        have i3_x2 : iv_R 24 24 x2 := (i_x2.cutLo (n := 24) (iv_le_l c3 q_24))
        refine lv_iload_n hx hb dX12_count_24 rfl (lv_at hl 1 rfl) ?_
        exact iv_iret X hr hlocks hB ⟨rfl, i_x1⟩ dX12_count_25
      · skip
        have i4_x2 : iv_R 0 23 x2 := (i_x2.cutHi (n := 23) (iv_lt_r (iv_nle c3) q_24 (by decide)))
        refine lv_iload_n hx hb dX12_count_10 rfl (lv_at hl 1 rfl) ?_
        refine lv_iload_n hx hb dX12_count_11 rfl (lv_at hl 2 rfl) ?_
        refine lv_iload_n hx hb dX12_count_12 rfl (lv_at hl 0 rfl) ?_
        refine lv_ishr hx hb dX12_count_13 ?_
        refine lv_topi (fun x6 e_x6 => ?_)
        have i_x6 := iv_R.all x6
        refine lv_iconst (v := 1) hx hb dX12_count_14 (by decide) ?_
        refine iv_iand_r hx hb q_1 (by decide) dX12_count_15 (fun x7 e_x7 i_x7 => ?_)
        refine lv_iadd hx hb dX12_count_16 ?_
        refine lv_topi (fun x8 e_x8 => ?_)
        have i_x8 := iv_R.all x8
        refine lv_istore_n (lv' := [(1, .int x8), (2, .int x2), (0, .int x_0)]) hx hb dX12_count_17 rfl hl (by decide) rfl (fun ls hl => ?_)
        refine iv_iinc hx hb i4_x2 (lo := 1) (hi := 24) (by decide) dX12_count_18 hl (k := 1) rfl (by decide) (fun x9 ls e_x9 i_x9 hl => ?_)
        have hl : lv_has ls 3 [(2, .int x9), (1, .int x8), (0, .int x_0)] := hl
        refine lv_goto (tgt := 4) hx hb dX12_count_21 (by decide) ?_
        exact ih_4 _ _ hB x8 i_x8 x9 (i_x9.wk (by decide)) (iv_mup (c := 1) i_x2 (by decide) (by decide) (by omega) hn_4) _ (lv_sub hl [0, 1, 2] rfl)
  exact L_4 _ _ _ hB 0 (q_0.wk (by decide)) 0 (q_0.wk (by decide)) (Nat.lt_succ_self _) _ (lv_sub hl [0, 1, 2] rfl)
theorem dX12_isLineAt_0 : decode cX12_isLineAt 0 = .ok (.iload_n 2, 1) := by decide +kernel
theorem dX12_isLineAt_1 : decode cX12_isLineAt 1 = .ok (.bipush 24, 2) := by decide +kernel
theorem dX12_isLineAt_3 : decode cX12_isLineAt 3 = .ok (.iadd, 1) := by decide +kernel
theorem dX12_isLineAt_4 : decode cX12_isLineAt 4 = .ok (.aload_n 0, 1) := by decide +kernel
theorem dX12_isLineAt_5 : decode cX12_isLineAt 5 = .ok (.getfield 7, 3) := by decide +kernel
theorem dX12_isLineAt_8 : decode cX12_isLineAt 8 = .ok (.sipush 206, 3) := by decide +kernel
theorem dX12_isLineAt_11 : decode cX12_isLineAt 11 = .ok (.iconst 3, 1) := by decide +kernel
theorem dX12_isLineAt_12 : decode cX12_isLineAt 12 = .ok (.iload_n 1, 1) := by decide +kernel
theorem dX12_isLineAt_13 : decode cX12_isLineAt 13 = .ok (.imul, 1) := by decide +kernel
theorem dX12_isLineAt_14 : decode cX12_isLineAt 14 = .ok (.iadd, 1) := by decide +kernel
theorem dX12_isLineAt_15 : decode cX12_isLineAt 15 = .ok (.iconst 1, 1) := by decide +kernel
theorem dX12_isLineAt_16 : decode cX12_isLineAt 16 = .ok (.iadd, 1) := by decide +kernel
theorem dX12_isLineAt_17 : decode cX12_isLineAt 17 = .ok (.iaload, 1) := by decide +kernel
theorem dX12_isLineAt_18 : decode cX12_isLineAt 18 = .ok (.isub, 1) := by decide +kernel
theorem dX12_isLineAt_19 : decode cX12_isLineAt 19 = .ok (.bipush 24, 2) := by decide +kernel
theorem dX12_isLineAt_21 : decode cX12_isLineAt 21 = .ok (.irem, 1) := by decide +kernel
theorem dX12_isLineAt_22 : decode cX12_isLineAt 22 = .ok (.aload_n 0, 1) := by decide +kernel
theorem dX12_isLineAt_23 : decode cX12_isLineAt 23 = .ok (.getfield 7, 3) := by decide +kernel
theorem dX12_isLineAt_26 : decode cX12_isLineAt 26 = .ok (.sipush 206, 3) := by decide +kernel
theorem dX12_isLineAt_29 : decode cX12_isLineAt 29 = .ok (.iconst 3, 1) := by decide +kernel
theorem dX12_isLineAt_30 : decode cX12_isLineAt 30 = .ok (.iload_n 1, 1) := by decide +kernel
theorem dX12_isLineAt_31 : decode cX12_isLineAt 31 = .ok (.imul, 1) := by decide +kernel
theorem dX12_isLineAt_32 : decode cX12_isLineAt 32 = .ok (.iadd, 1) := by decide +kernel
theorem dX12_isLineAt_33 : decode cX12_isLineAt 33 = .ok (.iconst 2, 1) := by decide +kernel
theorem dX12_isLineAt_34 : decode cX12_isLineAt 34 = .ok (.iadd, 1) := by decide +kernel
theorem dX12_isLineAt_35 : decode cX12_isLineAt 35 = .ok (.iaload, 1) := by decide +kernel
theorem dX12_isLineAt_36 : decode cX12_isLineAt 36 = .ok (.if_icmp .ge 7, 3) := by decide +kernel
theorem dX12_isLineAt_39 : decode cX12_isLineAt 39 = .ok (.iconst 1, 1) := by decide +kernel
theorem dX12_isLineAt_40 : decode cX12_isLineAt 40 = .ok (.goto 4, 3) := by decide +kernel
theorem dX12_isLineAt_43 : decode cX12_isLineAt 43 = .ok (.iconst 0, 1) := by decide +kernel
theorem dX12_isLineAt_44 : decode cX12_isLineAt 44 = .ok (.ireturn, 1) := by decide +kernel
set_option maxHeartbeats 4000000 in
set_option maxRecDepth 100000 in
theorem c_X12_isLineAt (l : Launch) (D : va_G) (tys : List (ClassId × FieldType)) (base : Nat) (G : iv_G) (h0 : Nat) (g_h0 : Nat → Int32) (r_h0 : Nat → Nat) (a_h0 : G h0 = some (12, g_h0, r_h0)) (x_0 : Int32) (i_x_0 : iv_R 0 19 x_0) (x_1 : Int32) (i_x_1 : iv_R (-2147483648) 2147483647 x_1) : Met l yX12_isLineAt (Cond.code yX12_isLineAt cX12_isLineAt 3 (some .boolean) :: iv_W0) ({ frames := 0, cells := 0, slots := 0, locals := 0 }) (iv_Pc iv_sh D classes tys base G [.ref h0, .int x_0, .int x_1]) (iv_Qi iv_sh D classes tys base (fun v G' => G = G' ∧ iv_R 0 1 v)) 0 0 (iv_A base) := by
  refine iv_head (by decide) (Nat.le_of_ble_eq_true rfl) ?_
  intro p e s m args below meth c ls X hr hlocks hname hB hl
  have X := X
  have hx := X.1.1
  have hb := X.1.2.1
  have hl : lv_has ls 3 [(0, .ref h0), (1, .int x_0), (2, .int x_1)] := hl
  refine lv_iload_n hx hb dX12_isLineAt_0 rfl (lv_at hl 2 rfl) ?_
  refine lv_bipush (v := 24) hx hb dX12_isLineAt_1 (by decide) ?_
  refine lv_iadd hx hb dX12_isLineAt_3 ?_
  refine lv_topi (fun x1 e_x1 => ?_)
  have i_x1 := iv_R.all x1
  refine lv_aload_n hx hb dX12_isLineAt_4 rfl (lv_at hl 0 rfl) ?_
  refine iv_getr X ft_X12 hB a_h0 sh_12 0 (by decide) rfl k_fl_X12_7 dX12_isLineAt_5 (fun b2 g_b2 r_b2 e_b2 a_b2 => ?_)
  refine lv_sipush (v := 206) hx hb dX12_isLineAt_8 (by decide) ?_
  refine lv_iconst (v := 3) hx hb dX12_isLineAt_11 (by decide) ?_
  refine lv_iload_n hx hb dX12_isLineAt_12 rfl (lv_at hl 1 rfl) ?_
  refine iv_imul hx hb q_3 i_x_0 (lo := 0) (hi := 57) (by decide) dX12_isLineAt_13 (fun x3 e_x3 i_x3 => ?_)
  refine iv_iadd hx hb q_206 i_x3 (lo := 206) (hi := 263) (by decide) dX12_isLineAt_14 (fun x4 e_x4 i_x4 => ?_)
  refine lv_iconst (v := 1) hx hb dX12_isLineAt_15 (by decide) ?_
  refine iv_iadd hx hb i_x4 q_1 (lo := 207) (hi := 264) (by decide) dX12_isLineAt_16 (fun x5 e_x5 i_x5 => ?_)
  refine iv_wald_f X hB a_b2 i_x5 (by decide) dX12_isLineAt_17 (fun x6 e_x6 i_x6 => ?_)
  refine lv_isub hx hb dX12_isLineAt_18 ?_
  refine lv_topi (fun x7 e_x7 => ?_)
  have i_x7 := iv_R.all x7
  refine lv_bipush (v := 24) hx hb dX12_isLineAt_19 (by decide) ?_
  refine iv_irem hx hb i_x7 q_24 (lo := (-23)) (hi := 23) (by decide) dX12_isLineAt_21 (fun x8 e_x8 i_x8 => ?_)
  refine lv_aload_n hx hb dX12_isLineAt_22 rfl (lv_at hl 0 rfl) ?_
  refine iv_getr0 X ft_X12 hB a_h0 sh_12 0 (by decide) rfl k_fl_X12_7 dX12_isLineAt_23 e_b2 ?_
  refine lv_sipush (v := 206) hx hb dX12_isLineAt_26 (by decide) ?_
  refine lv_iconst (v := 3) hx hb dX12_isLineAt_29 (by decide) ?_
  refine lv_iload_n hx hb dX12_isLineAt_30 rfl (lv_at hl 1 rfl) ?_
  refine iv_imul hx hb q_3 i_x_0 (lo := 0) (hi := 57) (by decide) dX12_isLineAt_31 (fun x9 e_x9 i_x9 => ?_)
  refine iv_iadd hx hb q_206 i_x9 (lo := 206) (hi := 263) (by decide) dX12_isLineAt_32 (fun x10 e_x10 i_x10 => ?_)
  refine lv_iconst (v := 2) hx hb dX12_isLineAt_33 (by decide) ?_
  refine iv_iadd hx hb i_x10 q_2 (lo := 208) (hi := 265) (by decide) dX12_isLineAt_34 (fun x11 e_x11 i_x11 => ?_)
  refine iv_wald_f X hB a_b2 i_x11 (by decide) dX12_isLineAt_35 (fun x12 e_x12 i_x12 => ?_)
  refine lv_icmp_ge (tgt := 43) hx hb dX12_isLineAt_36 (by decide) (fun c13 => ?_) (fun c13 => ?_)
  · skip
    have i13_x12 : iv_R (-2147483648) 23 x12 := (i_x12.cutHi (n := 23) (iv_le_r c13 i_x8))
    refine lv_iconst (v := 0) hx hb dX12_isLineAt_43 (by decide) ?_
    exact iv_zret X hr hlocks hB (q_0.wk (by decide)) ⟨rfl, (q_0.wk (by decide))⟩ dX12_isLineAt_44
  · skip
    have i14_x12 : iv_R (-22) 2147483647 x12 := (i_x12.cutLo (n := (-22)) (iv_lt_l (iv_nle c13) i_x8 (by decide)))
    refine lv_iconst (v := 1) hx hb dX12_isLineAt_39 (by decide) ?_
    refine lv_goto (tgt := 44) hx hb dX12_isLineAt_40 (by decide) ?_
    exact iv_zret X hr hlocks hB (q_1.wk (by decide)) ⟨rfl, (q_1.wk (by decide))⟩ dX12_isLineAt_44
theorem dX12_hasLine_0 : decode cX12_hasLine 0 = .ok (.iconst 0, 1) := by decide +kernel
theorem dX12_hasLine_1 : decode cX12_hasLine 1 = .ok (.istore_n 3, 1) := by decide +kernel
theorem dX12_hasLine_2 : decode cX12_hasLine 2 = .ok (.iload_n 3, 1) := by decide +kernel
theorem dX12_hasLine_3 : decode cX12_hasLine 3 = .ok (.aload_n 0, 1) := by decide +kernel
theorem dX12_hasLine_4 : decode cX12_hasLine 4 = .ok (.getfield 7, 3) := by decide +kernel
theorem dX12_hasLine_7 : decode cX12_hasLine 7 = .ok (.sipush 149, 3) := by decide +kernel
theorem dX12_hasLine_10 : decode cX12_hasLine 10 = .ok (.iaload, 1) := by decide +kernel
theorem dX12_hasLine_11 : decode cX12_hasLine 11 = .ok (.if_icmp .ge 36, 3) := by decide +kernel
theorem dX12_hasLine_14 : decode cX12_hasLine 14 = .ok (.aload_n 0, 1) := by decide +kernel
theorem dX12_hasLine_15 : decode cX12_hasLine 15 = .ok (.getfield 7, 3) := by decide +kernel
theorem dX12_hasLine_18 : decode cX12_hasLine 18 = .ok (.sipush 206, 3) := by decide +kernel
theorem dX12_hasLine_21 : decode cX12_hasLine 21 = .ok (.iconst 3, 1) := by decide +kernel
theorem dX12_hasLine_22 : decode cX12_hasLine 22 = .ok (.iload_n 3, 1) := by decide +kernel
theorem dX12_hasLine_23 : decode cX12_hasLine 23 = .ok (.imul, 1) := by decide +kernel
theorem dX12_hasLine_24 : decode cX12_hasLine 24 = .ok (.iadd, 1) := by decide +kernel
theorem dX12_hasLine_25 : decode cX12_hasLine 25 = .ok (.iaload, 1) := by decide +kernel
theorem dX12_hasLine_26 : decode cX12_hasLine 26 = .ok (.iload_n 1, 1) := by decide +kernel
theorem dX12_hasLine_27 : decode cX12_hasLine 27 = .ok (.if_icmp .ne 14, 3) := by decide +kernel
theorem dX12_hasLine_30 : decode cX12_hasLine 30 = .ok (.aload_n 0, 1) := by decide +kernel
theorem dX12_hasLine_31 : decode cX12_hasLine 31 = .ok (.iload_n 3, 1) := by decide +kernel
theorem dX12_hasLine_32 : decode cX12_hasLine 32 = .ok (.iload_n 2, 1) := by decide +kernel
theorem dX12_hasLine_33 : decode cX12_hasLine 33 = .ok (.invokevirtual 296, 3) := by decide +kernel
theorem dX12_hasLine_36 : decode cX12_hasLine 36 = .ok (.ifCond .eq 5, 3) := by decide +kernel
theorem dX12_hasLine_39 : decode cX12_hasLine 39 = .ok (.iconst 1, 1) := by decide +kernel
theorem dX12_hasLine_40 : decode cX12_hasLine 40 = .ok (.ireturn, 1) := by decide +kernel
theorem dX12_hasLine_41 : decode cX12_hasLine 41 = .ok (.iinc 3 1, 3) := by decide +kernel
theorem dX12_hasLine_44 : decode cX12_hasLine 44 = .ok (.goto (-42), 3) := by decide +kernel
theorem dX12_hasLine_47 : decode cX12_hasLine 47 = .ok (.iconst 0, 1) := by decide +kernel
theorem dX12_hasLine_48 : decode cX12_hasLine 48 = .ok (.ireturn, 1) := by decide +kernel
set_option maxHeartbeats 4000000 in
set_option maxRecDepth 100000 in
theorem c_X12_hasLine (l : Launch) (D : va_G) (tys : List (ClassId × FieldType)) (base : Nat) (G : iv_G) (h0 : Nat) (g_h0 : Nat → Int32) (r_h0 : Nat → Nat) (a_h0 : G h0 = some (12, g_h0, r_h0)) (x_0 : Int32) (i_x_0 : iv_R 0 9 x_0) (x_1 : Int32) (i_x_1 : iv_R (-2147483648) 2147483647 x_1) : Met l yX12_hasLine (Cond.code yX12_hasLine cX12_hasLine 4 (some .boolean) :: iv_W0) ({ frames := 1, cells := 0, slots := 0, locals := 22 }) (iv_Pc iv_sh D classes tys base G [.ref h0, .int x_0, .int x_1]) (iv_Qi iv_sh D classes tys base (fun v G' => G = G' ∧ iv_R 0 1 v)) 0 0 (iv_A base) := by
  refine iv_head (by decide) (Nat.le_of_ble_eq_true rfl) ?_
  intro p e s m args below meth c ls X hr hlocks hname hB hl
  have X := X
  have hx := X.1.1
  have hb := X.1.2.1
  have hl : lv_has ls 4 [(0, .ref h0), (1, .int x_0), (2, .int x_1)] := hl
  refine lv_iconst (v := 0) hx hb dX12_hasLine_0 (by decide) ?_
  refine lv_istore_n (lv' := [(3, .int 0), (0, .ref h0), (1, .int x_0), (2, .int x_1)]) hx hb dX12_hasLine_1 rfl hl (by decide) rfl (fun ls hl => ?_)
  have L_2 : ∀ (n_2 : Nat) (H : Heap) (locs : List Loc) (hB : iv_B iv_sh D classes tys base G s.heap H locs) (x1 : Int32) (i_x1 : iv_R 0 20 x1) (hn_2 : (21 - x1.toInt).toNat < n_2) (ls : Array Slot) (hl : lv_has ls 4 [(3, .int x1), (0, .ref h0), (1, .int x_0), (2, .int x_1)]), W p l e ({ frames := 1, cells := 0, slots := 0, locals := 22 } : Room) s m args below meth c H locs 0 0 (MQ below (iv_Qi iv_sh D classes tys base (fun v G' => G = G' ∧ iv_R 0 1 v)) args s 0 0 (iv_A base)) (F0 m 2 ls []) := by
    intro n_2
    induction n_2 with
    | zero => intro H locs hB x1 i_x1 hn_2 ls hl; exact absurd hn_2 (Nat.not_lt_zero _)
    | succ n_2 ih_2 =>
      intro H locs hB x1 i_x1 hn_2 ls hl
      refine lv_iload_n hx hb dX12_hasLine_2 rfl (lv_at hl 0 rfl) ?_
      refine lv_aload_n hx hb dX12_hasLine_3 rfl (lv_at hl 1 rfl) ?_
      refine iv_getr X ft_X12 hB a_h0 sh_12 0 (by decide) rfl k_fl_X12_7 dX12_hasLine_4 (fun b2 g_b2 r_b2 e_b2 a_b2 => ?_)
      refine lv_sipush (v := 149) hx hb dX12_hasLine_7 (by decide) ?_
      refine iv_wald_c X hB a_b2 q_149 (by decide) (lo := 0) (hi' := 20) (by decide) dX12_hasLine_10 (fun x3 e_x3 i_x3 => ?_)
      refine lv_icmp_ge (tgt := 47) hx hb dX12_hasLine_11 (by decide) (fun c4 => ?_) (fun c4 => ?_)
      · skip
        refine lv_iconst (v := 0) hx hb dX12_hasLine_47 (by decide) ?_
        exact iv_zret X hr hlocks hB (q_0.wk (by decide)) ⟨rfl, (q_0.wk (by decide))⟩ dX12_hasLine_48
      · skip
        have i4_x1 : iv_R 0 19 x1 := (i_x1.cutHi (n := 19) (iv_lt_r (iv_nle c4) i_x3 (by decide)))
        have i5_x3 : iv_R 1 20 x3 := (i_x3.cutLo (n := 1) (iv_lt_l (iv_nle c4) i_x1 (by decide)))
        refine lv_aload_n hx hb dX12_hasLine_14 rfl (lv_at hl 1 rfl) ?_
        refine iv_getr0 X ft_X12 hB a_h0 sh_12 0 (by decide) rfl k_fl_X12_7 dX12_hasLine_15 e_b2 ?_
        refine lv_sipush (v := 206) hx hb dX12_hasLine_18 (by decide) ?_
        refine lv_iconst (v := 3) hx hb dX12_hasLine_21 (by decide) ?_
        refine lv_iload_n hx hb dX12_hasLine_22 rfl (lv_at hl 0 rfl) ?_
        refine iv_imul hx hb q_3 i4_x1 (lo := 0) (hi := 57) (by decide) dX12_hasLine_23 (fun x7 e_x7 i_x7 => ?_)
        refine iv_iadd hx hb q_206 i_x7 (lo := 206) (hi := 263) (by decide) dX12_hasLine_24 (fun x8 e_x8 i_x8 => ?_)
        refine iv_wald_f X hB a_b2 i_x8 (by decide) dX12_hasLine_25 (fun x9 e_x9 i_x9 => ?_)
        refine lv_iload_n hx hb dX12_hasLine_26 rfl (lv_at hl 2 rfl) ?_
        refine lv_icmp_ne (tgt := 41) hx hb dX12_hasLine_27 (by decide) (fun c10 => ?_) (fun c10 => ?_)
        · skip
          refine iv_iinc hx hb i4_x1 (lo := 1) (hi := 20) (by decide) dX12_hasLine_41 hl (k := 0) rfl (by decide) (fun x11 ls e_x11 i_x11 hl => ?_)
          have hl : lv_has ls 4 [(3, .int x11), (0, .ref h0), (1, .int x_0), (2, .int x_1)] := hl
          refine lv_goto (tgt := 2) hx hb dX12_hasLine_44 (by decide) ?_
          exact ih_2 _ _ hB x11 (i_x11.wk (by decide)) (iv_mup (c := 1) i_x1 (by decide) (by decide) (by omega) hn_2) _ (lv_sub hl [0, 1, 2, 3] rfl)
        · skip
          have i11_x9 : iv_R 0 9 x9 := ((i_x9.cutLo (n := 0) (iv_eq_r c10 i_x_0).1).cutHi (n := 9) (iv_eq_r c10 i_x_0).2)
          refine lv_aload_n hx hb dX12_hasLine_30 rfl (lv_at hl 1 rfl) ?_
          refine lv_iload_n hx hb dX12_hasLine_31 rfl (lv_at hl 0 rfl) ?_
          refine lv_iload_n hx hb dX12_hasLine_32 rfl (lv_at hl 3 rfl) ?_
          refine iv_cVi X k_good k_mf_X12_isLineAt k_im_X12_isLineAt k_sel_X12_isLineAt k_ml_X12_296 ft_X12 hB a_h0 sh_12 (As := [.int x1, .int x_1]) (c_X12_isLineAt l D tys base G h0 g_h0 r_h0 a_h0 x1 i4_x1 x_1 i_x_1) ⟨rfl, rfl⟩ ⟨Nat.le_of_ble_eq_true rfl, Nat.le_of_ble_eq_true rfl⟩ ⟨Nat.le_of_ble_eq_true rfl, Nat.le_of_ble_eq_true rfl⟩ rfl rfl hl.1 (Nat.le_of_ble_eq_true rfl) dX12_hasLine_33 (fun x13 G9 H locs hq hB => ?_)
          obtain ⟨rfl, i_x13⟩ := hq
          refine lv_if_eq (tgt := 41) hx hb dX12_hasLine_36 (by decide) (fun c14 => ?_) (fun c14 => ?_)
          · skip
            have i14_x13 : iv_R 0 0 x13 := (i_x13.cutHi (n := 0) (iv_eq_r c14 q_0).2)
            refine iv_iinc hx hb i4_x1 (lo := 1) (hi := 20) (by decide) dX12_hasLine_41 hl (k := 0) rfl (by decide) (fun x16 ls e_x16 i_x16 hl => ?_)
            have hl : lv_has ls 4 [(3, .int x16), (0, .ref h0), (1, .int x_0), (2, .int x_1)] := hl
            refine lv_goto (tgt := 2) hx hb dX12_hasLine_44 (by decide) ?_
            exact ih_2 _ _ hB x16 (i_x16.wk (by decide)) (iv_mup (c := 1) i_x1 (by decide) (by decide) (by omega) hn_2) _ (lv_sub hl [0, 1, 2, 3] rfl)
          · skip
            have i16_x13 : iv_R 1 1 x13 := iv_ne_lo c14 i_x13 q_0 (by decide)
            refine lv_iconst (v := 1) hx hb dX12_hasLine_39 (by decide) ?_
            exact iv_zret X hr hlocks hB (q_1.wk (by decide)) ⟨rfl, (q_1.wk (by decide))⟩ dX12_hasLine_40
  exact L_2 _ _ _ hB 0 (q_0.wk (by decide)) (Nat.lt_succ_self _) _ (lv_sub hl [0, 1, 2, 3] rfl)
theorem dX12_ofBell_0 : decode cX12_ofBell 0 = .ok (.aload_n 0, 1) := by decide +kernel
theorem dX12_ofBell_1 : decode cX12_ofBell 1 = .ok (.getfield 7, 3) := by decide +kernel
theorem dX12_ofBell_4 : decode cX12_ofBell 4 = .ok (.bipush 66, 2) := by decide +kernel
theorem dX12_ofBell_6 : decode cX12_ofBell 6 = .ok (.bipush 8, 2) := by decide +kernel
theorem dX12_ofBell_8 : decode cX12_ofBell 8 = .ok (.iload_n 1, 1) := by decide +kernel
theorem dX12_ofBell_9 : decode cX12_ofBell 9 = .ok (.imul, 1) := by decide +kernel
theorem dX12_ofBell_10 : decode cX12_ofBell 10 = .ok (.iadd, 1) := by decide +kernel
theorem dX12_ofBell_11 : decode cX12_ofBell 11 = .ok (.iload_n 2, 1) := by decide +kernel
theorem dX12_ofBell_12 : decode cX12_ofBell 12 = .ok (.iadd, 1) := by decide +kernel
theorem dX12_ofBell_13 : decode cX12_ofBell 13 = .ok (.iaload, 1) := by decide +kernel
theorem dX12_ofBell_14 : decode cX12_ofBell 14 = .ok (.ireturn, 1) := by decide +kernel
set_option maxHeartbeats 4000000 in
set_option maxRecDepth 100000 in
theorem c_X12_ofBell (l : Launch) (D : va_G) (tys : List (ClassId × FieldType)) (base : Nat) (G : iv_G) (h0 : Nat) (g_h0 : Nat → Int32) (r_h0 : Nat → Nat) (a_h0 : G h0 = some (12, g_h0, r_h0)) (x_0 : Int32) (i_x_0 : iv_R 0 9 x_0) (x_1 : Int32) (i_x_1 : iv_R 0 6 x_1) : Met l yX12_ofBell (Cond.code yX12_ofBell cX12_ofBell 3 (some .int) :: iv_W0) ({ frames := 0, cells := 0, slots := 0, locals := 0 }) (iv_Pc iv_sh D classes tys base G [.ref h0, .int x_0, .int x_1]) (iv_Qi iv_sh D classes tys base (fun v G' => G = G' ∧ iv_R (-2147483648) 2147483647 v ∧ (x_1 = 0 → iv_R 0 3 v) ∧ (x_1 = 1 → iv_R 0 47 v))) 0 0 (iv_A base) := by
  refine iv_head (by decide) (Nat.le_of_ble_eq_true rfl) ?_
  intro p e s m args below meth c ls X hr hlocks hname hB hl
  have X := X
  have hx := X.1.1
  have hb := X.1.2.1
  have hl : lv_has ls 3 [(0, .ref h0), (1, .int x_0), (2, .int x_1)] := hl
  refine lv_aload_n hx hb dX12_ofBell_0 rfl (lv_at hl 0 rfl) ?_
  refine iv_getr X ft_X12 hB a_h0 sh_12 0 (by decide) rfl k_fl_X12_7 dX12_ofBell_1 (fun b1 g_b1 r_b1 e_b1 a_b1 => ?_)
  refine lv_bipush (v := 66) hx hb dX12_ofBell_4 (by decide) ?_
  refine lv_bipush (v := 8) hx hb dX12_ofBell_6 (by decide) ?_
  refine lv_iload_n hx hb dX12_ofBell_8 rfl (lv_at hl 1 rfl) ?_
  refine iv_imul hx hb q_8 i_x_0 (lo := 0) (hi := 72) (by decide) dX12_ofBell_9 (fun x2 e_x2 i_x2 => ?_)
  refine iv_iadd hx hb q_66 i_x2 (lo := 66) (hi := 138) (by decide) dX12_ofBell_10 (fun x3 e_x3 i_x3 => ?_)
  refine lv_iload_n hx hb dX12_ofBell_11 rfl (lv_at hl 2 rfl) ?_
  refine iv_iadd hx hb i_x3 i_x_1 (lo := 66) (hi := 144) (by decide) dX12_ofBell_12 (fun x4 e_x4 i_x4 => ?_)
  refine iv_aldP X hB a_b1 sh_60 (iv_in i_x4 (by decide)) dX12_ofBell_13 (fun hP => ?_)
  refine lv_topi (fun x5 e_x5 => ?_)
  have i_x5 := iv_R.all x5
  exact iv_iret X hr hlocks hB ⟨rfl, i_x5, fun h => (by have w1 : x_1.toInt = 0 := (by rw [h]; rfl); have w2 := i_x_0.1; have w3 := i_x_0.2; have w4 := i_x4.1; have w5 : x2.toInt = 8 * x_0.toInt := e_x2; have w6 : x3.toInt = 66 + x2.toInt := e_x3; have w7 : x4.toNatClampNeg = x4.toInt.toNat := rfl; have w8 := iv_bellb (idx := x4.toNatClampNeg) (b := x_0.toInt) (f := 0) (by omega) ⟨w2, w3⟩ (by decide); have w9 := hP.1 x4.toNatClampNeg (by omega); rw [w8] at w9; rw [e_x5]; exact w9), fun h => (by have w1 : x_1.toInt = 1 := (by rw [h]; rfl); have w2 := i_x_0.1; have w3 := i_x_0.2; have w4 := i_x4.1; have w5 : x2.toInt = 8 * x_0.toInt := e_x2; have w6 : x3.toInt = 66 + x2.toInt := e_x3; have w7 : x4.toNatClampNeg = x4.toInt.toNat := rfl; have w8 := iv_bellb (idx := x4.toNatClampNeg) (b := x_0.toInt) (f := 1) (by omega) ⟨w2, w3⟩ (by decide); have w9 := hP.1 x4.toNatClampNeg (by omega); rw [w8] at w9; rw [e_x5]; exact w9)⟩ dX12_ofBell_14
theorem dX12_isOfTurns_0 : decode cX12_isOfTurns 0 = .ok (.iconst 0, 1) := by decide +kernel
theorem dX12_isOfTurns_1 : decode cX12_isOfTurns 1 = .ok (.istore_n 3, 1) := by decide +kernel
theorem dX12_isOfTurns_2 : decode cX12_isOfTurns 2 = .ok (.iload_n 3, 1) := by decide +kernel
theorem dX12_isOfTurns_3 : decode cX12_isOfTurns 3 = .ok (.aload_n 0, 1) := by decide +kernel
theorem dX12_isOfTurns_4 : decode cX12_isOfTurns 4 = .ok (.getfield 7, 3) := by decide +kernel
theorem dX12_isOfTurns_7 : decode cX12_isOfTurns 7 = .ok (.sipush 152, 3) := by decide +kernel
theorem dX12_isOfTurns_10 : decode cX12_isOfTurns 10 = .ok (.iaload, 1) := by decide +kernel
theorem dX12_isOfTurns_11 : decode cX12_isOfTurns 11 = .ok (.if_icmp .ge 66, 3) := by decide +kernel
theorem dX12_isOfTurns_14 : decode cX12_isOfTurns 14 = .ok (.sipush 153, 3) := by decide +kernel
theorem dX12_isOfTurns_17 : decode cX12_isOfTurns 17 = .ok (.iconst 3, 1) := by decide +kernel
theorem dX12_isOfTurns_18 : decode cX12_isOfTurns 18 = .ok (.iload_n 3, 1) := by decide +kernel
theorem dX12_isOfTurns_19 : decode cX12_isOfTurns 19 = .ok (.imul, 1) := by decide +kernel
theorem dX12_isOfTurns_20 : decode cX12_isOfTurns 20 = .ok (.iadd, 1) := by decide +kernel
theorem dX12_isOfTurns_21 : decode cX12_isOfTurns 21 = .ok (.istore 4, 2) := by decide +kernel
theorem dX12_isOfTurns_23 : decode cX12_isOfTurns 23 = .ok (.aload_n 0, 1) := by decide +kernel
theorem dX12_isOfTurns_24 : decode cX12_isOfTurns 24 = .ok (.getfield 7, 3) := by decide +kernel
theorem dX12_isOfTurns_27 : decode cX12_isOfTurns 27 = .ok (.iload 4, 2) := by decide +kernel
theorem dX12_isOfTurns_29 : decode cX12_isOfTurns 29 = .ok (.iaload, 1) := by decide +kernel
theorem dX12_isOfTurns_30 : decode cX12_isOfTurns 30 = .ok (.iload_n 2, 1) := by decide +kernel
theorem dX12_isOfTurns_31 : decode cX12_isOfTurns 31 = .ok (.if_icmp .ne 40, 3) := by decide +kernel
theorem dX12_isOfTurns_34 : decode cX12_isOfTurns 34 = .ok (.aload_n 0, 1) := by decide +kernel
theorem dX12_isOfTurns_35 : decode cX12_isOfTurns 35 = .ok (.iload_n 1, 1) := by decide +kernel
theorem dX12_isOfTurns_36 : decode cX12_isOfTurns 36 = .ok (.aload_n 0, 1) := by decide +kernel
theorem dX12_isOfTurns_37 : decode cX12_isOfTurns 37 = .ok (.getfield 7, 3) := by decide +kernel
theorem dX12_isOfTurns_40 : decode cX12_isOfTurns 40 = .ok (.iload 4, 2) := by decide +kernel
theorem dX12_isOfTurns_42 : decode cX12_isOfTurns 42 = .ok (.iconst 1, 1) := by decide +kernel
theorem dX12_isOfTurns_43 : decode cX12_isOfTurns 43 = .ok (.iadd, 1) := by decide +kernel
theorem dX12_isOfTurns_44 : decode cX12_isOfTurns 44 = .ok (.iaload, 1) := by decide +kernel
theorem dX12_isOfTurns_45 : decode cX12_isOfTurns 45 = .ok (.invokevirtual 299, 3) := by decide +kernel
theorem dX12_isOfTurns_48 : decode cX12_isOfTurns 48 = .ok (.ifCond .eq 21, 3) := by decide +kernel
theorem dX12_isOfTurns_51 : decode cX12_isOfTurns 51 = .ok (.aload_n 0, 1) := by decide +kernel
theorem dX12_isOfTurns_52 : decode cX12_isOfTurns 52 = .ok (.iload_n 1, 1) := by decide +kernel
theorem dX12_isOfTurns_53 : decode cX12_isOfTurns 53 = .ok (.iconst 0, 1) := by decide +kernel
theorem dX12_isOfTurns_54 : decode cX12_isOfTurns 54 = .ok (.invokevirtual 282, 3) := by decide +kernel
theorem dX12_isOfTurns_57 : decode cX12_isOfTurns 57 = .ok (.aload_n 0, 1) := by decide +kernel
theorem dX12_isOfTurns_58 : decode cX12_isOfTurns 58 = .ok (.getfield 7, 3) := by decide +kernel
theorem dX12_isOfTurns_61 : decode cX12_isOfTurns 61 = .ok (.iload 4, 2) := by decide +kernel
theorem dX12_isOfTurns_63 : decode cX12_isOfTurns 63 = .ok (.iconst 2, 1) := by decide +kernel
theorem dX12_isOfTurns_64 : decode cX12_isOfTurns 64 = .ok (.iadd, 1) := by decide +kernel
theorem dX12_isOfTurns_65 : decode cX12_isOfTurns 65 = .ok (.iaload, 1) := by decide +kernel
theorem dX12_isOfTurns_66 : decode cX12_isOfTurns 66 = .ok (.if_icmp .eq 5, 3) := by decide +kernel
theorem dX12_isOfTurns_69 : decode cX12_isOfTurns 69 = .ok (.iconst 0, 1) := by decide +kernel
theorem dX12_isOfTurns_70 : decode cX12_isOfTurns 70 = .ok (.ireturn, 1) := by decide +kernel
theorem dX12_isOfTurns_71 : decode cX12_isOfTurns 71 = .ok (.iinc 3 1, 3) := by decide +kernel
theorem dX12_isOfTurns_74 : decode cX12_isOfTurns 74 = .ok (.goto (-72), 3) := by decide +kernel
theorem dX12_isOfTurns_77 : decode cX12_isOfTurns 77 = .ok (.iconst 1, 1) := by decide +kernel
theorem dX12_isOfTurns_78 : decode cX12_isOfTurns 78 = .ok (.ireturn, 1) := by decide +kernel
set_option maxHeartbeats 4000000 in
set_option maxRecDepth 100000 in
theorem c_X12_isOfTurns (l : Launch) (D : va_G) (tys : List (ClassId × FieldType)) (base : Nat) (G : iv_G) (h0 : Nat) (g_h0 : Nat → Int32) (r_h0 : Nat → Nat) (a_h0 : G h0 = some (12, g_h0, r_h0)) (x_0 : Int32) (i_x_0 : iv_R 0 9 x_0) (x_1 : Int32) (i_x_1 : iv_R 0 19 x_1) : Met l yX12_isOfTurns (Cond.code yX12_isOfTurns cX12_isOfTurns 5 (some .boolean) :: iv_W0) ({ frames := 2, cells := 0, slots := 0, locals := 45 }) (iv_Pc iv_sh D classes tys base G [.ref h0, .int x_0, .int x_1]) (iv_Qi iv_sh D classes tys base (fun v G' => G = G' ∧ iv_R 0 1 v)) 0 0 (iv_A base) := by
  refine iv_head (by decide) (Nat.le_of_ble_eq_true rfl) ?_
  intro p e s m args below meth c ls X hr hlocks hname hB hl
  have X := X
  have hx := X.1.1
  have hb := X.1.2.1
  have hl : lv_has ls 5 [(0, .ref h0), (1, .int x_0), (2, .int x_1)] := hl
  refine lv_iconst (v := 0) hx hb dX12_isOfTurns_0 (by decide) ?_
  refine lv_istore_n (lv' := [(3, .int 0), (0, .ref h0), (1, .int x_0), (2, .int x_1)]) hx hb dX12_isOfTurns_1 rfl hl (by decide) rfl (fun ls hl => ?_)
  have L_2 : ∀ (n_2 : Nat) (H : Heap) (locs : List Loc) (hB : iv_B iv_sh D classes tys base G s.heap H locs) (x1 : Int32) (i_x1 : iv_R 0 12 x1) (hn_2 : (13 - x1.toInt).toNat < n_2) (ls : Array Slot) (hl : lv_has ls 5 [(3, .int x1), (0, .ref h0), (1, .int x_0), (2, .int x_1)]), W p l e ({ frames := 2, cells := 0, slots := 0, locals := 45 } : Room) s m args below meth c H locs 0 0 (MQ below (iv_Qi iv_sh D classes tys base (fun v G' => G = G' ∧ iv_R 0 1 v)) args s 0 0 (iv_A base)) (F0 m 2 ls []) := by
    intro n_2
    induction n_2 with
    | zero => intro H locs hB x1 i_x1 hn_2 ls hl; exact absurd hn_2 (Nat.not_lt_zero _)
    | succ n_2 ih_2 =>
      intro H locs hB x1 i_x1 hn_2 ls hl
      refine lv_iload_n hx hb dX12_isOfTurns_2 rfl (lv_at hl 0 rfl) ?_
      refine lv_aload_n hx hb dX12_isOfTurns_3 rfl (lv_at hl 1 rfl) ?_
      refine iv_getr X ft_X12 hB a_h0 sh_12 0 (by decide) rfl k_fl_X12_7 dX12_isOfTurns_4 (fun b2 g_b2 r_b2 e_b2 a_b2 => ?_)
      refine lv_sipush (v := 152) hx hb dX12_isOfTurns_7 (by decide) ?_
      refine iv_wald_c X hB a_b2 q_152 (by decide) (lo := 0) (hi' := 12) (by decide) dX12_isOfTurns_10 (fun x3 e_x3 i_x3 => ?_)
      refine lv_icmp_ge (tgt := 77) hx hb dX12_isOfTurns_11 (by decide) (fun c4 => ?_) (fun c4 => ?_)
      · skip
        refine lv_iconst (v := 1) hx hb dX12_isOfTurns_77 (by decide) ?_
        exact iv_zret X hr hlocks hB (q_1.wk (by decide)) ⟨rfl, (q_1.wk (by decide))⟩ dX12_isOfTurns_78
      · skip
        have i4_x1 : iv_R 0 11 x1 := (i_x1.cutHi (n := 11) (iv_lt_r (iv_nle c4) i_x3 (by decide)))
        have i5_x3 : iv_R 1 12 x3 := (i_x3.cutLo (n := 1) (iv_lt_l (iv_nle c4) i_x1 (by decide)))
        refine lv_sipush (v := 153) hx hb dX12_isOfTurns_14 (by decide) ?_
        refine lv_iconst (v := 3) hx hb dX12_isOfTurns_17 (by decide) ?_
        refine lv_iload_n hx hb dX12_isOfTurns_18 rfl (lv_at hl 0 rfl) ?_
        refine iv_imul hx hb q_3 i4_x1 (lo := 0) (hi := 33) (by decide) dX12_isOfTurns_19 (fun x7 e_x7 i_x7 => ?_)
        refine iv_iadd hx hb q_153 i_x7 (lo := 153) (hi := 186) (by decide) dX12_isOfTurns_20 (fun x8 e_x8 i_x8 => ?_)
        refine lv_istore (lv' := [(4, .int x8), (3, .int x1), (0, .ref h0), (1, .int x_0), (2, .int x_1)]) hx hb dX12_isOfTurns_21 hl (by decide) rfl (fun ls hl => ?_)
        refine lv_aload_n hx hb dX12_isOfTurns_23 rfl (lv_at hl 2 rfl) ?_
        refine iv_getr0 X ft_X12 hB a_h0 sh_12 0 (by decide) rfl k_fl_X12_7 dX12_isOfTurns_24 e_b2 ?_
        refine lv_iload hx hb dX12_isOfTurns_27 (lv_at hl 0 rfl) ?_
        refine iv_wald_f X hB a_b2 i_x8 (by decide) dX12_isOfTurns_29 (fun x9 e_x9 i_x9 => ?_)
        refine lv_iload_n hx hb dX12_isOfTurns_30 rfl (lv_at hl 4 rfl) ?_
        refine lv_icmp_ne (tgt := 71) hx hb dX12_isOfTurns_31 (by decide) (fun c10 => ?_) (fun c10 => ?_)
        · skip
          refine iv_iinc hx hb i4_x1 (lo := 1) (hi := 12) (by decide) dX12_isOfTurns_71 hl (k := 1) rfl (by decide) (fun x11 ls e_x11 i_x11 hl => ?_)
          have hl : lv_has ls 5 [(3, .int x11), (4, .int x8), (0, .ref h0), (1, .int x_0), (2, .int x_1)] := hl
          refine lv_goto (tgt := 2) hx hb dX12_isOfTurns_74 (by decide) ?_
          exact ih_2 _ _ hB x11 (i_x11.wk (by decide)) (iv_mup (c := 1) i_x1 (by decide) (by decide) (by omega) hn_2) _ (lv_sub hl [0, 2, 3, 4] rfl)
        · skip
          have i11_x9 : iv_R 0 19 x9 := ((i_x9.cutLo (n := 0) (iv_eq_r c10 i_x_1).1).cutHi (n := 19) (iv_eq_r c10 i_x_1).2)
          refine lv_aload_n hx hb dX12_isOfTurns_34 rfl (lv_at hl 2 rfl) ?_
          refine lv_iload_n hx hb dX12_isOfTurns_35 rfl (lv_at hl 3 rfl) ?_
          refine lv_aload_n hx hb dX12_isOfTurns_36 rfl (lv_at hl 2 rfl) ?_
          refine iv_getr0 X ft_X12 hB a_h0 sh_12 0 (by decide) rfl k_fl_X12_7 dX12_isOfTurns_37 e_b2 ?_
          refine lv_iload hx hb dX12_isOfTurns_40 (lv_at hl 0 rfl) ?_
          refine lv_iconst (v := 1) hx hb dX12_isOfTurns_42 (by decide) ?_
          refine iv_iadd hx hb i_x8 q_1 (lo := 154) (hi := 187) (by decide) dX12_isOfTurns_43 (fun x13 e_x13 i_x13 => ?_)
          refine iv_wald_f X hB a_b2 i_x13 (by decide) dX12_isOfTurns_44 (fun x14 e_x14 i_x14 => ?_)
          refine iv_cVi X k_good k_mf_X12_hasLine k_im_X12_hasLine k_sel_X12_hasLine k_ml_X12_299 ft_X12 hB a_h0 sh_12 (As := [.int x_0, .int x14]) (c_X12_hasLine l D tys base G h0 g_h0 r_h0 a_h0 x_0 i_x_0 x14 i_x14) ⟨rfl, rfl⟩ ⟨Nat.le_of_ble_eq_true rfl, Nat.le_of_ble_eq_true rfl⟩ ⟨Nat.le_of_ble_eq_true rfl, Nat.le_of_ble_eq_true rfl⟩ rfl rfl hl.1 (Nat.le_of_ble_eq_true rfl) dX12_isOfTurns_45 (fun x15 G9 H locs hq hB => ?_)
          obtain ⟨rfl, i_x15⟩ := hq
          refine lv_if_eq (tgt := 69) hx hb dX12_isOfTurns_48 (by decide) (fun c16 => ?_) (fun c16 => ?_)
          · skip
            have i16_x15 : iv_R 0 0 x15 := (i_x15.cutHi (n := 0) (iv_eq_r c16 q_0).2)
            refine lv_iconst (v := 0) hx hb dX12_isOfTurns_69 (by decide) ?_
            exact iv_zret X hr hlocks hB (q_0.wk (by decide)) ⟨rfl, (q_0.wk (by decide))⟩ dX12_isOfTurns_70
          · skip
            have i17_x15 : iv_R 1 1 x15 := iv_ne_lo c16 i_x15 q_0 (by decide)
            refine lv_aload_n hx hb dX12_isOfTurns_51 rfl (lv_at hl 2 rfl) ?_
            refine lv_iload_n hx hb dX12_isOfTurns_52 rfl (lv_at hl 3 rfl) ?_
            refine lv_iconst (v := 0) hx hb dX12_isOfTurns_53 (by decide) ?_
            refine iv_cVi X k_good k_mf_X12_ofBell k_im_X12_ofBell k_sel_X12_ofBell k_ml_X12_282 ft_X12 hB a_h0 sh_12 (As := [.int x_0, .int 0]) (c_X12_ofBell l D tys base G h0 g_h0 r_h0 a_h0 x_0 i_x_0 0 (q_0.wk (by decide))) ⟨rfl, rfl⟩ ⟨Nat.le_of_ble_eq_true rfl, Nat.le_of_ble_eq_true rfl⟩ ⟨Nat.le_of_ble_eq_true rfl, Nat.le_of_ble_eq_true rfl⟩ rfl rfl hl.1 (Nat.le_of_ble_eq_true rfl) dX12_isOfTurns_54 (fun x19 G9 H locs hq hB => ?_)
            obtain ⟨rfl, i_x19, cp20, cp21⟩ := hq
            have i21_x19 : iv_R 0 3 x19 := cp20 rfl
            refine lv_aload_n hx hb dX12_isOfTurns_57 rfl (lv_at hl 2 rfl) ?_
            refine iv_getr0 X ft_X12 hB a_h0 sh_12 0 (by decide) rfl k_fl_X12_7 dX12_isOfTurns_58 e_b2 ?_
            refine lv_iload hx hb dX12_isOfTurns_61 (lv_at hl 0 rfl) ?_
            refine lv_iconst (v := 2) hx hb dX12_isOfTurns_63 (by decide) ?_
            refine iv_iadd hx hb i_x8 q_2 (lo := 155) (hi := 188) (by decide) dX12_isOfTurns_64 (fun x23 e_x23 i_x23 => ?_)
            refine iv_wald_f X hB a_b2 i_x23 (by decide) dX12_isOfTurns_65 (fun x24 e_x24 i_x24 => ?_)
            refine lv_icmp_eq (tgt := 71) hx hb dX12_isOfTurns_66 (by decide) (fun c25 => ?_) (fun c25 => ?_)
            · skip
              have i25_x24 : iv_R 0 3 x24 := ((i_x24.cutLo (n := 0) (iv_eq_r c25.symm i21_x19).1).cutHi (n := 3) (iv_eq_r c25.symm i21_x19).2)
              refine iv_iinc hx hb i4_x1 (lo := 1) (hi := 12) (by decide) dX12_isOfTurns_71 hl (k := 1) rfl (by decide) (fun x27 ls e_x27 i_x27 hl => ?_)
              have hl : lv_has ls 5 [(3, .int x27), (4, .int x8), (0, .ref h0), (1, .int x_0), (2, .int x_1)] := hl
              refine lv_goto (tgt := 2) hx hb dX12_isOfTurns_74 (by decide) ?_
              exact ih_2 _ _ hB x27 (i_x27.wk (by decide)) (iv_mup (c := 1) i_x1 (by decide) (by decide) (by omega) hn_2) _ (lv_sub hl [0, 2, 3, 4] rfl)
            · skip
              refine lv_iconst (v := 0) hx hb dX12_isOfTurns_69 (by decide) ?_
              exact iv_zret X hr hlocks hB (q_0.wk (by decide)) ⟨rfl, (q_0.wk (by decide))⟩ dX12_isOfTurns_70
  exact L_2 _ _ _ hB 0 (q_0.wk (by decide)) (Nat.lt_succ_self _) _ (lv_sub hl [0, 1, 2, 3] rfl)
theorem dX12_fitsOf_0 : decode cX12_fitsOf 0 = .ok (.iconst 0, 1) := by decide +kernel
theorem dX12_fitsOf_1 : decode cX12_fitsOf 1 = .ok (.istore_n 2, 1) := by decide +kernel
theorem dX12_fitsOf_2 : decode cX12_fitsOf 2 = .ok (.iconst 0, 1) := by decide +kernel
theorem dX12_fitsOf_3 : decode cX12_fitsOf 3 = .ok (.istore_n 3, 1) := by decide +kernel
theorem dX12_fitsOf_4 : decode cX12_fitsOf 4 = .ok (.iload_n 3, 1) := by decide +kernel
theorem dX12_fitsOf_5 : decode cX12_fitsOf 5 = .ok (.aload_n 0, 1) := by decide +kernel
theorem dX12_fitsOf_6 : decode cX12_fitsOf 6 = .ok (.getfield 7, 3) := by decide +kernel
theorem dX12_fitsOf_9 : decode cX12_fitsOf 9 = .ok (.sipush 146, 3) := by decide +kernel
theorem dX12_fitsOf_12 : decode cX12_fitsOf 12 = .ok (.iaload, 1) := by decide +kernel
theorem dX12_fitsOf_13 : decode cX12_fitsOf 13 = .ok (.if_icmp .ge 39, 3) := by decide +kernel
theorem dX12_fitsOf_16 : decode cX12_fitsOf 16 = .ok (.iload_n 2, 1) := by decide +kernel
theorem dX12_fitsOf_17 : decode cX12_fitsOf 17 = .ok (.aload_n 0, 1) := by decide +kernel
theorem dX12_fitsOf_18 : decode cX12_fitsOf 18 = .ok (.iload_n 3, 1) := by decide +kernel
theorem dX12_fitsOf_19 : decode cX12_fitsOf 19 = .ok (.bipush 6, 2) := by decide +kernel
theorem dX12_fitsOf_21 : decode cX12_fitsOf 21 = .ok (.invokevirtual 282, 3) := by decide +kernel
theorem dX12_fitsOf_24 : decode cX12_fitsOf 24 = .ok (.iconst 2, 1) := by decide +kernel
theorem dX12_fitsOf_25 : decode cX12_fitsOf 25 = .ok (.if_icmp .eq 18, 3) := by decide +kernel
theorem dX12_fitsOf_28 : decode cX12_fitsOf 28 = .ok (.aload_n 0, 1) := by decide +kernel
theorem dX12_fitsOf_29 : decode cX12_fitsOf 29 = .ok (.iload_n 3, 1) := by decide +kernel
theorem dX12_fitsOf_30 : decode cX12_fitsOf 30 = .ok (.iload_n 1, 1) := by decide +kernel
theorem dX12_fitsOf_31 : decode cX12_fitsOf 31 = .ok (.invokevirtual 435, 3) := by decide +kernel
theorem dX12_fitsOf_34 : decode cX12_fitsOf 34 = .ok (.ifCond .eq 9, 3) := by decide +kernel
theorem dX12_fitsOf_37 : decode cX12_fitsOf 37 = .ok (.iconst 1, 1) := by decide +kernel
theorem dX12_fitsOf_38 : decode cX12_fitsOf 38 = .ok (.iload_n 3, 1) := by decide +kernel
theorem dX12_fitsOf_39 : decode cX12_fitsOf 39 = .ok (.ishl, 1) := by decide +kernel
theorem dX12_fitsOf_40 : decode cX12_fitsOf 40 = .ok (.goto 4, 3) := by decide +kernel
theorem dX12_fitsOf_43 : decode cX12_fitsOf 43 = .ok (.iconst 0, 1) := by decide +kernel
theorem dX12_fitsOf_44 : decode cX12_fitsOf 44 = .ok (.ior, 1) := by decide +kernel
theorem dX12_fitsOf_45 : decode cX12_fitsOf 45 = .ok (.istore_n 2, 1) := by decide +kernel
theorem dX12_fitsOf_46 : decode cX12_fitsOf 46 = .ok (.iinc 3 1, 3) := by decide +kernel
theorem dX12_fitsOf_49 : decode cX12_fitsOf 49 = .ok (.goto (-45), 3) := by decide +kernel
theorem dX12_fitsOf_52 : decode cX12_fitsOf 52 = .ok (.iload_n 2, 1) := by decide +kernel
theorem dX12_fitsOf_53 : decode cX12_fitsOf 53 = .ok (.ireturn, 1) := by decide +kernel
set_option maxHeartbeats 4000000 in
set_option maxRecDepth 100000 in
theorem c_X12_fitsOf (l : Launch) (D : va_G) (tys : List (ClassId × FieldType)) (base : Nat) (G : iv_G) (h0 : Nat) (g_h0 : Nat → Int32) (r_h0 : Nat → Nat) (a_h0 : G h0 = some (12, g_h0, r_h0)) (x_0 : Int32) (i_x_0 : iv_R 0 19 x_0) : Met l yX12_fitsOf (Cond.code yX12_fitsOf cX12_fitsOf 4 (some .int) :: iv_W0) ({ frames := 3, cells := 0, slots := 0, locals := 69 }) (iv_Pc iv_sh D classes tys base G [.ref h0, .int x_0]) (iv_Qi iv_sh D classes tys base (fun v G' => G = G' ∧ iv_R 0 2047 v)) 0 0 (iv_A base) := by
  refine iv_head (by decide) (Nat.le_of_ble_eq_true rfl) ?_
  intro p e s m args below meth c ls X hr hlocks hname hB hl
  have X := X
  have hx := X.1.1
  have hb := X.1.2.1
  have hl : lv_has ls 4 [(0, .ref h0), (1, .int x_0)] := hl
  refine lv_iconst (v := 0) hx hb dX12_fitsOf_0 (by decide) ?_
  refine lv_istore_n (lv' := [(2, .int 0), (0, .ref h0), (1, .int x_0)]) hx hb dX12_fitsOf_1 rfl hl (by decide) rfl (fun ls hl => ?_)
  refine lv_iconst (v := 0) hx hb dX12_fitsOf_2 (by decide) ?_
  refine lv_istore_n (lv' := [(3, .int 0), (2, .int 0), (0, .ref h0), (1, .int x_0)]) hx hb dX12_fitsOf_3 rfl hl (by decide) rfl (fun ls hl => ?_)
  have L_4 : ∀ (n_4 : Nat) (H : Heap) (locs : List Loc) (hB : iv_B iv_sh D classes tys base G s.heap H locs) (x1 : Int32) (i_x1 : iv_R 0 2047 x1) (x2 : Int32) (i_x2 : iv_R 0 10 x2) (hn_4 : (11 - x2.toInt).toNat < n_4) (ls : Array Slot) (hl : lv_has ls 4 [(3, .int x2), (2, .int x1), (0, .ref h0), (1, .int x_0)]), W p l e ({ frames := 3, cells := 0, slots := 0, locals := 69 } : Room) s m args below meth c H locs 0 0 (MQ below (iv_Qi iv_sh D classes tys base (fun v G' => G = G' ∧ iv_R 0 2047 v)) args s 0 0 (iv_A base)) (F0 m 4 ls []) := by
    intro n_4
    induction n_4 with
    | zero => intro H locs hB x1 i_x1 x2 i_x2 hn_4 ls hl; exact absurd hn_4 (Nat.not_lt_zero _)
    | succ n_4 ih_4 =>
      intro H locs hB x1 i_x1 x2 i_x2 hn_4 ls hl
      refine lv_iload_n hx hb dX12_fitsOf_4 rfl (lv_at hl 0 rfl) ?_
      refine lv_aload_n hx hb dX12_fitsOf_5 rfl (lv_at hl 2 rfl) ?_
      refine iv_getr X ft_X12 hB a_h0 sh_12 0 (by decide) rfl k_fl_X12_7 dX12_fitsOf_6 (fun b3 g_b3 r_b3 e_b3 a_b3 => ?_)
      refine lv_sipush (v := 146) hx hb dX12_fitsOf_9 (by decide) ?_
      refine iv_wald_c X hB a_b3 q_146 (by decide) (lo := 0) (hi' := 10) (by decide) dX12_fitsOf_12 (fun x4 e_x4 i_x4 => ?_)
      refine lv_icmp_ge (tgt := 52) hx hb dX12_fitsOf_13 (by decide) (fun c5 => ?_) (fun c5 => ?_)
      · skip
        refine lv_iload_n hx hb dX12_fitsOf_52 rfl (lv_at hl 1 rfl) ?_
        exact iv_iret X hr hlocks hB ⟨rfl, i_x1⟩ dX12_fitsOf_53
      · skip
        have i5_x2 : iv_R 0 9 x2 := (i_x2.cutHi (n := 9) (iv_lt_r (iv_nle c5) i_x4 (by decide)))
        have i6_x4 : iv_R 1 10 x4 := (i_x4.cutLo (n := 1) (iv_lt_l (iv_nle c5) i_x2 (by decide)))
        refine lv_iload_n hx hb dX12_fitsOf_16 rfl (lv_at hl 1 rfl) ?_
        refine lv_aload_n hx hb dX12_fitsOf_17 rfl (lv_at hl 2 rfl) ?_
        refine lv_iload_n hx hb dX12_fitsOf_18 rfl (lv_at hl 0 rfl) ?_
        refine lv_bipush (v := 6) hx hb dX12_fitsOf_19 (by decide) ?_
        refine iv_cVi X k_good k_mf_X12_ofBell k_im_X12_ofBell k_sel_X12_ofBell k_ml_X12_282 ft_X12 hB a_h0 sh_12 (As := [.int x2, .int 6]) (c_X12_ofBell l D tys base G h0 g_h0 r_h0 a_h0 x2 i5_x2 6 (q_6.wk (by decide))) ⟨rfl, rfl⟩ ⟨Nat.le_of_ble_eq_true rfl, Nat.le_of_ble_eq_true rfl⟩ ⟨Nat.le_of_ble_eq_true rfl, Nat.le_of_ble_eq_true rfl⟩ rfl rfl hl.1 (Nat.le_of_ble_eq_true rfl) dX12_fitsOf_21 (fun x8 G9 H locs hq hB => ?_)
        obtain ⟨rfl, i_x8, cp9, cp10⟩ := hq
        refine lv_iconst (v := 2) hx hb dX12_fitsOf_24 (by decide) ?_
        refine lv_icmp_eq (tgt := 43) hx hb dX12_fitsOf_25 (by decide) (fun c11 => ?_) (fun c11 => ?_)
        · skip
          have i11_x8 : iv_R 2 2 x8 := ((i_x8.cutLo (n := 2) (iv_eq_r c11 q_2).1).cutHi (n := 2) (iv_eq_r c11 q_2).2)
          refine lv_iconst (v := 0) hx hb dX12_fitsOf_43 (by decide) ?_
          refine iv_ior hx hb i_x1 q_0 (k := 11) (hi := 2047) (by decide) dX12_fitsOf_44 (fun x13 e_x13 i_x13 => ?_)
          refine lv_istore_n (lv' := [(2, .int x13), (3, .int x2), (0, .ref h0), (1, .int x_0)]) hx hb dX12_fitsOf_45 rfl hl (by decide) rfl (fun ls hl => ?_)
          refine iv_iinc hx hb i5_x2 (lo := 1) (hi := 10) (by decide) dX12_fitsOf_46 hl (k := 1) rfl (by decide) (fun x14 ls e_x14 i_x14 hl => ?_)
          have hl : lv_has ls 4 [(3, .int x14), (2, .int x13), (0, .ref h0), (1, .int x_0)] := hl
          refine lv_goto (tgt := 4) hx hb dX12_fitsOf_49 (by decide) ?_
          exact ih_4 _ _ hB x13 i_x13 x14 (i_x14.wk (by decide)) (iv_mup (c := 1) i_x2 (by decide) (by decide) (by omega) hn_4) _ (lv_sub hl [0, 1, 2, 3] rfl)
        · skip
          refine lv_aload_n hx hb dX12_fitsOf_28 rfl (lv_at hl 2 rfl) ?_
          refine lv_iload_n hx hb dX12_fitsOf_29 rfl (lv_at hl 0 rfl) ?_
          refine lv_iload_n hx hb dX12_fitsOf_30 rfl (lv_at hl 3 rfl) ?_
          refine iv_cVi X k_good k_mf_X12_isOfTurns k_im_X12_isOfTurns k_sel_X12_isOfTurns k_ml_X12_435 ft_X12 hB a_h0 sh_12 (As := [.int x2, .int x_0]) (c_X12_isOfTurns l D tys base G h0 g_h0 r_h0 a_h0 x2 i5_x2 x_0 i_x_0) ⟨rfl, rfl⟩ ⟨Nat.le_of_ble_eq_true rfl, Nat.le_of_ble_eq_true rfl⟩ ⟨Nat.le_of_ble_eq_true rfl, Nat.le_of_ble_eq_true rfl⟩ rfl rfl hl.1 (Nat.le_of_ble_eq_true rfl) dX12_fitsOf_31 (fun x15 G9 H locs hq hB => ?_)
          obtain ⟨rfl, i_x15⟩ := hq
          refine lv_if_eq (tgt := 43) hx hb dX12_fitsOf_34 (by decide) (fun c16 => ?_) (fun c16 => ?_)
          · skip
            have i16_x15 : iv_R 0 0 x15 := (i_x15.cutHi (n := 0) (iv_eq_r c16 q_0).2)
            refine lv_iconst (v := 0) hx hb dX12_fitsOf_43 (by decide) ?_
            refine iv_ior hx hb i_x1 q_0 (k := 11) (hi := 2047) (by decide) dX12_fitsOf_44 (fun x18 e_x18 i_x18 => ?_)
            refine lv_istore_n (lv' := [(2, .int x18), (3, .int x2), (0, .ref h0), (1, .int x_0)]) hx hb dX12_fitsOf_45 rfl hl (by decide) rfl (fun ls hl => ?_)
            refine iv_iinc hx hb i5_x2 (lo := 1) (hi := 10) (by decide) dX12_fitsOf_46 hl (k := 1) rfl (by decide) (fun x19 ls e_x19 i_x19 hl => ?_)
            have hl : lv_has ls 4 [(3, .int x19), (2, .int x18), (0, .ref h0), (1, .int x_0)] := hl
            refine lv_goto (tgt := 4) hx hb dX12_fitsOf_49 (by decide) ?_
            exact ih_4 _ _ hB x18 i_x18 x19 (i_x19.wk (by decide)) (iv_mup (c := 1) i_x2 (by decide) (by decide) (by omega) hn_4) _ (lv_sub hl [0, 1, 2, 3] rfl)
          · skip
            have i19_x15 : iv_R 1 1 x15 := iv_ne_lo c16 i_x15 q_0 (by decide)
            refine lv_iconst (v := 1) hx hb dX12_fitsOf_37 (by decide) ?_
            refine lv_iload_n hx hb dX12_fitsOf_38 rfl (lv_at hl 0 rfl) ?_
            refine iv_shl1 hx hb i5_x2 (lo := 1) (hi := 512) (by decide) dX12_fitsOf_39 (fun x21 e_x21 i_x21 => ?_)
            refine lv_goto (tgt := 44) hx hb dX12_fitsOf_40 (by decide) ?_
            refine iv_ior hx hb i_x1 i_x21 (k := 11) (hi := 2047) (by decide) dX12_fitsOf_44 (fun x22 e_x22 i_x22 => ?_)
            refine lv_istore_n (lv' := [(2, .int x22), (3, .int x2), (0, .ref h0), (1, .int x_0)]) hx hb dX12_fitsOf_45 rfl hl (by decide) rfl (fun ls hl => ?_)
            refine iv_iinc hx hb i5_x2 (lo := 1) (hi := 10) (by decide) dX12_fitsOf_46 hl (k := 1) rfl (by decide) (fun x23 ls e_x23 i_x23 hl => ?_)
            have hl : lv_has ls 4 [(3, .int x23), (2, .int x22), (0, .ref h0), (1, .int x_0)] := hl
            refine lv_goto (tgt := 4) hx hb dX12_fitsOf_49 (by decide) ?_
            exact ih_4 _ _ hB x22 i_x22 x23 (i_x23.wk (by decide)) (iv_mup (c := 1) i_x2 (by decide) (by decide) (by omega) hn_4) _ (lv_sub hl [0, 1, 2, 3] rfl)
  exact L_4 _ _ _ hB 0 (q_0.wk (by decide)) 0 (q_0.wk (by decide)) (Nat.lt_succ_self _) _ (lv_sub hl [0, 1, 2, 3] rfl)
theorem dX12_greater_0 : decode cX12_greater 0 = .ok (.iload_n 0, 1) := by decide +kernel
theorem dX12_greater_1 : decode cX12_greater 1 = .ok (.iload_n 1, 1) := by decide +kernel
theorem dX12_greater_2 : decode cX12_greater 2 = .ok (.if_icmp .le 7, 3) := by decide +kernel
theorem dX12_greater_5 : decode cX12_greater 5 = .ok (.iload_n 0, 1) := by decide +kernel
theorem dX12_greater_6 : decode cX12_greater 6 = .ok (.goto 4, 3) := by decide +kernel
theorem dX12_greater_9 : decode cX12_greater 9 = .ok (.iload_n 1, 1) := by decide +kernel
theorem dX12_greater_10 : decode cX12_greater 10 = .ok (.ireturn, 1) := by decide +kernel
set_option maxHeartbeats 4000000 in
set_option maxRecDepth 100000 in
theorem c_X12_greater (l : Launch) (D : va_G) (tys : List (ClassId × FieldType)) (base : Nat) (G : iv_G) (x_0 : Int32) (i_x_0 : iv_R (-2147483648) 2147483647 x_0) (x_1 : Int32) (i_x_1 : iv_R (-2147483648) 2147483647 x_1) : Met l yX12_greater (Cond.code yX12_greater cX12_greater 2 (some .int) :: iv_W0) ({ frames := 0, cells := 0, slots := 0, locals := 0 }) (iv_Pc iv_sh D classes tys base G [.int x_0, .int x_1]) (iv_Qi iv_sh D classes tys base (fun v G' => G = G' ∧ iv_R (-2147483648) 2147483647 v)) 0 0 (iv_A base) := by
  refine iv_head (by decide) (Nat.le_of_ble_eq_true rfl) ?_
  intro p e s m args below meth c ls X hr hlocks hname hB hl
  have X := X
  have hx := X.1.1
  have hb := X.1.2.1
  have hl : lv_has ls 2 [(0, .int x_0), (1, .int x_1)] := hl
  refine lv_iload_n hx hb dX12_greater_0 rfl (lv_at hl 0 rfl) ?_
  refine lv_iload_n hx hb dX12_greater_1 rfl (lv_at hl 1 rfl) ?_
  refine lv_icmp_le (tgt := 9) hx hb dX12_greater_2 (by decide) (fun c1 => ?_) (fun c1 => ?_)
  · skip
    refine lv_iload_n hx hb dX12_greater_9 rfl (lv_at hl 1 rfl) ?_
    exact iv_iret X hr hlocks hB ⟨rfl, i_x_1⟩ dX12_greater_10
  · skip
    have i1_x_1 : iv_R (-2147483648) 2147483646 x_1 := (i_x_1.cutHi (n := 2147483646) (iv_lt_r (iv_nle c1) i_x_0 (by decide)))
    have i2_x_0 : iv_R (-2147483647) 2147483647 x_0 := (i_x_0.cutLo (n := (-2147483647)) (iv_lt_l (iv_nle c1) i_x_1 (by decide)))
    refine lv_iload_n hx hb dX12_greater_5 rfl (lv_at hl 0 rfl) ?_
    refine lv_goto (tgt := 10) hx hb dX12_greater_6 (by decide) ?_
    exact iv_iret X hr hlocks hB ⟨rfl, (i2_x_0.wk (by decide))⟩ dX12_greater_10
theorem dX12_greaterPart_0 : decode cX12_greaterPart 0 = .ok (.iconst 0, 1) := by decide +kernel
theorem dX12_greaterPart_1 : decode cX12_greaterPart 1 = .ok (.istore_n 3, 1) := by decide +kernel
theorem dX12_greaterPart_2 : decode cX12_greaterPart 2 = .ok (.iconst 0, 1) := by decide +kernel
theorem dX12_greaterPart_3 : decode cX12_greaterPart 3 = .ok (.istore 4, 2) := by decide +kernel
theorem dX12_greaterPart_5 : decode cX12_greaterPart 5 = .ok (.iload 4, 2) := by decide +kernel
theorem dX12_greaterPart_7 : decode cX12_greaterPart 7 = .ok (.aload_n 0, 1) := by decide +kernel
theorem dX12_greaterPart_8 : decode cX12_greaterPart 8 = .ok (.getfield 7, 3) := by decide +kernel
theorem dX12_greaterPart_11 : decode cX12_greaterPart 11 = .ok (.sipush 146, 3) := by decide +kernel
theorem dX12_greaterPart_14 : decode cX12_greaterPart 14 = .ok (.iaload, 1) := by decide +kernel
theorem dX12_greaterPart_15 : decode cX12_greaterPart 15 = .ok (.if_icmp .ge 37, 3) := by decide +kernel
theorem dX12_greaterPart_18 : decode cX12_greaterPart 18 = .ok (.iload_n 3, 1) := by decide +kernel
theorem dX12_greaterPart_19 : decode cX12_greaterPart 19 = .ok (.iload_n 1, 1) := by decide +kernel
theorem dX12_greaterPart_20 : decode cX12_greaterPart 20 = .ok (.iload 4, 2) := by decide +kernel
theorem dX12_greaterPart_22 : decode cX12_greaterPart 22 = .ok (.ishr, 1) := by decide +kernel
theorem dX12_greaterPart_23 : decode cX12_greaterPart 23 = .ok (.iconst 1, 1) := by decide +kernel
theorem dX12_greaterPart_24 : decode cX12_greaterPart 24 = .ok (.iand, 1) := by decide +kernel
theorem dX12_greaterPart_25 : decode cX12_greaterPart 25 = .ok (.iconst 1, 1) := by decide +kernel
theorem dX12_greaterPart_26 : decode cX12_greaterPart 26 = .ok (.if_icmp .ne 17, 3) := by decide +kernel
theorem dX12_greaterPart_29 : decode cX12_greaterPart 29 = .ok (.aload_n 0, 1) := by decide +kernel
theorem dX12_greaterPart_30 : decode cX12_greaterPart 30 = .ok (.iload 4, 2) := by decide +kernel
theorem dX12_greaterPart_32 : decode cX12_greaterPart 32 = .ok (.iload_n 2, 1) := by decide +kernel
theorem dX12_greaterPart_33 : decode cX12_greaterPart 33 = .ok (.invokevirtual 299, 3) := by decide +kernel
theorem dX12_greaterPart_36 : decode cX12_greaterPart 36 = .ok (.ifCond .eq 7, 3) := by decide +kernel
theorem dX12_greaterPart_39 : decode cX12_greaterPart 39 = .ok (.iconst 1, 1) := by decide +kernel
theorem dX12_greaterPart_40 : decode cX12_greaterPart 40 = .ok (.goto 4, 3) := by decide +kernel
theorem dX12_greaterPart_43 : decode cX12_greaterPart 43 = .ok (.iconst 0, 1) := by decide +kernel
theorem dX12_greaterPart_44 : decode cX12_greaterPart 44 = .ok (.iadd, 1) := by decide +kernel
theorem dX12_greaterPart_45 : decode cX12_greaterPart 45 = .ok (.istore_n 3, 1) := by decide +kernel
theorem dX12_greaterPart_46 : decode cX12_greaterPart 46 = .ok (.iinc 4 1, 3) := by decide +kernel
theorem dX12_greaterPart_49 : decode cX12_greaterPart 49 = .ok (.goto (-44), 3) := by decide +kernel
theorem dX12_greaterPart_52 : decode cX12_greaterPart 52 = .ok (.iload_n 3, 1) := by decide +kernel
theorem dX12_greaterPart_53 : decode cX12_greaterPart 53 = .ok (.iload_n 1, 1) := by decide +kernel
theorem dX12_greaterPart_54 : decode cX12_greaterPart 54 = .ok (.invokestatic 320, 3) := by decide +kernel
theorem dX12_greaterPart_57 : decode cX12_greaterPart 57 = .ok (.iload_n 3, 1) := by decide +kernel
theorem dX12_greaterPart_58 : decode cX12_greaterPart 58 = .ok (.isub, 1) := by decide +kernel
theorem dX12_greaterPart_59 : decode cX12_greaterPart 59 = .ok (.invokestatic 279, 3) := by decide +kernel
theorem dX12_greaterPart_62 : decode cX12_greaterPart 62 = .ok (.ireturn, 1) := by decide +kernel
set_option maxHeartbeats 4000000 in
set_option maxRecDepth 100000 in
theorem c_X12_greaterPart (l : Launch) (D : va_G) (tys : List (ClassId × FieldType)) (base : Nat) (G : iv_G) (h0 : Nat) (g_h0 : Nat → Int32) (r_h0 : Nat → Nat) (a_h0 : G h0 = some (12, g_h0, r_h0)) (x_0 : Int32) (i_x_0 : iv_R 0 2047 x_0) (x_1 : Int32) (i_x_1 : iv_R 0 23 x_1) : Met l yX12_greaterPart (Cond.code yX12_greaterPart cX12_greaterPart 5 (some .int) :: iv_W0) ({ frames := 2, cells := 0, slots := 0, locals := 45 }) (iv_Pc iv_sh D classes tys base G [.ref h0, .int x_0, .int x_1]) (iv_Qi iv_sh D classes tys base (fun v G' => G = G' ∧ iv_R (-2147483648) 2147483647 v)) 0 0 (iv_A base) := by
  refine iv_head (by decide) (Nat.le_of_ble_eq_true rfl) ?_
  intro p e s m args below meth c ls X hr hlocks hname hB hl
  have X := X
  have hx := X.1.1
  have hb := X.1.2.1
  have hl : lv_has ls 5 [(0, .ref h0), (1, .int x_0), (2, .int x_1)] := hl
  refine lv_iconst (v := 0) hx hb dX12_greaterPart_0 (by decide) ?_
  refine lv_istore_n (lv' := [(3, .int 0), (0, .ref h0), (1, .int x_0), (2, .int x_1)]) hx hb dX12_greaterPart_1 rfl hl (by decide) rfl (fun ls hl => ?_)
  refine lv_iconst (v := 0) hx hb dX12_greaterPart_2 (by decide) ?_
  refine lv_istore (lv' := [(4, .int 0), (3, .int 0), (0, .ref h0), (1, .int x_0), (2, .int x_1)]) hx hb dX12_greaterPart_3 hl (by decide) rfl (fun ls hl => ?_)
  have L_5 : ∀ (n_5 : Nat) (H : Heap) (locs : List Loc) (hB : iv_B iv_sh D classes tys base G s.heap H locs) (x1 : Int32) (i_x1 : iv_R (-2147483648) 2147483647 x1) (x2 : Int32) (i_x2 : iv_R 0 10 x2) (hn_5 : (11 - x2.toInt).toNat < n_5) (ls : Array Slot) (hl : lv_has ls 5 [(4, .int x2), (3, .int x1), (0, .ref h0), (1, .int x_0), (2, .int x_1)]), W p l e ({ frames := 2, cells := 0, slots := 0, locals := 45 } : Room) s m args below meth c H locs 0 0 (MQ below (iv_Qi iv_sh D classes tys base (fun v G' => G = G' ∧ iv_R (-2147483648) 2147483647 v)) args s 0 0 (iv_A base)) (F0 m 5 ls []) := by
    intro n_5
    induction n_5 with
    | zero => intro H locs hB x1 i_x1 x2 i_x2 hn_5 ls hl; exact absurd hn_5 (Nat.not_lt_zero _)
    | succ n_5 ih_5 =>
      intro H locs hB x1 i_x1 x2 i_x2 hn_5 ls hl
      refine lv_iload hx hb dX12_greaterPart_5 (lv_at hl 0 rfl) ?_
      refine lv_aload_n hx hb dX12_greaterPart_7 rfl (lv_at hl 2 rfl) ?_
      refine iv_getr X ft_X12 hB a_h0 sh_12 0 (by decide) rfl k_fl_X12_7 dX12_greaterPart_8 (fun b3 g_b3 r_b3 e_b3 a_b3 => ?_)
      refine lv_sipush (v := 146) hx hb dX12_greaterPart_11 (by decide) ?_
      refine iv_wald_c X hB a_b3 q_146 (by decide) (lo := 0) (hi' := 10) (by decide) dX12_greaterPart_14 (fun x4 e_x4 i_x4 => ?_)
      refine lv_icmp_ge (tgt := 52) hx hb dX12_greaterPart_15 (by decide) (fun c5 => ?_) (fun c5 => ?_)
      · skip
        refine lv_iload_n hx hb dX12_greaterPart_52 rfl (lv_at hl 1 rfl) ?_
        refine lv_iload_n hx hb dX12_greaterPart_53 rfl (lv_at hl 3 rfl) ?_
        refine iv_cSi X k_good k_mf_X12_count k_st_X12_count k_ml_X12_320 hB (As := [.int x_0]) (c_X12_count l D tys base G x_0 (i_x_0.wk (by decide))) ⟨rfl, rfl⟩ ⟨Nat.le_of_ble_eq_true rfl, Nat.le_of_ble_eq_true rfl⟩ ⟨Nat.le_of_ble_eq_true rfl, Nat.le_of_ble_eq_true rfl⟩ rfl rfl hl.1 (Nat.le_of_ble_eq_true rfl) dX12_greaterPart_54 (fun x6 G9 H locs hq hB => ?_)
        obtain ⟨rfl, i_x6⟩ := hq
        refine lv_iload_n hx hb dX12_greaterPart_57 rfl (lv_at hl 1 rfl) ?_
        refine lv_isub hx hb dX12_greaterPart_58 ?_
        refine lv_topi (fun x7 e_x7 => ?_)
        have i_x7 := iv_R.all x7
        refine iv_cSi X k_good k_mf_X12_greater k_st_X12_greater k_ml_X12_279 hB (As := [.int x1, .int x7]) (c_X12_greater l D tys base G x1 i_x1 x7 i_x7) ⟨rfl, rfl⟩ ⟨Nat.le_of_ble_eq_true rfl, Nat.le_of_ble_eq_true rfl⟩ ⟨Nat.le_of_ble_eq_true rfl, Nat.le_of_ble_eq_true rfl⟩ rfl rfl hl.1 (Nat.le_of_ble_eq_true rfl) dX12_greaterPart_59 (fun x8 G9 H locs hq hB => ?_)
        obtain ⟨rfl, i_x8⟩ := hq
        exact iv_iret X hr hlocks hB ⟨rfl, i_x8⟩ dX12_greaterPart_62
      · skip
        have i8_x2 : iv_R 0 9 x2 := (i_x2.cutHi (n := 9) (iv_lt_r (iv_nle c5) i_x4 (by decide)))
        have i9_x4 : iv_R 1 10 x4 := (i_x4.cutLo (n := 1) (iv_lt_l (iv_nle c5) i_x2 (by decide)))
        refine lv_iload_n hx hb dX12_greaterPart_18 rfl (lv_at hl 1 rfl) ?_
        refine lv_iload_n hx hb dX12_greaterPart_19 rfl (lv_at hl 3 rfl) ?_
        refine lv_iload hx hb dX12_greaterPart_20 (lv_at hl 0 rfl) ?_
        refine lv_ishr hx hb dX12_greaterPart_22 ?_
        refine lv_topi (fun x11 e_x11 => ?_)
        have i_x11 := iv_R.all x11
        refine lv_iconst (v := 1) hx hb dX12_greaterPart_23 (by decide) ?_
        refine iv_iand_r hx hb q_1 (by decide) dX12_greaterPart_24 (fun x12 e_x12 i_x12 => ?_)
        refine lv_iconst (v := 1) hx hb dX12_greaterPart_25 (by decide) ?_
        refine lv_icmp_ne (tgt := 43) hx hb dX12_greaterPart_26 (by decide) (fun c13 => ?_) (fun c13 => ?_)
        · skip
          have i13_x12 : iv_R 0 0 x12 := iv_ne_hi c13 i_x12 q_1 (by decide)
          refine lv_iconst (v := 0) hx hb dX12_greaterPart_43 (by decide) ?_
          refine iv_iadd hx hb i_x1 q_0 (lo := (-2147483648)) (hi := 2147483647) (by decide) dX12_greaterPart_44 (fun x15 e_x15 i_x15 => ?_)
          refine lv_istore_n (lv' := [(3, .int x15), (4, .int x2), (0, .ref h0), (1, .int x_0), (2, .int x_1)]) hx hb dX12_greaterPart_45 rfl hl (by decide) rfl (fun ls hl => ?_)
          refine iv_iinc hx hb i8_x2 (lo := 1) (hi := 10) (by decide) dX12_greaterPart_46 hl (k := 1) rfl (by decide) (fun x16 ls e_x16 i_x16 hl => ?_)
          have hl : lv_has ls 5 [(4, .int x16), (3, .int x15), (0, .ref h0), (1, .int x_0), (2, .int x_1)] := hl
          refine lv_goto (tgt := 5) hx hb dX12_greaterPart_49 (by decide) ?_
          exact ih_5 _ _ hB x15 i_x15 x16 (i_x16.wk (by decide)) (iv_mup (c := 1) i_x2 (by decide) (by decide) (by omega) hn_5) _ (lv_sub hl [0, 1, 2, 3, 4] rfl)
        · skip
          have i16_x12 : iv_R 1 1 x12 := (i_x12.cutLo (n := 1) (iv_eq_r c13 q_1).1)
          refine lv_aload_n hx hb dX12_greaterPart_29 rfl (lv_at hl 2 rfl) ?_
          refine lv_iload hx hb dX12_greaterPart_30 (lv_at hl 0 rfl) ?_
          refine lv_iload_n hx hb dX12_greaterPart_32 rfl (lv_at hl 4 rfl) ?_
          refine iv_cVi X k_good k_mf_X12_hasLine k_im_X12_hasLine k_sel_X12_hasLine k_ml_X12_299 ft_X12 hB a_h0 sh_12 (As := [.int x2, .int x_1]) (c_X12_hasLine l D tys base G h0 g_h0 r_h0 a_h0 x2 i8_x2 x_1 (i_x_1.wk (by decide))) ⟨rfl, rfl⟩ ⟨Nat.le_of_ble_eq_true rfl, Nat.le_of_ble_eq_true rfl⟩ ⟨Nat.le_of_ble_eq_true rfl, Nat.le_of_ble_eq_true rfl⟩ rfl rfl hl.1 (Nat.le_of_ble_eq_true rfl) dX12_greaterPart_33 (fun x18 G9 H locs hq hB => ?_)
          obtain ⟨rfl, i_x18⟩ := hq
          refine lv_if_eq (tgt := 43) hx hb dX12_greaterPart_36 (by decide) (fun c19 => ?_) (fun c19 => ?_)
          · skip
            have i19_x18 : iv_R 0 0 x18 := (i_x18.cutHi (n := 0) (iv_eq_r c19 q_0).2)
            refine lv_iconst (v := 0) hx hb dX12_greaterPart_43 (by decide) ?_
            refine iv_iadd hx hb i_x1 q_0 (lo := (-2147483648)) (hi := 2147483647) (by decide) dX12_greaterPart_44 (fun x21 e_x21 i_x21 => ?_)
            refine lv_istore_n (lv' := [(3, .int x21), (4, .int x2), (0, .ref h0), (1, .int x_0), (2, .int x_1)]) hx hb dX12_greaterPart_45 rfl hl (by decide) rfl (fun ls hl => ?_)
            refine iv_iinc hx hb i8_x2 (lo := 1) (hi := 10) (by decide) dX12_greaterPart_46 hl (k := 1) rfl (by decide) (fun x22 ls e_x22 i_x22 hl => ?_)
            have hl : lv_has ls 5 [(4, .int x22), (3, .int x21), (0, .ref h0), (1, .int x_0), (2, .int x_1)] := hl
            refine lv_goto (tgt := 5) hx hb dX12_greaterPart_49 (by decide) ?_
            exact ih_5 _ _ hB x21 i_x21 x22 (i_x22.wk (by decide)) (iv_mup (c := 1) i_x2 (by decide) (by decide) (by omega) hn_5) _ (lv_sub hl [0, 1, 2, 3, 4] rfl)
          · skip
            have i22_x18 : iv_R 1 1 x18 := iv_ne_lo c19 i_x18 q_0 (by decide)
            refine lv_iconst (v := 1) hx hb dX12_greaterPart_39 (by decide) ?_
            refine lv_goto (tgt := 44) hx hb dX12_greaterPart_40 (by decide) ?_
            refine lv_iadd hx hb dX12_greaterPart_44 ?_
            refine lv_topi (fun x24 e_x24 => ?_)
            have i_x24 := iv_R.all x24
            refine lv_istore_n (lv' := [(3, .int x24), (4, .int x2), (0, .ref h0), (1, .int x_0), (2, .int x_1)]) hx hb dX12_greaterPart_45 rfl hl (by decide) rfl (fun ls hl => ?_)
            refine iv_iinc hx hb i8_x2 (lo := 1) (hi := 10) (by decide) dX12_greaterPart_46 hl (k := 1) rfl (by decide) (fun x25 ls e_x25 i_x25 hl => ?_)
            have hl : lv_has ls 5 [(4, .int x25), (3, .int x24), (0, .ref h0), (1, .int x_0), (2, .int x_1)] := hl
            refine lv_goto (tgt := 5) hx hb dX12_greaterPart_49 (by decide) ?_
            exact ih_5 _ _ hB x24 i_x24 x25 (i_x25.wk (by decide)) (iv_mup (c := 1) i_x2 (by decide) (by decide) (by omega) hn_5) _ (lv_sub hl [0, 1, 2, 3, 4] rfl)
  exact L_5 _ _ _ hB 0 (q_0.wk (by decide)) 0 (q_0.wk (by decide)) (Nat.lt_succ_self _) _ (lv_sub hl [0, 1, 2, 3, 4] rfl)
theorem dX12_isChild_0 : decode cX12_isChild 0 = .ok (.iload_n 1, 1) := by decide +kernel
theorem dX12_isChild_1 : decode cX12_isChild 1 = .ok (.iconst 0, 1) := by decide +kernel
theorem dX12_isChild_2 : decode cX12_isChild 2 = .ok (.aload_n 0, 1) := by decide +kernel
theorem dX12_isChild_3 : decode cX12_isChild 3 = .ok (.getfield 7, 3) := by decide +kernel
theorem dX12_isChild_6 : decode cX12_isChild 6 = .ok (.iconst 4, 1) := by decide +kernel
theorem dX12_isChild_7 : decode cX12_isChild 7 = .ok (.iaload, 1) := by decide +kernel
theorem dX12_isChild_8 : decode cX12_isChild 8 = .ok (.iconst 1, 1) := by decide +kernel
theorem dX12_isChild_9 : decode cX12_isChild 9 = .ok (.isub, 1) := by decide +kernel
theorem dX12_isChild_10 : decode cX12_isChild 10 = .ok (.invokestatic 56, 3) := by decide +kernel
theorem dX12_isChild_13 : decode cX12_isChild 13 = .ok (.ireturn, 1) := by decide +kernel
set_option maxHeartbeats 4000000 in
set_option maxRecDepth 100000 in
theorem c_X12_isChild (l : Launch) (D : va_G) (tys : List (ClassId × FieldType)) (base : Nat) (G : iv_G) (h0 : Nat) (g_h0 : Nat → Int32) (r_h0 : Nat → Nat) (a_h0 : G h0 = some (12, g_h0, r_h0)) (x_0 : Int32) (i_x_0 : iv_R (-2147483648) 2147483647 x_0) : Met l yX12_isChild (Cond.code yX12_isChild cX12_isChild 2 (some .boolean) :: iv_W0) ({ frames := 1, cells := 0, slots := 0, locals := 22 }) (iv_Pc iv_sh D classes tys base G [.ref h0, .int x_0]) (iv_Qi iv_sh D classes tys base (fun v G' => G = G' ∧ iv_R 0 1 v ∧ (¬ v = 0 → iv_R 0 19 x_0))) 0 0 (iv_A base) := by
  refine iv_head (by decide) (Nat.le_of_ble_eq_true rfl) ?_
  intro p e s m args below meth c ls X hr hlocks hname hB hl
  have X := X
  have hx := X.1.1
  have hb := X.1.2.1
  have hl : lv_has ls 2 [(0, .ref h0), (1, .int x_0)] := hl
  refine lv_iload_n hx hb dX12_isChild_0 rfl (lv_at hl 1 rfl) ?_
  refine lv_iconst (v := 0) hx hb dX12_isChild_1 (by decide) ?_
  refine lv_aload_n hx hb dX12_isChild_2 rfl (lv_at hl 0 rfl) ?_
  refine iv_getr X ft_X12 hB a_h0 sh_12 0 (by decide) rfl k_fl_X12_7 dX12_isChild_3 (fun b1 g_b1 r_b1 e_b1 a_b1 => ?_)
  refine lv_iconst (v := 4) hx hb dX12_isChild_6 (by decide) ?_
  refine iv_wald_c X hB a_b1 q_4 (by decide) (lo := 0) (hi' := 20) (by decide) dX12_isChild_7 (fun x2 e_x2 i_x2 => ?_)
  refine lv_iconst (v := 1) hx hb dX12_isChild_8 (by decide) ?_
  refine iv_isub hx hb i_x2 q_1 (lo := (-1)) (hi := 19) (by decide) dX12_isChild_9 (fun x3 e_x3 i_x3 => ?_)
  refine iv_cSi X k_good k_mf_X12_isIn k_st_X12_isIn k_ml_X12_56 hB (As := [.int x_0, .int 0, .int x3]) (c_X12_isIn l D tys base G x_0 i_x_0 0 (q_0.wk (by decide)) x3 (i_x3.wk (by decide))) ⟨rfl, rfl⟩ ⟨Nat.le_of_ble_eq_true rfl, Nat.le_of_ble_eq_true rfl⟩ ⟨Nat.le_of_ble_eq_true rfl, Nat.le_of_ble_eq_true rfl⟩ rfl rfl hl.1 (Nat.le_of_ble_eq_true rfl) dX12_isChild_10 (fun x4 G9 H locs hq hB => ?_)
  obtain ⟨rfl, i_x4, hp5⟩ := hq
  have k6 : ¬ x4 = 0 → iv_R 0 19 x_0 := fun h => ⟨iv_max i_x_0.1 (Int.le_trans q_0.1 (hp5.1 h).1) (by decide), iv_min i_x_0.2 (Int.le_trans (hp5.1 h).2 i_x3.2) (by decide)⟩
  exact iv_zret X hr hlocks hB i_x4 ⟨rfl, i_x4, fun h => (k6 h).wk (by decide)⟩ dX12_isChild_13
theorem dX12_ask_0 : decode cX12_ask 0 = .ok (.aload_n 0, 1) := by decide +kernel
theorem dX12_ask_1 : decode cX12_ask 1 = .ok (.iload_n 1, 1) := by decide +kernel
theorem dX12_ask_2 : decode cX12_ask 2 = .ok (.invokevirtual 338, 3) := by decide +kernel
theorem dX12_ask_5 : decode cX12_ask 5 = .ok (.ifCond .eq 15, 3) := by decide +kernel
theorem dX12_ask_8 : decode cX12_ask 8 = .ok (.aload_n 0, 1) := by decide +kernel
theorem dX12_ask_9 : decode cX12_ask 9 = .ok (.iload_n 1, 1) := by decide +kernel
theorem dX12_ask_10 : decode cX12_ask 10 = .ok (.invokevirtual 438, 3) := by decide +kernel
theorem dX12_ask_13 : decode cX12_ask 13 = .ok (.invokestatic 320, 3) := by decide +kernel
theorem dX12_ask_16 : decode cX12_ask 16 = .ok (.iconst 2, 1) := by decide +kernel
theorem dX12_ask_17 : decode cX12_ask 17 = .ok (.if_icmp .ge 5, 3) := by decide +kernel
theorem dX12_ask_20 : decode cX12_ask 20 = .ok (.iconst (-1), 1) := by decide +kernel
theorem dX12_ask_21 : decode cX12_ask 21 = .ok (.ireturn, 1) := by decide +kernel
theorem dX12_ask_22 : decode cX12_ask 22 = .ok (.aload_n 0, 1) := by decide +kernel
theorem dX12_ask_23 : decode cX12_ask 23 = .ok (.iload_n 1, 1) := by decide +kernel
theorem dX12_ask_24 : decode cX12_ask 24 = .ok (.invokevirtual 438, 3) := by decide +kernel
theorem dX12_ask_27 : decode cX12_ask 27 = .ok (.istore_n 2, 1) := by decide +kernel
theorem dX12_ask_28 : decode cX12_ask 28 = .ok (.iconst 0, 1) := by decide +kernel
theorem dX12_ask_29 : decode cX12_ask 29 = .ok (.istore_n 3, 1) := by decide +kernel
theorem dX12_ask_30 : decode cX12_ask 30 = .ok (.iconst 1, 1) := by decide +kernel
theorem dX12_ask_31 : decode cX12_ask 31 = .ok (.istore 4, 2) := by decide +kernel
theorem dX12_ask_33 : decode cX12_ask 33 = .ok (.iload 4, 2) := by decide +kernel
theorem dX12_ask_35 : decode cX12_ask 35 = .ok (.bipush 24, 2) := by decide +kernel
theorem dX12_ask_37 : decode cX12_ask 37 = .ok (.if_icmp .ge 28, 3) := by decide +kernel
theorem dX12_ask_40 : decode cX12_ask 40 = .ok (.aload_n 0, 1) := by decide +kernel
theorem dX12_ask_41 : decode cX12_ask 41 = .ok (.iload_n 2, 1) := by decide +kernel
theorem dX12_ask_42 : decode cX12_ask 42 = .ok (.iload 4, 2) := by decide +kernel
theorem dX12_ask_44 : decode cX12_ask 44 = .ok (.invokevirtual 441, 3) := by decide +kernel
theorem dX12_ask_47 : decode cX12_ask 47 = .ok (.aload_n 0, 1) := by decide +kernel
theorem dX12_ask_48 : decode cX12_ask 48 = .ok (.iload_n 2, 1) := by decide +kernel
theorem dX12_ask_49 : decode cX12_ask 49 = .ok (.iload_n 3, 1) := by decide +kernel
theorem dX12_ask_50 : decode cX12_ask 50 = .ok (.invokevirtual 441, 3) := by decide +kernel
theorem dX12_ask_53 : decode cX12_ask 53 = .ok (.if_icmp .ge 6, 3) := by decide +kernel
theorem dX12_ask_56 : decode cX12_ask 56 = .ok (.iload 4, 2) := by decide +kernel
theorem dX12_ask_58 : decode cX12_ask 58 = .ok (.istore_n 3, 1) := by decide +kernel
theorem dX12_ask_59 : decode cX12_ask 59 = .ok (.iinc 4 1, 3) := by decide +kernel
theorem dX12_ask_62 : decode cX12_ask 62 = .ok (.goto (-29), 3) := by decide +kernel
theorem dX12_ask_65 : decode cX12_ask 65 = .ok (.iload_n 3, 1) := by decide +kernel
theorem dX12_ask_66 : decode cX12_ask 66 = .ok (.ireturn, 1) := by decide +kernel
set_option maxHeartbeats 4000000 in
set_option maxRecDepth 100000 in
theorem c_X12_ask (l : Launch) (D : va_G) (tys : List (ClassId × FieldType)) (base : Nat) (G : iv_G) (h0 : Nat) (g_h0 : Nat → Int32) (r_h0 : Nat → Nat) (a_h0 : G h0 = some (12, g_h0, r_h0)) (x_0 : Int32) (i_x_0 : iv_R (-2147483648) 2147483647 x_0) : Met l yX12_ask (Cond.code yX12_ask cX12_ask 5 (some .int) :: iv_W0) ({ frames := 4, cells := 0, slots := 0, locals := 92 }) (iv_Pc iv_sh D classes tys base G [.ref h0, .int x_0]) (iv_Qi iv_sh D classes tys base (fun v G' => G = G' ∧ iv_R (-1) 23 v)) 0 0 (iv_A base) := by
  refine iv_head (by decide) (Nat.le_of_ble_eq_true rfl) ?_
  intro p e s m args below meth c ls X hr hlocks hname hB hl
  have X := X
  have hx := X.1.1
  have hb := X.1.2.1
  have hl : lv_has ls 5 [(0, .ref h0), (1, .int x_0)] := hl
  refine lv_aload_n hx hb dX12_ask_0 rfl (lv_at hl 0 rfl) ?_
  refine lv_iload_n hx hb dX12_ask_1 rfl (lv_at hl 1 rfl) ?_
  refine iv_cVi X k_good k_mf_X12_isChild k_im_X12_isChild k_sel_X12_isChild k_ml_X12_338 ft_X12 hB a_h0 sh_12 (As := [.int x_0]) (c_X12_isChild l D tys base G h0 g_h0 r_h0 a_h0 x_0 i_x_0) ⟨rfl, rfl⟩ ⟨Nat.le_of_ble_eq_true rfl, Nat.le_of_ble_eq_true rfl⟩ ⟨Nat.le_of_ble_eq_true rfl, Nat.le_of_ble_eq_true rfl⟩ rfl rfl hl.1 (Nat.le_of_ble_eq_true rfl) dX12_ask_2 (fun x1 G9 H locs hq hB => ?_)
  obtain ⟨rfl, i_x1, hp2⟩ := hq
  refine lv_if_eq (tgt := 20) hx hb dX12_ask_5 (by decide) (fun c3 => ?_) (fun c3 => ?_)
  · skip
    have i3_x1 : iv_R 0 0 x1 := (i_x1.cutHi (n := 0) (iv_eq_r c3 q_0).2)
    refine lv_iconst (v := (-1)) hx hb dX12_ask_20 (by decide) ?_
    exact iv_iret X hr hlocks hB ⟨rfl, (q_n1.wk (by decide))⟩ dX12_ask_21
  · skip
    have i4_x1 : iv_R 1 1 x1 := iv_ne_lo c3 i_x1 q_0 (by decide)
    have i5_x_0 : iv_R 0 19 x_0 := ((i_x_0.cutLo (n := 0) (hp2 c3).1).cutHi (n := 19) (hp2 c3).2)
    refine lv_aload_n hx hb dX12_ask_8 rfl (lv_at hl 0 rfl) ?_
    refine lv_iload_n hx hb dX12_ask_9 rfl (lv_at hl 1 rfl) ?_
    refine iv_cVi X k_good k_mf_X12_fitsOf k_im_X12_fitsOf k_sel_X12_fitsOf k_ml_X12_438 ft_X12 hB a_h0 sh_12 (As := [.int x_0]) (c_X12_fitsOf l D tys base G h0 g_h0 r_h0 a_h0 x_0 i5_x_0) ⟨rfl, rfl⟩ ⟨Nat.le_of_ble_eq_true rfl, Nat.le_of_ble_eq_true rfl⟩ ⟨Nat.le_of_ble_eq_true rfl, Nat.le_of_ble_eq_true rfl⟩ rfl rfl hl.1 (Nat.le_of_ble_eq_true rfl) dX12_ask_10 (fun x7 G9 H locs hq hB => ?_)
    obtain ⟨rfl, i_x7⟩ := hq
    refine iv_cSi X k_good k_mf_X12_count k_st_X12_count k_ml_X12_320 hB (As := [.int x7]) (c_X12_count l D tys base G x7 (i_x7.wk (by decide))) ⟨rfl, rfl⟩ ⟨Nat.le_of_ble_eq_true rfl, Nat.le_of_ble_eq_true rfl⟩ ⟨Nat.le_of_ble_eq_true rfl, Nat.le_of_ble_eq_true rfl⟩ rfl rfl hl.1 (Nat.le_of_ble_eq_true rfl) dX12_ask_13 (fun x8 G9 H locs hq hB => ?_)
    obtain ⟨rfl, i_x8⟩ := hq
    refine lv_iconst (v := 2) hx hb dX12_ask_16 (by decide) ?_
    refine lv_icmp_ge (tgt := 22) hx hb dX12_ask_17 (by decide) (fun c9 => ?_) (fun c9 => ?_)
    · skip
      have i9_x8 : iv_R 2 2147483647 x8 := (i_x8.cutLo (n := 2) (iv_le_l c9 q_2))
      refine lv_aload_n hx hb dX12_ask_22 rfl (lv_at hl 0 rfl) ?_
      refine lv_iload_n hx hb dX12_ask_23 rfl (lv_at hl 1 rfl) ?_
      refine iv_cVi X k_good k_mf_X12_fitsOf k_im_X12_fitsOf k_sel_X12_fitsOf k_ml_X12_438 ft_X12 hB a_h0 sh_12 (As := [.int x_0]) (c_X12_fitsOf l D tys base G h0 g_h0 r_h0 a_h0 x_0 i5_x_0) ⟨rfl, rfl⟩ ⟨Nat.le_of_ble_eq_true rfl, Nat.le_of_ble_eq_true rfl⟩ ⟨Nat.le_of_ble_eq_true rfl, Nat.le_of_ble_eq_true rfl⟩ rfl rfl hl.1 (Nat.le_of_ble_eq_true rfl) dX12_ask_24 (fun x11 G9 H locs hq hB => ?_)
      obtain ⟨rfl, i_x11⟩ := hq
      refine lv_istore_n (lv' := [(2, .int x11), (0, .ref h0), (1, .int x_0)]) hx hb dX12_ask_27 rfl hl (by decide) rfl (fun ls hl => ?_)
      refine lv_iconst (v := 0) hx hb dX12_ask_28 (by decide) ?_
      refine lv_istore_n (lv' := [(3, .int 0), (2, .int x11), (0, .ref h0), (1, .int x_0)]) hx hb dX12_ask_29 rfl hl (by decide) rfl (fun ls hl => ?_)
      refine lv_iconst (v := 1) hx hb dX12_ask_30 (by decide) ?_
      refine lv_istore (lv' := [(4, .int 1), (3, .int 0), (2, .int x11), (0, .ref h0), (1, .int x_0)]) hx hb dX12_ask_31 hl (by decide) rfl (fun ls hl => ?_)
      have L_33 : ∀ (n_33 : Nat) (H : Heap) (locs : List Loc) (hB : iv_B iv_sh D classes tys base G s.heap H locs) (x12 : Int32) (i_x12 : iv_R 0 23 x12) (x13 : Int32) (i_x13 : iv_R 1 24 x13) (hn_33 : (25 - x13.toInt).toNat < n_33) (ls : Array Slot) (hl : lv_has ls 5 [(4, .int x13), (3, .int x12), (2, .int x11), (0, .ref h0)]), W p l e ({ frames := 4, cells := 0, slots := 0, locals := 92 } : Room) s m args below meth c H locs 0 0 (MQ below (iv_Qi iv_sh D classes tys base (fun v G' => G = G' ∧ iv_R (-1) 23 v)) args s 0 0 (iv_A base)) (F0 m 33 ls []) := by
        intro n_33
        induction n_33 with
        | zero => intro H locs hB x12 i_x12 x13 i_x13 hn_33 ls hl; exact absurd hn_33 (Nat.not_lt_zero _)
        | succ n_33 ih_33 =>
          intro H locs hB x12 i_x12 x13 i_x13 hn_33 ls hl
          refine lv_iload hx hb dX12_ask_33 (lv_at hl 0 rfl) ?_
          refine lv_bipush (v := 24) hx hb dX12_ask_35 (by decide) ?_
          refine lv_icmp_ge (tgt := 65) hx hb dX12_ask_37 (by decide) (fun c14 => ?_) (fun c14 => ?_)
          · skip
            have i14_x13 : iv_R 24 24 x13 := (i_x13.cutLo (n := 24) (iv_le_l c14 q_24))
            refine lv_iload_n hx hb dX12_ask_65 rfl (lv_at hl 1 rfl) ?_
            exact iv_iret X hr hlocks hB ⟨rfl, (i_x12.wk (by decide))⟩ dX12_ask_66
          · skip
            have i15_x13 : iv_R 1 23 x13 := (i_x13.cutHi (n := 23) (iv_lt_r (iv_nle c14) q_24 (by decide)))
            refine lv_aload_n hx hb dX12_ask_40 rfl (lv_at hl 3 rfl) ?_
            refine lv_iload_n hx hb dX12_ask_41 rfl (lv_at hl 2 rfl) ?_
            refine lv_iload hx hb dX12_ask_42 (lv_at hl 0 rfl) ?_
            refine iv_cVi X k_good k_mf_X12_greaterPart k_im_X12_greaterPart k_sel_X12_greaterPart k_ml_X12_441 ft_X12 hB a_h0 sh_12 (As := [.int x11, .int x13]) (c_X12_greaterPart l D tys base G h0 g_h0 r_h0 a_h0 x11 i_x11 x13 (i15_x13.wk (by decide))) ⟨rfl, rfl⟩ ⟨Nat.le_of_ble_eq_true rfl, Nat.le_of_ble_eq_true rfl⟩ ⟨Nat.le_of_ble_eq_true rfl, Nat.le_of_ble_eq_true rfl⟩ rfl rfl hl.1 (Nat.le_of_ble_eq_true rfl) dX12_ask_44 (fun x17 G9 H locs hq hB => ?_)
            obtain ⟨rfl, i_x17⟩ := hq
            refine lv_aload_n hx hb dX12_ask_47 rfl (lv_at hl 3 rfl) ?_
            refine lv_iload_n hx hb dX12_ask_48 rfl (lv_at hl 2 rfl) ?_
            refine lv_iload_n hx hb dX12_ask_49 rfl (lv_at hl 1 rfl) ?_
            refine iv_cVi X k_good k_mf_X12_greaterPart k_im_X12_greaterPart k_sel_X12_greaterPart k_ml_X12_441 ft_X12 hB a_h0 sh_12 (As := [.int x11, .int x12]) (c_X12_greaterPart l D tys base G h0 g_h0 r_h0 a_h0 x11 i_x11 x12 i_x12) ⟨rfl, rfl⟩ ⟨Nat.le_of_ble_eq_true rfl, Nat.le_of_ble_eq_true rfl⟩ ⟨Nat.le_of_ble_eq_true rfl, Nat.le_of_ble_eq_true rfl⟩ rfl rfl hl.1 (Nat.le_of_ble_eq_true rfl) dX12_ask_50 (fun x18 G9 H locs hq hB => ?_)
            obtain ⟨rfl, i_x18⟩ := hq
            refine lv_icmp_ge (tgt := 59) hx hb dX12_ask_53 (by decide) (fun c19 => ?_) (fun c19 => ?_)
            · skip
              refine iv_iinc hx hb i15_x13 (lo := 2) (hi := 24) (by decide) dX12_ask_59 hl (k := 0) rfl (by decide) (fun x20 ls e_x20 i_x20 hl => ?_)
              have hl : lv_has ls 5 [(4, .int x20), (3, .int x12), (2, .int x11), (0, .ref h0)] := hl
              refine lv_goto (tgt := 33) hx hb dX12_ask_62 (by decide) ?_
              exact ih_33 _ _ hB x12 i_x12 x20 (i_x20.wk (by decide)) (iv_mup (c := 1) i_x13 (by decide) (by decide) (by omega) hn_33) _ (lv_sub hl [0, 1, 2, 3] rfl)
            · skip
              have i20_x17 : iv_R (-2147483648) 2147483646 x17 := (i_x17.cutHi (n := 2147483646) (iv_lt_r (iv_nle c19) i_x18 (by decide)))
              have i21_x18 : iv_R (-2147483647) 2147483647 x18 := (i_x18.cutLo (n := (-2147483647)) (iv_lt_l (iv_nle c19) i_x17 (by decide)))
              refine lv_iload hx hb dX12_ask_56 (lv_at hl 0 rfl) ?_
              refine lv_istore_n (lv' := [(3, .int x13), (4, .int x13), (2, .int x11), (0, .ref h0)]) hx hb dX12_ask_58 rfl hl (by decide) rfl (fun ls hl => ?_)
              refine iv_iinc hx hb i15_x13 (lo := 2) (hi := 24) (by decide) dX12_ask_59 hl (k := 1) rfl (by decide) (fun x23 ls e_x23 i_x23 hl => ?_)
              have hl : lv_has ls 5 [(4, .int x23), (3, .int x13), (2, .int x11), (0, .ref h0)] := hl
              refine lv_goto (tgt := 33) hx hb dX12_ask_62 (by decide) ?_
              exact ih_33 _ _ hB x13 (i15_x13.wk (by decide)) x23 (i_x23.wk (by decide)) (iv_mup (c := 1) i_x13 (by decide) (by decide) (by omega) hn_33) _ (lv_sub hl [0, 1, 2, 3] rfl)
      exact L_33 _ _ _ hB 0 (q_0.wk (by decide)) 1 (q_1.wk (by decide)) (Nat.lt_succ_self _) _ (lv_sub hl [0, 1, 2, 3] rfl)
    · skip
      have i23_x8 : iv_R (-2147483648) 1 x8 := (i_x8.cutHi (n := 1) (iv_lt_r (iv_nle c9) q_2 (by decide)))
      refine lv_iconst (v := (-1)) hx hb dX12_ask_20 (by decide) ?_
      exact iv_iret X hr hlocks hB ⟨rfl, (q_n1.wk (by decide))⟩ dX12_ask_21
theorem dX12_asked_0 : decode cX12_asked 0 = .ok (.aload_n 0, 1) := by decide +kernel
theorem dX12_asked_1 : decode cX12_asked 1 = .ok (.ldc 110, 2) := by decide +kernel
theorem dX12_asked_3 : decode cX12_asked 3 = .ok (.invokevirtual 103, 3) := by decide +kernel
theorem dX12_asked_6 : decode cX12_asked 6 = .ok (.ifCond .eq 6, 3) := by decide +kernel
theorem dX12_asked_9 : decode cX12_asked 9 = .ok (.bipush 41, 2) := by decide +kernel
theorem dX12_asked_11 : decode cX12_asked 11 = .ok (.ireturn, 1) := by decide +kernel
theorem dX12_asked_12 : decode cX12_asked 12 = .ok (.aload_n 0, 1) := by decide +kernel
theorem dX12_asked_13 : decode cX12_asked 13 = .ok (.ldc 112, 2) := by decide +kernel
theorem dX12_asked_15 : decode cX12_asked 15 = .ok (.invokevirtual 103, 3) := by decide +kernel
theorem dX12_asked_18 : decode cX12_asked 18 = .ok (.ifCond .eq 6, 3) := by decide +kernel
theorem dX12_asked_21 : decode cX12_asked 21 = .ok (.bipush 42, 2) := by decide +kernel
theorem dX12_asked_23 : decode cX12_asked 23 = .ok (.ireturn, 1) := by decide +kernel
theorem dX12_asked_24 : decode cX12_asked 24 = .ok (.aload_n 0, 1) := by decide +kernel
theorem dX12_asked_25 : decode cX12_asked 25 = .ok (.ldc 114, 2) := by decide +kernel
theorem dX12_asked_27 : decode cX12_asked 27 = .ok (.invokevirtual 103, 3) := by decide +kernel
theorem dX12_asked_30 : decode cX12_asked 30 = .ok (.ifCond .eq 6, 3) := by decide +kernel
theorem dX12_asked_33 : decode cX12_asked 33 = .ok (.bipush 43, 2) := by decide +kernel
theorem dX12_asked_35 : decode cX12_asked 35 = .ok (.ireturn, 1) := by decide +kernel
theorem dX12_asked_36 : decode cX12_asked 36 = .ok (.aload_n 0, 1) := by decide +kernel
theorem dX12_asked_37 : decode cX12_asked 37 = .ok (.ldc 116, 2) := by decide +kernel
theorem dX12_asked_39 : decode cX12_asked 39 = .ok (.invokevirtual 103, 3) := by decide +kernel
theorem dX12_asked_42 : decode cX12_asked 42 = .ok (.ifCond .eq 6, 3) := by decide +kernel
theorem dX12_asked_45 : decode cX12_asked 45 = .ok (.bipush 44, 2) := by decide +kernel
theorem dX12_asked_47 : decode cX12_asked 47 = .ok (.ireturn, 1) := by decide +kernel
theorem dX12_asked_48 : decode cX12_asked 48 = .ok (.aload_n 0, 1) := by decide +kernel
theorem dX12_asked_49 : decode cX12_asked 49 = .ok (.ldc 118, 2) := by decide +kernel
theorem dX12_asked_51 : decode cX12_asked 51 = .ok (.invokevirtual 103, 3) := by decide +kernel
theorem dX12_asked_54 : decode cX12_asked 54 = .ok (.ifCond .eq 8, 3) := by decide +kernel
theorem dX12_asked_57 : decode cX12_asked 57 = .ok (.bipush 45, 2) := by decide +kernel
theorem dX12_asked_59 : decode cX12_asked 59 = .ok (.goto 4, 3) := by decide +kernel
theorem dX12_asked_62 : decode cX12_asked 62 = .ok (.iconst 1, 1) := by decide +kernel
theorem dX12_asked_63 : decode cX12_asked 63 = .ok (.ireturn, 1) := by decide +kernel
set_option maxHeartbeats 4000000 in
set_option maxRecDepth 100000 in
theorem c_X12_asked (l : Launch) (D : va_G) (tys : List (ClassId × FieldType)) (base : Nat) (G : iv_G) (h0 : Nat) (g_h0 : Nat → Int32) (r_h0 : Nat → Nat) (a_h0 : G h0 = some (12, g_h0, r_h0)) : Met l yX12_asked (Cond.code yX12_asked cX12_asked 1 (some .int) :: iv_W0) ({ frames := 5, cells := 0, slots := 0, locals := 108 }) (iv_Pc iv_sh D classes tys base G [.ref h0]) (iv_Qi iv_sh D classes tys base (fun v G' => G = G' ∧ iv_R 1 45 v)) 0 0 (iv_A base) := by
  refine iv_head (by decide) (Nat.le_of_ble_eq_true rfl) ?_
  intro p e s m args below meth c ls X hr hlocks hname hB hl
  have X := X
  have hx := X.1.1
  have hb := X.1.2.1
  have hl : lv_has ls 1 [(0, .ref h0)] := hl
  refine lv_aload_n hx hb dX12_asked_0 rfl (lv_at hl 0 rfl) ?_
  refine iv_sldc X (i := 13) rfl dX12_asked_1 ?_
  refine iv_cVi X k_good k_mf_X12_is k_im_X12_is k_sel_X12_is k_ml_X12_103 ft_X12 hB a_h0 sh_12 (As := [.ref (D.2 100 13)]) (c_X12_is l D tys base G h0 g_h0 r_h0 a_h0 13 (by decide)) ⟨rfl, rfl⟩ ⟨Nat.le_of_ble_eq_true rfl, Nat.le_of_ble_eq_true rfl⟩ ⟨Nat.le_of_ble_eq_true rfl, Nat.le_of_ble_eq_true rfl⟩ rfl rfl hl.1 (Nat.le_of_ble_eq_true rfl) dX12_asked_3 (fun x1 G9 H locs hq hB => ?_)
  obtain ⟨rfl, i_x1⟩ := hq
  refine lv_if_eq (tgt := 12) hx hb dX12_asked_6 (by decide) (fun c2 => ?_) (fun c2 => ?_)
  · skip
    have i2_x1 : iv_R 0 0 x1 := (i_x1.cutHi (n := 0) (iv_eq_r c2 q_0).2)
    refine lv_aload_n hx hb dX12_asked_12 rfl (lv_at hl 0 rfl) ?_
    refine iv_sldc X (i := 14) rfl dX12_asked_13 ?_
    refine iv_cVi X k_good k_mf_X12_is k_im_X12_is k_sel_X12_is k_ml_X12_103 ft_X12 hB a_h0 sh_12 (As := [.ref (D.2 100 14)]) (c_X12_is l D tys base G h0 g_h0 r_h0 a_h0 14 (by decide)) ⟨rfl, rfl⟩ ⟨Nat.le_of_ble_eq_true rfl, Nat.le_of_ble_eq_true rfl⟩ ⟨Nat.le_of_ble_eq_true rfl, Nat.le_of_ble_eq_true rfl⟩ rfl rfl hl.1 (Nat.le_of_ble_eq_true rfl) dX12_asked_15 (fun x4 G9 H locs hq hB => ?_)
    obtain ⟨rfl, i_x4⟩ := hq
    refine lv_if_eq (tgt := 24) hx hb dX12_asked_18 (by decide) (fun c5 => ?_) (fun c5 => ?_)
    · skip
      have i5_x4 : iv_R 0 0 x4 := (i_x4.cutHi (n := 0) (iv_eq_r c5 q_0).2)
      refine lv_aload_n hx hb dX12_asked_24 rfl (lv_at hl 0 rfl) ?_
      refine iv_sldc X (i := 15) rfl dX12_asked_25 ?_
      refine iv_cVi X k_good k_mf_X12_is k_im_X12_is k_sel_X12_is k_ml_X12_103 ft_X12 hB a_h0 sh_12 (As := [.ref (D.2 100 15)]) (c_X12_is l D tys base G h0 g_h0 r_h0 a_h0 15 (by decide)) ⟨rfl, rfl⟩ ⟨Nat.le_of_ble_eq_true rfl, Nat.le_of_ble_eq_true rfl⟩ ⟨Nat.le_of_ble_eq_true rfl, Nat.le_of_ble_eq_true rfl⟩ rfl rfl hl.1 (Nat.le_of_ble_eq_true rfl) dX12_asked_27 (fun x7 G9 H locs hq hB => ?_)
      obtain ⟨rfl, i_x7⟩ := hq
      refine lv_if_eq (tgt := 36) hx hb dX12_asked_30 (by decide) (fun c8 => ?_) (fun c8 => ?_)
      · skip
        have i8_x7 : iv_R 0 0 x7 := (i_x7.cutHi (n := 0) (iv_eq_r c8 q_0).2)
        refine lv_aload_n hx hb dX12_asked_36 rfl (lv_at hl 0 rfl) ?_
        refine iv_sldc X (i := 16) rfl dX12_asked_37 ?_
        refine iv_cVi X k_good k_mf_X12_is k_im_X12_is k_sel_X12_is k_ml_X12_103 ft_X12 hB a_h0 sh_12 (As := [.ref (D.2 100 16)]) (c_X12_is l D tys base G h0 g_h0 r_h0 a_h0 16 (by decide)) ⟨rfl, rfl⟩ ⟨Nat.le_of_ble_eq_true rfl, Nat.le_of_ble_eq_true rfl⟩ ⟨Nat.le_of_ble_eq_true rfl, Nat.le_of_ble_eq_true rfl⟩ rfl rfl hl.1 (Nat.le_of_ble_eq_true rfl) dX12_asked_39 (fun x10 G9 H locs hq hB => ?_)
        obtain ⟨rfl, i_x10⟩ := hq
        refine lv_if_eq (tgt := 48) hx hb dX12_asked_42 (by decide) (fun c11 => ?_) (fun c11 => ?_)
        · skip
          have i11_x10 : iv_R 0 0 x10 := (i_x10.cutHi (n := 0) (iv_eq_r c11 q_0).2)
          refine lv_aload_n hx hb dX12_asked_48 rfl (lv_at hl 0 rfl) ?_
          refine iv_sldc X (i := 17) rfl dX12_asked_49 ?_
          refine iv_cVi X k_good k_mf_X12_is k_im_X12_is k_sel_X12_is k_ml_X12_103 ft_X12 hB a_h0 sh_12 (As := [.ref (D.2 100 17)]) (c_X12_is l D tys base G h0 g_h0 r_h0 a_h0 17 (by decide)) ⟨rfl, rfl⟩ ⟨Nat.le_of_ble_eq_true rfl, Nat.le_of_ble_eq_true rfl⟩ ⟨Nat.le_of_ble_eq_true rfl, Nat.le_of_ble_eq_true rfl⟩ rfl rfl hl.1 (Nat.le_of_ble_eq_true rfl) dX12_asked_51 (fun x13 G9 H locs hq hB => ?_)
          obtain ⟨rfl, i_x13⟩ := hq
          refine lv_if_eq (tgt := 62) hx hb dX12_asked_54 (by decide) (fun c14 => ?_) (fun c14 => ?_)
          · skip
            have i14_x13 : iv_R 0 0 x13 := (i_x13.cutHi (n := 0) (iv_eq_r c14 q_0).2)
            refine lv_iconst (v := 1) hx hb dX12_asked_62 (by decide) ?_
            exact iv_iret X hr hlocks hB ⟨rfl, (q_1.wk (by decide))⟩ dX12_asked_63
          · skip
            have i15_x13 : iv_R 1 1 x13 := iv_ne_lo c14 i_x13 q_0 (by decide)
            refine lv_bipush (v := 45) hx hb dX12_asked_57 (by decide) ?_
            refine lv_goto (tgt := 63) hx hb dX12_asked_59 (by decide) ?_
            exact iv_iret X hr hlocks hB ⟨rfl, (q_45.wk (by decide))⟩ dX12_asked_63
        · skip
          have i16_x10 : iv_R 1 1 x10 := iv_ne_lo c11 i_x10 q_0 (by decide)
          refine lv_bipush (v := 44) hx hb dX12_asked_45 (by decide) ?_
          exact iv_iret X hr hlocks hB ⟨rfl, (q_44.wk (by decide))⟩ dX12_asked_47
      · skip
        have i17_x7 : iv_R 1 1 x7 := iv_ne_lo c8 i_x7 q_0 (by decide)
        refine lv_bipush (v := 43) hx hb dX12_asked_33 (by decide) ?_
        exact iv_iret X hr hlocks hB ⟨rfl, (q_43.wk (by decide))⟩ dX12_asked_35
    · skip
      have i18_x4 : iv_R 1 1 x4 := iv_ne_lo c5 i_x4 q_0 (by decide)
      refine lv_bipush (v := 42) hx hb dX12_asked_21 (by decide) ?_
      exact iv_iret X hr hlocks hB ⟨rfl, (q_42.wk (by decide))⟩ dX12_asked_23
  · skip
    have i19_x1 : iv_R 1 1 x1 := iv_ne_lo c2 i_x1 q_0 (by decide)
    refine lv_bipush (v := 41) hx hb dX12_asked_9 (by decide) ?_
    exact iv_iret X hr hlocks hB ⟨rfl, (q_41.wk (by decide))⟩ dX12_asked_11
theorem dX12_bells_0 : decode cX12_bells 0 = .ok (.aload_n 0, 1) := by decide +kernel
theorem dX12_bells_1 : decode cX12_bells 1 = .ok (.getfield 7, 3) := by decide +kernel
theorem dX12_bells_4 : decode cX12_bells 4 = .ok (.bipush 66, 2) := by decide +kernel
theorem dX12_bells_6 : decode cX12_bells 6 = .ok (.bipush 8, 2) := by decide +kernel
theorem dX12_bells_8 : decode cX12_bells 8 = .ok (.iload_n 1, 1) := by decide +kernel
theorem dX12_bells_9 : decode cX12_bells 9 = .ok (.imul, 1) := by decide +kernel
theorem dX12_bells_10 : decode cX12_bells 10 = .ok (.iadd, 1) := by decide +kernel
theorem dX12_bells_11 : decode cX12_bells 11 = .ok (.iload_n 2, 1) := by decide +kernel
theorem dX12_bells_12 : decode cX12_bells 12 = .ok (.iadd, 1) := by decide +kernel
theorem dX12_bells_13 : decode cX12_bells 13 = .ok (.iload_n 3, 1) := by decide +kernel
theorem dX12_bells_14 : decode cX12_bells 14 = .ok (.iastore, 1) := by decide +kernel
theorem dX12_bells_15 : decode cX12_bells 15 = .ok (.return_, 1) := by decide +kernel
set_option maxHeartbeats 4000000 in
set_option maxRecDepth 100000 in
theorem c_X12_bells (l : Launch) (D : va_G) (tys : List (ClassId × FieldType)) (base : Nat) (G : iv_G) (h0 : Nat) (g_h0 : Nat → Int32) (r_h0 : Nat → Nat) (a_h0 : G h0 = some (12, g_h0, r_h0)) (x_0 : Int32) (i_x_0 : iv_R 0 9 x_0) (x_1 : Int32) (i_x_1 : iv_R 0 7 x_1) (x_2 : Int32) (i_x_2 : iv_R 0 1000 x_2) (p0_x_2 : x_1 = 0 → iv_R 0 3 x_2) (p1_x_2 : x_1 = 1 → iv_R 0 47 x_2) : Met l yX12_bells (Cond.code yX12_bells cX12_bells 4 none :: iv_W0) ({ frames := 0, cells := 0, slots := 0, locals := 0 }) (iv_Pc iv_sh D classes tys base G [.ref h0, .int x_0, .int x_1, .int x_2]) (iv_Qv iv_sh D classes tys base (fun G' => iv_Md [60] G G')) 0 0 (iv_A base) := by
  refine iv_head (by decide) (Nat.le_of_ble_eq_true rfl) ?_
  intro p e s m args below meth c ls X hr hlocks hname hB hl
  have X := X
  have hx := X.1.1
  have hb := X.1.2.1
  have hM : iv_Md [60] G G := iv_Md.rf
  have hl : lv_has ls 4 [(0, .ref h0), (1, .int x_0), (2, .int x_1), (3, .int x_2)] := hl
  refine lv_aload_n hx hb dX12_bells_0 rfl (lv_at hl 0 rfl) ?_
  refine iv_getr X ft_X12 hB a_h0 sh_12 0 (by decide) rfl k_fl_X12_7 dX12_bells_1 (fun b1 g_b1 r_b1 e_b1 a_b1 => ?_)
  refine lv_bipush (v := 66) hx hb dX12_bells_4 (by decide) ?_
  refine lv_bipush (v := 8) hx hb dX12_bells_6 (by decide) ?_
  refine lv_iload_n hx hb dX12_bells_8 rfl (lv_at hl 1 rfl) ?_
  refine iv_imul hx hb q_8 i_x_0 (lo := 0) (hi := 72) (by decide) dX12_bells_9 (fun x2 e_x2 i_x2 => ?_)
  refine iv_iadd hx hb q_66 i_x2 (lo := 66) (hi := 138) (by decide) dX12_bells_10 (fun x3 e_x3 i_x3 => ?_)
  refine lv_iload_n hx hb dX12_bells_11 rfl (lv_at hl 2 rfl) ?_
  refine iv_iadd hx hb i_x3 i_x_1 (lo := 66) (hi := 145) (by decide) dX12_bells_12 (fun x4 e_x4 i_x4 => ?_)
  refine lv_iload_n hx hb dX12_bells_13 rfl (lv_at hl 3 rfl) ?_
  refine iv_astP X hB a_b1 sh_60 (iv_in i_x4 (by decide)) (fun h => (by have w1 := i_x_0.1; have w2 := i_x_0.2; have w3 := i_x_1.1; have w4 := i_x_1.2; have w5 : x2.toInt = 8 * x_0.toInt := e_x2; have w6 : x3.toInt = 66 + x2.toInt := e_x3; have w7 : x4.toNatClampNeg = x4.toInt.toNat := rfl; have w8 := iv_bellb (idx := x4.toNatClampNeg) (b := x_0.toInt) (f := x_1.toInt) (by omega) ⟨w1, w2⟩ ⟨w3, w4⟩; refine h.up (by omega) (by omega) (by omega) ?_; rw [w8]; split; exact p0_x_2 (Int32.toInt_inj.mp (by rw [Int32.toInt_zero]; assumption)); split; exact p1_x_2 (Int32.toInt_inj.mp (by assumption)); exact iv_R.all _)) dX12_bells_14 (fun H locs hB => ?_)
  have hm := iv_Md.put (x := x_2) a_b1 (j := x4.toNatClampNeg) (iv_n146 i_x4 (by decide)) (fun h => absurd h (by decide))
  have h9 := iv_up_eq (G := G) (a := b1) (k := (60, upd g_b1 x4.toNatClampNeg x_2, r_b1))
  generalize iv_up G b1 _ = G5 at hB hm h9
  have hM := hM.stp hm (by decide)
  generalize hgn_g6 : upd g_b1 _ _ = g6 at h9
  have a_h0 := hm.at a_h0 (by decide)
  have a_b1 := h9
  exact iv_vret X hr hlocks hB hM dX12_bells_15
theorem dX12_book_0 : decode cX12_book 0 = .ok (.iload_n 1, 1) := by decide +kernel
theorem dX12_book_1 : decode cX12_book 1 = .ok (.iconst 0, 1) := by decide +kernel
theorem dX12_book_2 : decode cX12_book 2 = .ok (.aload_n 0, 1) := by decide +kernel
theorem dX12_book_3 : decode cX12_book 3 = .ok (.getfield 7, 3) := by decide +kernel
theorem dX12_book_6 : decode cX12_book 6 = .ok (.iconst 3, 1) := by decide +kernel
theorem dX12_book_7 : decode cX12_book 7 = .ok (.iaload, 1) := by decide +kernel
theorem dX12_book_8 : decode cX12_book 8 = .ok (.iconst 1, 1) := by decide +kernel
theorem dX12_book_9 : decode cX12_book 9 = .ok (.isub, 1) := by decide +kernel
theorem dX12_book_10 : decode cX12_book 10 = .ok (.invokestatic 56, 3) := by decide +kernel
theorem dX12_book_13 : decode cX12_book 13 = .ok (.ifCond .eq 29, 3) := by decide +kernel
theorem dX12_book_16 : decode cX12_book 16 = .ok (.iload_n 2, 1) := by decide +kernel
theorem dX12_book_17 : decode cX12_book 17 = .ok (.iconst 0, 1) := by decide +kernel
theorem dX12_book_18 : decode cX12_book 18 = .ok (.iconst 3, 1) := by decide +kernel
theorem dX12_book_19 : decode cX12_book 19 = .ok (.invokestatic 56, 3) := by decide +kernel
theorem dX12_book_22 : decode cX12_book 22 = .ok (.ifCond .eq 20, 3) := by decide +kernel
theorem dX12_book_25 : decode cX12_book 25 = .ok (.aload_n 0, 1) := by decide +kernel
theorem dX12_book_26 : decode cX12_book 26 = .ok (.getfield 7, 3) := by decide +kernel
theorem dX12_book_29 : decode cX12_book 29 = .ok (.sipush 266, 3) := by decide +kernel
theorem dX12_book_32 : decode cX12_book 32 = .ok (.iconst 4, 1) := by decide +kernel
theorem dX12_book_33 : decode cX12_book 33 = .ok (.iload_n 1, 1) := by decide +kernel
theorem dX12_book_34 : decode cX12_book 34 = .ok (.imul, 1) := by decide +kernel
theorem dX12_book_35 : decode cX12_book 35 = .ok (.iadd, 1) := by decide +kernel
theorem dX12_book_36 : decode cX12_book 36 = .ok (.iload_n 2, 1) := by decide +kernel
theorem dX12_book_37 : decode cX12_book 37 = .ok (.iadd, 1) := by decide +kernel
theorem dX12_book_38 : decode cX12_book 38 = .ok (.iaload, 1) := by decide +kernel
theorem dX12_book_39 : decode cX12_book 39 = .ok (.goto 5, 3) := by decide +kernel
theorem dX12_book_42 : decode cX12_book 42 = .ok (.bipush (-2), 2) := by decide +kernel
theorem dX12_book_44 : decode cX12_book 44 = .ok (.ireturn, 1) := by decide +kernel
set_option maxHeartbeats 4000000 in
set_option maxRecDepth 100000 in
theorem c_X12_book (l : Launch) (D : va_G) (tys : List (ClassId × FieldType)) (base : Nat) (G : iv_G) (h0 : Nat) (g_h0 : Nat → Int32) (r_h0 : Nat → Nat) (a_h0 : G h0 = some (12, g_h0, r_h0)) (x_0 : Int32) (i_x_0 : iv_R (-2147483648) 2147483647 x_0) (x_1 : Int32) (i_x_1 : iv_R (-2147483648) 2147483647 x_1) : Met l yX12_book (Cond.code yX12_book cX12_book 3 (some .int) :: iv_W0) ({ frames := 1, cells := 0, slots := 0, locals := 22 }) (iv_Pc iv_sh D classes tys base G [.ref h0, .int x_0, .int x_1]) (iv_Qi iv_sh D classes tys base (fun v G' => G = G' ∧ iv_R (-2147483648) 2147483647 v)) 0 0 (iv_A base) := by
  refine iv_head (by decide) (Nat.le_of_ble_eq_true rfl) ?_
  intro p e s m args below meth c ls X hr hlocks hname hB hl
  have X := X
  have hx := X.1.1
  have hb := X.1.2.1
  have hl : lv_has ls 3 [(0, .ref h0), (1, .int x_0), (2, .int x_1)] := hl
  refine lv_iload_n hx hb dX12_book_0 rfl (lv_at hl 1 rfl) ?_
  refine lv_iconst (v := 0) hx hb dX12_book_1 (by decide) ?_
  refine lv_aload_n hx hb dX12_book_2 rfl (lv_at hl 0 rfl) ?_
  refine iv_getr X ft_X12 hB a_h0 sh_12 0 (by decide) rfl k_fl_X12_7 dX12_book_3 (fun b1 g_b1 r_b1 e_b1 a_b1 => ?_)
  refine lv_iconst (v := 3) hx hb dX12_book_6 (by decide) ?_
  refine iv_wald_c X hB a_b1 q_3 (by decide) (lo := 0) (hi' := 120) (by decide) dX12_book_7 (fun x2 e_x2 i_x2 => ?_)
  refine lv_iconst (v := 1) hx hb dX12_book_8 (by decide) ?_
  refine iv_isub hx hb i_x2 q_1 (lo := (-1)) (hi := 119) (by decide) dX12_book_9 (fun x3 e_x3 i_x3 => ?_)
  refine iv_cSi X k_good k_mf_X12_isIn k_st_X12_isIn k_ml_X12_56 hB (As := [.int x_0, .int 0, .int x3]) (c_X12_isIn l D tys base G x_0 i_x_0 0 (q_0.wk (by decide)) x3 (i_x3.wk (by decide))) ⟨rfl, rfl⟩ ⟨Nat.le_of_ble_eq_true rfl, Nat.le_of_ble_eq_true rfl⟩ ⟨Nat.le_of_ble_eq_true rfl, Nat.le_of_ble_eq_true rfl⟩ rfl rfl hl.1 (Nat.le_of_ble_eq_true rfl) dX12_book_10 (fun x4 G9 H locs hq hB => ?_)
  obtain ⟨rfl, i_x4, hp5⟩ := hq
  have k6 : ¬ x4 = 0 → iv_R 0 119 x_0 := fun h => ⟨iv_max i_x_0.1 (Int.le_trans q_0.1 (hp5.1 h).1) (by decide), iv_min i_x_0.2 (Int.le_trans (hp5.1 h).2 i_x3.2) (by decide)⟩
  refine lv_if_eq (tgt := 42) hx hb dX12_book_13 (by decide) (fun c7 => ?_) (fun c7 => ?_)
  · skip
    have i7_x4 : iv_R 0 0 x4 := (i_x4.cutHi (n := 0) (iv_eq_r c7 q_0).2)
    refine lv_bipush (v := (-2)) hx hb dX12_book_42 (by decide) ?_
    exact iv_iret X hr hlocks hB ⟨rfl, (q_n2.wk (by decide))⟩ dX12_book_44
  · skip
    have i8_x4 : iv_R 1 1 x4 := iv_ne_lo c7 i_x4 q_0 (by decide)
    have i9_x_0 : iv_R 0 119 x_0 := ((i_x_0.cutLo (n := 0) (k6 c7).1).cutHi (n := 119) (k6 c7).2)
    refine lv_iload_n hx hb dX12_book_16 rfl (lv_at hl 2 rfl) ?_
    refine lv_iconst (v := 0) hx hb dX12_book_17 (by decide) ?_
    refine lv_iconst (v := 3) hx hb dX12_book_18 (by decide) ?_
    refine iv_cSi X k_good k_mf_X12_isIn k_st_X12_isIn k_ml_X12_56 hB (As := [.int x_1, .int 0, .int 3]) (c_X12_isIn l D tys base G x_1 i_x_1 0 (q_0.wk (by decide)) 3 (q_3.wk (by decide))) ⟨rfl, rfl⟩ ⟨Nat.le_of_ble_eq_true rfl, Nat.le_of_ble_eq_true rfl⟩ ⟨Nat.le_of_ble_eq_true rfl, Nat.le_of_ble_eq_true rfl⟩ rfl rfl hl.1 (Nat.le_of_ble_eq_true rfl) dX12_book_19 (fun x11 G9 H locs hq hB => ?_)
    obtain ⟨rfl, i_x11, hp12⟩ := hq
    have k13 : ¬ x11 = 0 → iv_R 0 3 x_1 := fun h => ⟨iv_max i_x_1.1 (Int.le_trans q_0.1 (hp12.1 h).1) (by decide), iv_min i_x_1.2 (Int.le_trans (hp12.1 h).2 q_3.2) (by decide)⟩
    refine lv_if_eq (tgt := 42) hx hb dX12_book_22 (by decide) (fun c14 => ?_) (fun c14 => ?_)
    · skip
      have i14_x11 : iv_R 0 0 x11 := (i_x11.cutHi (n := 0) (iv_eq_r c14 q_0).2)
      refine lv_bipush (v := (-2)) hx hb dX12_book_42 (by decide) ?_
      exact iv_iret X hr hlocks hB ⟨rfl, (q_n2.wk (by decide))⟩ dX12_book_44
    · skip
      have i15_x11 : iv_R 1 1 x11 := iv_ne_lo c14 i_x11 q_0 (by decide)
      have i16_x_1 : iv_R 0 3 x_1 := ((i_x_1.cutLo (n := 0) (k13 c14).1).cutHi (n := 3) (k13 c14).2)
      refine lv_aload_n hx hb dX12_book_25 rfl (lv_at hl 0 rfl) ?_
      refine iv_getr0 X ft_X12 hB a_h0 sh_12 0 (by decide) rfl k_fl_X12_7 dX12_book_26 e_b1 ?_
      refine lv_sipush (v := 266) hx hb dX12_book_29 (by decide) ?_
      refine lv_iconst (v := 4) hx hb dX12_book_32 (by decide) ?_
      refine lv_iload_n hx hb dX12_book_33 rfl (lv_at hl 1 rfl) ?_
      refine iv_imul hx hb q_4 i9_x_0 (lo := 0) (hi := 476) (by decide) dX12_book_34 (fun x18 e_x18 i_x18 => ?_)
      refine iv_iadd hx hb q_266 i_x18 (lo := 266) (hi := 742) (by decide) dX12_book_35 (fun x19 e_x19 i_x19 => ?_)
      refine lv_iload_n hx hb dX12_book_36 rfl (lv_at hl 2 rfl) ?_
      refine iv_iadd hx hb i_x19 i16_x_1 (lo := 266) (hi := 745) (by decide) dX12_book_37 (fun x20 e_x20 i_x20 => ?_)
      refine iv_wald_f X hB a_b1 i_x20 (by decide) dX12_book_38 (fun x21 e_x21 i_x21 => ?_)
      refine lv_goto (tgt := 44) hx hb dX12_book_39 (by decide) ?_
      exact iv_iret X hr hlocks hB ⟨rfl, i_x21⟩ dX12_book_44
theorem dX12_canBeRaised_0 : decode cX12_canBeRaised 0 = .ok (.iconst 0, 1) := by decide +kernel
theorem dX12_canBeRaised_1 : decode cX12_canBeRaised 1 = .ok (.istore_n 3, 1) := by decide +kernel
theorem dX12_canBeRaised_2 : decode cX12_canBeRaised 2 = .ok (.iload_n 3, 1) := by decide +kernel
theorem dX12_canBeRaised_3 : decode cX12_canBeRaised 3 = .ok (.aload_n 0, 1) := by decide +kernel
theorem dX12_canBeRaised_4 : decode cX12_canBeRaised 4 = .ok (.getfield 7, 3) := by decide +kernel
theorem dX12_canBeRaised_7 : decode cX12_canBeRaised 7 = .ok (.sipush 146, 3) := by decide +kernel
theorem dX12_canBeRaised_10 : decode cX12_canBeRaised 10 = .ok (.iaload, 1) := by decide +kernel
theorem dX12_canBeRaised_11 : decode cX12_canBeRaised 11 = .ok (.if_icmp .ge 107, 3) := by decide +kernel
theorem dX12_canBeRaised_14 : decode cX12_canBeRaised 14 = .ok (.iload_n 1, 1) := by decide +kernel
theorem dX12_canBeRaised_15 : decode cX12_canBeRaised 15 = .ok (.iload_n 3, 1) := by decide +kernel
theorem dX12_canBeRaised_16 : decode cX12_canBeRaised 16 = .ok (.ishr, 1) := by decide +kernel
theorem dX12_canBeRaised_17 : decode cX12_canBeRaised 17 = .ok (.iconst 1, 1) := by decide +kernel
theorem dX12_canBeRaised_18 : decode cX12_canBeRaised 18 = .ok (.iand, 1) := by decide +kernel
theorem dX12_canBeRaised_19 : decode cX12_canBeRaised 19 = .ok (.ifCond .ne 6, 3) := by decide +kernel
theorem dX12_canBeRaised_22 : decode cX12_canBeRaised 22 = .ok (.goto 90, 3) := by decide +kernel
theorem dX12_canBeRaised_25 : decode cX12_canBeRaised 25 = .ok (.aload_n 0, 1) := by decide +kernel
theorem dX12_canBeRaised_26 : decode cX12_canBeRaised 26 = .ok (.iload_n 3, 1) := by decide +kernel
theorem dX12_canBeRaised_27 : decode cX12_canBeRaised 27 = .ok (.iconst 1, 1) := by decide +kernel
theorem dX12_canBeRaised_28 : decode cX12_canBeRaised 28 = .ok (.invokevirtual 282, 3) := by decide +kernel
theorem dX12_canBeRaised_31 : decode cX12_canBeRaised 31 = .ok (.iload_n 2, 1) := by decide +kernel
theorem dX12_canBeRaised_32 : decode cX12_canBeRaised 32 = .ok (.iadd, 1) := by decide +kernel
theorem dX12_canBeRaised_33 : decode cX12_canBeRaised 33 = .ok (.istore 4, 2) := by decide +kernel
theorem dX12_canBeRaised_35 : decode cX12_canBeRaised 35 = .ok (.iload 4, 2) := by decide +kernel
theorem dX12_canBeRaised_37 : decode cX12_canBeRaised 37 = .ok (.bipush 47, 2) := by decide +kernel
theorem dX12_canBeRaised_39 : decode cX12_canBeRaised 39 = .ok (.if_icmp .le 5, 3) := by decide +kernel
theorem dX12_canBeRaised_42 : decode cX12_canBeRaised 42 = .ok (.iconst 0, 1) := by decide +kernel
theorem dX12_canBeRaised_43 : decode cX12_canBeRaised 43 = .ok (.ireturn, 1) := by decide +kernel
theorem dX12_canBeRaised_44 : decode cX12_canBeRaised 44 = .ok (.iconst 0, 1) := by decide +kernel
theorem dX12_canBeRaised_45 : decode cX12_canBeRaised 45 = .ok (.istore 5, 2) := by decide +kernel
theorem dX12_canBeRaised_47 : decode cX12_canBeRaised 47 = .ok (.iload 5, 2) := by decide +kernel
theorem dX12_canBeRaised_49 : decode cX12_canBeRaised 49 = .ok (.aload_n 0, 1) := by decide +kernel
theorem dX12_canBeRaised_50 : decode cX12_canBeRaised 50 = .ok (.getfield 7, 3) := by decide +kernel
theorem dX12_canBeRaised_53 : decode cX12_canBeRaised 53 = .ok (.sipush 146, 3) := by decide +kernel
theorem dX12_canBeRaised_56 : decode cX12_canBeRaised 56 = .ok (.iaload, 1) := by decide +kernel
theorem dX12_canBeRaised_57 : decode cX12_canBeRaised 57 = .ok (.if_icmp .ge 55, 3) := by decide +kernel
theorem dX12_canBeRaised_60 : decode cX12_canBeRaised 60 = .ok (.iload_n 1, 1) := by decide +kernel
theorem dX12_canBeRaised_61 : decode cX12_canBeRaised 61 = .ok (.iload 5, 2) := by decide +kernel
theorem dX12_canBeRaised_63 : decode cX12_canBeRaised 63 = .ok (.ishr, 1) := by decide +kernel
theorem dX12_canBeRaised_64 : decode cX12_canBeRaised 64 = .ok (.iconst 1, 1) := by decide +kernel
theorem dX12_canBeRaised_65 : decode cX12_canBeRaised 65 = .ok (.iand, 1) := by decide +kernel
theorem dX12_canBeRaised_66 : decode cX12_canBeRaised 66 = .ok (.ifCond .ne 40, 3) := by decide +kernel
theorem dX12_canBeRaised_69 : decode cX12_canBeRaised 69 = .ok (.aload_n 0, 1) := by decide +kernel
theorem dX12_canBeRaised_70 : decode cX12_canBeRaised 70 = .ok (.iload 5, 2) := by decide +kernel
theorem dX12_canBeRaised_72 : decode cX12_canBeRaised 72 = .ok (.bipush 6, 2) := by decide +kernel
theorem dX12_canBeRaised_74 : decode cX12_canBeRaised 74 = .ok (.invokevirtual 282, 3) := by decide +kernel
theorem dX12_canBeRaised_77 : decode cX12_canBeRaised 77 = .ok (.iconst 2, 1) := by decide +kernel
theorem dX12_canBeRaised_78 : decode cX12_canBeRaised 78 = .ok (.if_icmp .eq 28, 3) := by decide +kernel
theorem dX12_canBeRaised_81 : decode cX12_canBeRaised 81 = .ok (.aload_n 0, 1) := by decide +kernel
theorem dX12_canBeRaised_82 : decode cX12_canBeRaised 82 = .ok (.iload 5, 2) := by decide +kernel
theorem dX12_canBeRaised_84 : decode cX12_canBeRaised 84 = .ok (.iconst 1, 1) := by decide +kernel
theorem dX12_canBeRaised_85 : decode cX12_canBeRaised 85 = .ok (.invokevirtual 282, 3) := by decide +kernel
theorem dX12_canBeRaised_88 : decode cX12_canBeRaised 88 = .ok (.iload 4, 2) := by decide +kernel
theorem dX12_canBeRaised_90 : decode cX12_canBeRaised 90 = .ok (.invokestatic 305, 3) := by decide +kernel
theorem dX12_canBeRaised_93 : decode cX12_canBeRaised 93 = .ok (.aload_n 0, 1) := by decide +kernel
theorem dX12_canBeRaised_94 : decode cX12_canBeRaised 94 = .ok (.getfield 7, 3) := by decide +kernel
theorem dX12_canBeRaised_97 : decode cX12_canBeRaised 97 = .ok (.sipush 147, 3) := by decide +kernel
theorem dX12_canBeRaised_100 : decode cX12_canBeRaised 100 = .ok (.iaload, 1) := by decide +kernel
theorem dX12_canBeRaised_101 : decode cX12_canBeRaised 101 = .ok (.if_icmp .ge 5, 3) := by decide +kernel
theorem dX12_canBeRaised_104 : decode cX12_canBeRaised 104 = .ok (.iconst 0, 1) := by decide +kernel
theorem dX12_canBeRaised_105 : decode cX12_canBeRaised 105 = .ok (.ireturn, 1) := by decide +kernel
theorem dX12_canBeRaised_106 : decode cX12_canBeRaised 106 = .ok (.iinc 5 1, 3) := by decide +kernel
theorem dX12_canBeRaised_109 : decode cX12_canBeRaised 109 = .ok (.goto (-62), 3) := by decide +kernel
theorem dX12_canBeRaised_112 : decode cX12_canBeRaised 112 = .ok (.iinc 3 1, 3) := by decide +kernel
theorem dX12_canBeRaised_115 : decode cX12_canBeRaised 115 = .ok (.goto (-113), 3) := by decide +kernel
theorem dX12_canBeRaised_118 : decode cX12_canBeRaised 118 = .ok (.iconst 1, 1) := by decide +kernel
theorem dX12_canBeRaised_119 : decode cX12_canBeRaised 119 = .ok (.ireturn, 1) := by decide +kernel
set_option maxHeartbeats 4000000 in
set_option maxRecDepth 100000 in
theorem c_X12_canBeRaised (l : Launch) (D : va_G) (tys : List (ClassId × FieldType)) (base : Nat) (G : iv_G) (h0 : Nat) (g_h0 : Nat → Int32) (r_h0 : Nat → Nat) (a_h0 : G h0 = some (12, g_h0, r_h0)) (x_0 : Int32) (i_x_0 : iv_R 1 1023 x_0) (x_1 : Int32) (i_x_1 : iv_R 0 47 x_1) : Met l yX12_canBeRaised (Cond.code yX12_canBeRaised cX12_canBeRaised 6 (some .boolean) :: iv_W0) ({ frames := 1, cells := 0, slots := 0, locals := 22 }) (iv_Pc iv_sh D classes tys base G [.ref h0, .int x_0, .int x_1]) (iv_Qi iv_sh D classes tys base (fun v G' => G = G' ∧ iv_R 0 1 v)) 0 0 (iv_A base) := by
  refine iv_head (by decide) (Nat.le_of_ble_eq_true rfl) ?_
  intro p e s m args below meth c ls X hr hlocks hname hB hl
  have X := X
  have hx := X.1.1
  have hb := X.1.2.1
  have hl : lv_has ls 6 [(0, .ref h0), (1, .int x_0), (2, .int x_1)] := hl
  refine lv_iconst (v := 0) hx hb dX12_canBeRaised_0 (by decide) ?_
  refine lv_istore_n (lv' := [(3, .int 0), (0, .ref h0), (1, .int x_0), (2, .int x_1)]) hx hb dX12_canBeRaised_1 rfl hl (by decide) rfl (fun ls hl => ?_)
  have L_2 : ∀ (n_2 : Nat) (H : Heap) (locs : List Loc) (hB : iv_B iv_sh D classes tys base G s.heap H locs) (x1 : Int32) (i_x1 : iv_R 0 10 x1) (hn_2 : (11 - x1.toInt).toNat < n_2) (ls : Array Slot) (hl : lv_has ls 6 [(3, .int x1), (0, .ref h0), (1, .int x_0), (2, .int x_1)]), W p l e ({ frames := 1, cells := 0, slots := 0, locals := 22 } : Room) s m args below meth c H locs 0 0 (MQ below (iv_Qi iv_sh D classes tys base (fun v G' => G = G' ∧ iv_R 0 1 v)) args s 0 0 (iv_A base)) (F0 m 2 ls []) := by
    intro n_2
    induction n_2 with
    | zero => intro H locs hB x1 i_x1 hn_2 ls hl; exact absurd hn_2 (Nat.not_lt_zero _)
    | succ n_2 ih_2 =>
      intro H locs hB x1 i_x1 hn_2 ls hl
      refine lv_iload_n hx hb dX12_canBeRaised_2 rfl (lv_at hl 0 rfl) ?_
      refine lv_aload_n hx hb dX12_canBeRaised_3 rfl (lv_at hl 1 rfl) ?_
      refine iv_getr X ft_X12 hB a_h0 sh_12 0 (by decide) rfl k_fl_X12_7 dX12_canBeRaised_4 (fun b2 g_b2 r_b2 e_b2 a_b2 => ?_)
      refine lv_sipush (v := 146) hx hb dX12_canBeRaised_7 (by decide) ?_
      refine iv_wald_c X hB a_b2 q_146 (by decide) (lo := 0) (hi' := 10) (by decide) dX12_canBeRaised_10 (fun x3 e_x3 i_x3 => ?_)
      refine lv_icmp_ge (tgt := 118) hx hb dX12_canBeRaised_11 (by decide) (fun c4 => ?_) (fun c4 => ?_)
      · skip
        refine lv_iconst (v := 1) hx hb dX12_canBeRaised_118 (by decide) ?_
        exact iv_zret X hr hlocks hB (q_1.wk (by decide)) ⟨rfl, (q_1.wk (by decide))⟩ dX12_canBeRaised_119
      · skip
        have i4_x1 : iv_R 0 9 x1 := (i_x1.cutHi (n := 9) (iv_lt_r (iv_nle c4) i_x3 (by decide)))
        have i5_x3 : iv_R 1 10 x3 := (i_x3.cutLo (n := 1) (iv_lt_l (iv_nle c4) i_x1 (by decide)))
        refine lv_iload_n hx hb dX12_canBeRaised_14 rfl (lv_at hl 2 rfl) ?_
        refine lv_iload_n hx hb dX12_canBeRaised_15 rfl (lv_at hl 0 rfl) ?_
        refine lv_ishr hx hb dX12_canBeRaised_16 ?_
        refine lv_topi (fun x7 e_x7 => ?_)
        have i_x7 := iv_R.all x7
        refine lv_iconst (v := 1) hx hb dX12_canBeRaised_17 (by decide) ?_
        refine iv_iand_r hx hb q_1 (by decide) dX12_canBeRaised_18 (fun x8 e_x8 i_x8 => ?_)
        refine lv_if_ne (tgt := 25) hx hb dX12_canBeRaised_19 (by decide) (fun c9 => ?_) (fun c9 => ?_)
        · skip
          have i9_x8 : iv_R 1 1 x8 := iv_ne_lo c9 i_x8 q_0 (by decide)
          refine lv_aload_n hx hb dX12_canBeRaised_25 rfl (lv_at hl 1 rfl) ?_
          refine lv_iload_n hx hb dX12_canBeRaised_26 rfl (lv_at hl 0 rfl) ?_
          refine lv_iconst (v := 1) hx hb dX12_canBeRaised_27 (by decide) ?_
          refine iv_cVi X k_good k_mf_X12_ofBell k_im_X12_ofBell k_sel_X12_ofBell k_ml_X12_282 ft_X12 hB a_h0 sh_12 (As := [.int x1, .int 1]) (c_X12_ofBell l D tys base G h0 g_h0 r_h0 a_h0 x1 i4_x1 1 (q_1.wk (by decide))) ⟨rfl, rfl⟩ ⟨Nat.le_of_ble_eq_true rfl, Nat.le_of_ble_eq_true rfl⟩ ⟨Nat.le_of_ble_eq_true rfl, Nat.le_of_ble_eq_true rfl⟩ rfl rfl hl.1 (Nat.le_of_ble_eq_true rfl) dX12_canBeRaised_28 (fun x11 G9 H locs hq hB => ?_)
          obtain ⟨rfl, i_x11, cp12, cp13⟩ := hq
          have i13_x11 : iv_R 0 47 x11 := cp13 rfl
          refine lv_iload_n hx hb dX12_canBeRaised_31 rfl (lv_at hl 3 rfl) ?_
          refine iv_iadd hx hb i13_x11 i_x_1 (lo := 0) (hi := 94) (by decide) dX12_canBeRaised_32 (fun x15 e_x15 i_x15 => ?_)
          refine lv_istore (lv' := [(4, .int x15), (3, .int x1), (0, .ref h0), (1, .int x_0), (2, .int x_1)]) hx hb dX12_canBeRaised_33 hl (by decide) rfl (fun ls hl => ?_)
          refine lv_iload hx hb dX12_canBeRaised_35 (lv_at hl 0 rfl) ?_
          refine lv_bipush (v := 47) hx hb dX12_canBeRaised_37 (by decide) ?_
          refine lv_icmp_le (tgt := 44) hx hb dX12_canBeRaised_39 (by decide) (fun c16 => ?_) (fun c16 => ?_)
          · skip
            have i16_x15 : iv_R 0 47 x15 := (i_x15.cutHi (n := 47) (iv_le_r c16 q_47))
            refine lv_iconst (v := 0) hx hb dX12_canBeRaised_44 (by decide) ?_
            refine lv_istore (lv' := [(5, .int 0), (4, .int x15), (3, .int x1), (0, .ref h0), (1, .int x_0), (2, .int x_1)]) hx hb dX12_canBeRaised_45 hl (by decide) rfl (fun ls hl => ?_)
            have L_47 : ∀ (n_47 : Nat) (H : Heap) (locs : List Loc) (hB : iv_B iv_sh D classes tys base G s.heap H locs) (x18 : Int32) (i_x18 : iv_R 0 10 x18) (hn_47 : (11 - x18.toInt).toNat < n_47) (ls : Array Slot) (hl : lv_has ls 6 [(5, .int x18), (4, .int x15), (3, .int x1), (0, .ref h0), (1, .int x_0), (2, .int x_1)]), W p l e ({ frames := 1, cells := 0, slots := 0, locals := 22 } : Room) s m args below meth c H locs 0 0 (MQ below (iv_Qi iv_sh D classes tys base (fun v G' => G = G' ∧ iv_R 0 1 v)) args s 0 0 (iv_A base)) (F0 m 47 ls []) := by
              intro n_47
              induction n_47 with
              | zero => intro H locs hB x18 i_x18 hn_47 ls hl; exact absurd hn_47 (Nat.not_lt_zero _)
              | succ n_47 ih_47 =>
                intro H locs hB x18 i_x18 hn_47 ls hl
                refine lv_iload hx hb dX12_canBeRaised_47 (lv_at hl 0 rfl) ?_
                refine lv_aload_n hx hb dX12_canBeRaised_49 rfl (lv_at hl 3 rfl) ?_
                refine iv_getr0 X ft_X12 hB a_h0 sh_12 0 (by decide) rfl k_fl_X12_7 dX12_canBeRaised_50 e_b2 ?_
                refine lv_sipush (v := 146) hx hb dX12_canBeRaised_53 (by decide) ?_
                refine iv_wald_c X hB a_b2 q_146 (by decide) (lo := 0) (hi' := 10) (by decide) dX12_canBeRaised_56 (fun x19 e_x19 k_x19 => ?_)
                obtain rfl : x3 = x19 := e_x3.trans e_x19.symm
                refine lv_icmp_ge (tgt := 112) hx hb dX12_canBeRaised_57 (by decide) (fun c20 => ?_) (fun c20 => ?_)
                · skip
                  have i20_x18 : iv_R 1 10 x18 := (i_x18.cutLo (n := 1) (iv_le_l c20 i5_x3))
                  refine iv_iinc hx hb i4_x1 (lo := 1) (hi := 10) (by decide) dX12_canBeRaised_112 hl (k := 2) rfl (by decide) (fun x22 ls e_x22 i_x22 hl => ?_)
                  have hl : lv_has ls 6 [(3, .int x22), (5, .int x18), (4, .int x15), (0, .ref h0), (1, .int x_0), (2, .int x_1)] := hl
                  refine lv_goto (tgt := 2) hx hb dX12_canBeRaised_115 (by decide) ?_
                  exact ih_2 _ _ hB x22 (i_x22.wk (by decide)) (iv_mup (c := 1) i_x1 (by decide) (by decide) (by omega) hn_2) _ (lv_sub hl [0, 3, 4, 5] rfl)
                · skip
                  have i22_x18 : iv_R 0 9 x18 := (i_x18.cutHi (n := 9) (iv_lt_r (iv_nle c20) i5_x3 (by decide)))
                  refine lv_iload_n hx hb dX12_canBeRaised_60 rfl (lv_at hl 4 rfl) ?_
                  refine lv_iload hx hb dX12_canBeRaised_61 (lv_at hl 0 rfl) ?_
                  refine lv_ishr hx hb dX12_canBeRaised_63 ?_
                  refine lv_topi (fun x24 e_x24 => ?_)
                  have i_x24 := iv_R.all x24
                  refine lv_iconst (v := 1) hx hb dX12_canBeRaised_64 (by decide) ?_
                  refine iv_iand_r hx hb q_1 (by decide) dX12_canBeRaised_65 (fun x25 e_x25 i_x25 => ?_)
                  refine lv_if_ne (tgt := 106) hx hb dX12_canBeRaised_66 (by decide) (fun c26 => ?_) (fun c26 => ?_)
                  · skip
                    have i26_x25 : iv_R 1 1 x25 := iv_ne_lo c26 i_x25 q_0 (by decide)
                    refine iv_iinc hx hb i22_x18 (lo := 1) (hi := 10) (by decide) dX12_canBeRaised_106 hl (k := 0) rfl (by decide) (fun x28 ls e_x28 i_x28 hl => ?_)
                    have hl : lv_has ls 6 [(5, .int x28), (4, .int x15), (3, .int x1), (0, .ref h0), (1, .int x_0), (2, .int x_1)] := hl
                    refine lv_goto (tgt := 47) hx hb dX12_canBeRaised_109 (by decide) ?_
                    exact ih_47 _ _ hB x28 (i_x28.wk (by decide)) (iv_mup (c := 1) i_x18 (by decide) (by decide) (by omega) hn_47) _ (lv_sub hl [0, 1, 2, 3, 4, 5] rfl)
                  · skip
                    have i28_x25 : iv_R 0 0 x25 := (i_x25.cutHi (n := 0) (iv_eq_r c26 q_0).2)
                    refine lv_aload_n hx hb dX12_canBeRaised_69 rfl (lv_at hl 3 rfl) ?_
                    refine lv_iload hx hb dX12_canBeRaised_70 (lv_at hl 0 rfl) ?_
                    refine lv_bipush (v := 6) hx hb dX12_canBeRaised_72 (by decide) ?_
                    refine iv_cVi X k_good k_mf_X12_ofBell k_im_X12_ofBell k_sel_X12_ofBell k_ml_X12_282 ft_X12 hB a_h0 sh_12 (As := [.int x18, .int 6]) (c_X12_ofBell l D tys base G h0 g_h0 r_h0 a_h0 x18 i22_x18 6 (q_6.wk (by decide))) ⟨rfl, rfl⟩ ⟨Nat.le_of_ble_eq_true rfl, Nat.le_of_ble_eq_true rfl⟩ ⟨Nat.le_of_ble_eq_true rfl, Nat.le_of_ble_eq_true rfl⟩ rfl rfl hl.1 (Nat.le_of_ble_eq_true rfl) dX12_canBeRaised_74 (fun x30 G9 H locs hq hB => ?_)
                    obtain ⟨rfl, i_x30, cp31, cp32⟩ := hq
                    refine lv_iconst (v := 2) hx hb dX12_canBeRaised_77 (by decide) ?_
                    refine lv_icmp_eq (tgt := 106) hx hb dX12_canBeRaised_78 (by decide) (fun c33 => ?_) (fun c33 => ?_)
                    · skip
                      have i33_x30 : iv_R 2 2 x30 := ((i_x30.cutLo (n := 2) (iv_eq_r c33 q_2).1).cutHi (n := 2) (iv_eq_r c33 q_2).2)
                      refine iv_iinc hx hb i22_x18 (lo := 1) (hi := 10) (by decide) dX12_canBeRaised_106 hl (k := 0) rfl (by decide) (fun x35 ls e_x35 i_x35 hl => ?_)
                      have hl : lv_has ls 6 [(5, .int x35), (4, .int x15), (3, .int x1), (0, .ref h0), (1, .int x_0), (2, .int x_1)] := hl
                      refine lv_goto (tgt := 47) hx hb dX12_canBeRaised_109 (by decide) ?_
                      exact ih_47 _ _ hB x35 (i_x35.wk (by decide)) (iv_mup (c := 1) i_x18 (by decide) (by decide) (by omega) hn_47) _ (lv_sub hl [0, 1, 2, 3, 4, 5] rfl)
                    · skip
                      refine lv_aload_n hx hb dX12_canBeRaised_81 rfl (lv_at hl 3 rfl) ?_
                      refine lv_iload hx hb dX12_canBeRaised_82 (lv_at hl 0 rfl) ?_
                      refine lv_iconst (v := 1) hx hb dX12_canBeRaised_84 (by decide) ?_
                      refine iv_cVi X k_good k_mf_X12_ofBell k_im_X12_ofBell k_sel_X12_ofBell k_ml_X12_282 ft_X12 hB a_h0 sh_12 (As := [.int x18, .int 1]) (c_X12_ofBell l D tys base G h0 g_h0 r_h0 a_h0 x18 i22_x18 1 (q_1.wk (by decide))) ⟨rfl, rfl⟩ ⟨Nat.le_of_ble_eq_true rfl, Nat.le_of_ble_eq_true rfl⟩ ⟨Nat.le_of_ble_eq_true rfl, Nat.le_of_ble_eq_true rfl⟩ rfl rfl hl.1 (Nat.le_of_ble_eq_true rfl) dX12_canBeRaised_85 (fun x36 G9 H locs hq hB => ?_)
                      obtain ⟨rfl, i_x36, cp37, cp38⟩ := hq
                      have i38_x36 : iv_R 0 47 x36 := cp38 rfl
                      refine lv_iload hx hb dX12_canBeRaised_88 (lv_at hl 1 rfl) ?_
                      refine iv_cSi X k_good k_mf_X12_apart k_st_X12_apart k_ml_X12_305 hB (As := [.int x36, .int x15]) (c_X12_apart l D tys base G x36 i38_x36 x15 i16_x15) ⟨rfl, rfl⟩ ⟨Nat.le_of_ble_eq_true rfl, Nat.le_of_ble_eq_true rfl⟩ ⟨Nat.le_of_ble_eq_true rfl, Nat.le_of_ble_eq_true rfl⟩ rfl rfl hl.1 (Nat.le_of_ble_eq_true rfl) dX12_canBeRaised_90 (fun x40 G9 H locs hq hB => ?_)
                      obtain ⟨rfl, i_x40⟩ := hq
                      refine lv_aload_n hx hb dX12_canBeRaised_93 rfl (lv_at hl 3 rfl) ?_
                      refine iv_getr0 X ft_X12 hB a_h0 sh_12 0 (by decide) rfl k_fl_X12_7 dX12_canBeRaised_94 e_b2 ?_
                      refine lv_sipush (v := 147) hx hb dX12_canBeRaised_97 (by decide) ?_
                      refine iv_wald_c X hB a_b2 q_147 (by decide) (lo := (-2147483648)) (hi' := 2147483647) (by decide) dX12_canBeRaised_100 (fun x41 e_x41 i_x41 => ?_)
                      refine lv_icmp_ge (tgt := 106) hx hb dX12_canBeRaised_101 (by decide) (fun c42 => ?_) (fun c42 => ?_)
                      · skip
                        have i42_x41 : iv_R (-2147483648) 47 x41 := (i_x41.cutHi (n := 47) (iv_le_r c42 i_x40))
                        refine iv_iinc hx hb i22_x18 (lo := 1) (hi := 10) (by decide) dX12_canBeRaised_106 hl (k := 0) rfl (by decide) (fun x44 ls e_x44 i_x44 hl => ?_)
                        have hl : lv_has ls 6 [(5, .int x44), (4, .int x15), (3, .int x1), (0, .ref h0), (1, .int x_0), (2, .int x_1)] := hl
                        refine lv_goto (tgt := 47) hx hb dX12_canBeRaised_109 (by decide) ?_
                        exact ih_47 _ _ hB x44 (i_x44.wk (by decide)) (iv_mup (c := 1) i_x18 (by decide) (by decide) (by omega) hn_47) _ (lv_sub hl [0, 1, 2, 3, 4, 5] rfl)
                      · skip
                        have i44_x41 : iv_R (-46) 2147483647 x41 := (i_x41.cutLo (n := (-46)) (iv_lt_l (iv_nle c42) i_x40 (by decide)))
                        refine lv_iconst (v := 0) hx hb dX12_canBeRaised_104 (by decide) ?_
                        exact iv_zret X hr hlocks hB (q_0.wk (by decide)) ⟨rfl, (q_0.wk (by decide))⟩ dX12_canBeRaised_105
            exact L_47 _ _ _ hB 0 (q_0.wk (by decide)) (Nat.lt_succ_self _) _ (lv_sub hl [0, 1, 2, 3, 4, 5] rfl)
          · skip
            have i45_x15 : iv_R 48 94 x15 := (i_x15.cutLo (n := 48) (iv_lt_l (iv_nle c16) q_47 (by decide)))
            refine lv_iconst (v := 0) hx hb dX12_canBeRaised_42 (by decide) ?_
            exact iv_zret X hr hlocks hB (q_0.wk (by decide)) ⟨rfl, (q_0.wk (by decide))⟩ dX12_canBeRaised_43
        · skip
          have i46_x8 : iv_R 0 0 x8 := (i_x8.cutHi (n := 0) (iv_eq_r c9 q_0).2)
          refine lv_goto (tgt := 112) hx hb dX12_canBeRaised_22 (by decide) ?_
          refine iv_iinc hx hb i4_x1 (lo := 1) (hi := 10) (by decide) dX12_canBeRaised_112 hl (k := 0) rfl (by decide) (fun x48 ls e_x48 i_x48 hl => ?_)
          have hl : lv_has ls 6 [(3, .int x48), (0, .ref h0), (1, .int x_0), (2, .int x_1)] := hl
          refine lv_goto (tgt := 2) hx hb dX12_canBeRaised_115 (by decide) ?_
          exact ih_2 _ _ hB x48 (i_x48.wk (by decide)) (iv_mup (c := 1) i_x1 (by decide) (by decide) (by omega) hn_2) _ (lv_sub hl [0, 1, 2, 3] rfl)
  exact L_2 _ _ _ hB 0 (q_0.wk (by decide)) (Nat.lt_succ_self _) _ (lv_sub hl [0, 1, 2, 3] rfl)
theorem dX12_canFollow_0 : decode cX12_canFollow 0 = .ok (.iload_n 3, 1) := by decide +kernel
theorem dX12_canFollow_1 : decode cX12_canFollow 1 = .ok (.iload_n 1, 1) := by decide +kernel
theorem dX12_canFollow_2 : decode cX12_canFollow 2 = .ok (.ishr, 1) := by decide +kernel
theorem dX12_canFollow_3 : decode cX12_canFollow 3 = .ok (.iconst 1, 1) := by decide +kernel
theorem dX12_canFollow_4 : decode cX12_canFollow 4 = .ok (.iand, 1) := by decide +kernel
theorem dX12_canFollow_5 : decode cX12_canFollow 5 = .ok (.ifCond .ne 49, 3) := by decide +kernel
theorem dX12_canFollow_8 : decode cX12_canFollow 8 = .ok (.iload_n 2, 1) := by decide +kernel
theorem dX12_canFollow_9 : decode cX12_canFollow 9 = .ok (.bipush 8, 2) := by decide +kernel
theorem dX12_canFollow_11 : decode cX12_canFollow 11 = .ok (.if_icmp .eq 39, 3) := by decide +kernel
theorem dX12_canFollow_14 : decode cX12_canFollow 14 = .ok (.aload_n 0, 1) := by decide +kernel
theorem dX12_canFollow_15 : decode cX12_canFollow 15 = .ok (.aload_n 0, 1) := by decide +kernel
theorem dX12_canFollow_16 : decode cX12_canFollow 16 = .ok (.getfield 50, 3) := by decide +kernel
theorem dX12_canFollow_19 : decode cX12_canFollow 19 = .ok (.iload_n 1, 1) := by decide +kernel
theorem dX12_canFollow_20 : decode cX12_canFollow 20 = .ok (.iaload, 1) := by decide +kernel
theorem dX12_canFollow_21 : decode cX12_canFollow 21 = .ok (.iconst 1, 1) := by decide +kernel
theorem dX12_canFollow_22 : decode cX12_canFollow 22 = .ok (.invokevirtual 282, 3) := by decide +kernel
theorem dX12_canFollow_25 : decode cX12_canFollow 25 = .ok (.aload_n 0, 1) := by decide +kernel
theorem dX12_canFollow_26 : decode cX12_canFollow 26 = .ok (.aload_n 0, 1) := by decide +kernel
theorem dX12_canFollow_27 : decode cX12_canFollow 27 = .ok (.getfield 50, 3) := by decide +kernel
theorem dX12_canFollow_30 : decode cX12_canFollow 30 = .ok (.iload_n 2, 1) := by decide +kernel
theorem dX12_canFollow_31 : decode cX12_canFollow 31 = .ok (.iaload, 1) := by decide +kernel
theorem dX12_canFollow_32 : decode cX12_canFollow 32 = .ok (.iconst 1, 1) := by decide +kernel
theorem dX12_canFollow_33 : decode cX12_canFollow 33 = .ok (.invokevirtual 282, 3) := by decide +kernel
theorem dX12_canFollow_36 : decode cX12_canFollow 36 = .ok (.invokestatic 305, 3) := by decide +kernel
theorem dX12_canFollow_39 : decode cX12_canFollow 39 = .ok (.aload_n 0, 1) := by decide +kernel
theorem dX12_canFollow_40 : decode cX12_canFollow 40 = .ok (.getfield 7, 3) := by decide +kernel
theorem dX12_canFollow_43 : decode cX12_canFollow 43 = .ok (.sipush 147, 3) := by decide +kernel
theorem dX12_canFollow_46 : decode cX12_canFollow 46 = .ok (.iaload, 1) := by decide +kernel
theorem dX12_canFollow_47 : decode cX12_canFollow 47 = .ok (.if_icmp .lt 7, 3) := by decide +kernel
theorem dX12_canFollow_50 : decode cX12_canFollow 50 = .ok (.iconst 1, 1) := by decide +kernel
theorem dX12_canFollow_51 : decode cX12_canFollow 51 = .ok (.goto 4, 3) := by decide +kernel
theorem dX12_canFollow_54 : decode cX12_canFollow 54 = .ok (.iconst 0, 1) := by decide +kernel
theorem dX12_canFollow_55 : decode cX12_canFollow 55 = .ok (.ireturn, 1) := by decide +kernel
set_option maxHeartbeats 4000000 in
set_option maxRecDepth 100000 in
theorem c_X12_canFollow (l : Launch) (D : va_G) (tys : List (ClassId × FieldType)) (base : Nat) (G : iv_G) (h0 : Nat) (g_h0 : Nat → Int32) (r_h0 : Nat → Nat) (a_h0 : G h0 = some (12, g_h0, r_h0)) (x_0 : Int32) (i_x_0 : iv_R 0 7 x_0) (x_1 : Int32) (i_x_1 : iv_R 0 8 x_1) (x_2 : Int32) (i_x_2 : iv_R 0 255 x_2) : Met l yX12_canFollow (Cond.code yX12_canFollow cX12_canFollow 4 (some .boolean) :: iv_W0) ({ frames := 1, cells := 0, slots := 0, locals := 22 }) (iv_Pc iv_sh D classes tys base G [.ref h0, .int x_0, .int x_1, .int x_2]) (iv_Qi iv_sh D classes tys base (fun v G' => G = G' ∧ iv_R 0 1 v)) 0 0 (iv_A base) := by
  refine iv_head (by decide) (Nat.le_of_ble_eq_true rfl) ?_
  intro p e s m args below meth c ls X hr hlocks hname hB hl
  have X := X
  have hx := X.1.1
  have hb := X.1.2.1
  have hl : lv_has ls 4 [(0, .ref h0), (1, .int x_0), (2, .int x_1), (3, .int x_2)] := hl
  refine lv_iload_n hx hb dX12_canFollow_0 rfl (lv_at hl 3 rfl) ?_
  refine lv_iload_n hx hb dX12_canFollow_1 rfl (lv_at hl 1 rfl) ?_
  refine lv_ishr hx hb dX12_canFollow_2 ?_
  refine lv_topi (fun x1 e_x1 => ?_)
  have i_x1 := iv_R.all x1
  refine lv_iconst (v := 1) hx hb dX12_canFollow_3 (by decide) ?_
  refine iv_iand_r hx hb q_1 (by decide) dX12_canFollow_4 (fun x2 e_x2 i_x2 => ?_)
  refine lv_if_ne (tgt := 54) hx hb dX12_canFollow_5 (by decide) (fun c3 => ?_) (fun c3 => ?_)
  · skip
    have i3_x2 : iv_R 1 1 x2 := iv_ne_lo c3 i_x2 q_0 (by decide)
    refine lv_iconst (v := 0) hx hb dX12_canFollow_54 (by decide) ?_
    exact iv_zret X hr hlocks hB (q_0.wk (by decide)) ⟨rfl, (q_0.wk (by decide))⟩ dX12_canFollow_55
  · skip
    have i4_x2 : iv_R 0 0 x2 := (i_x2.cutHi (n := 0) (iv_eq_r c3 q_0).2)
    refine lv_iload_n hx hb dX12_canFollow_8 rfl (lv_at hl 2 rfl) ?_
    refine lv_bipush (v := 8) hx hb dX12_canFollow_9 (by decide) ?_
    refine lv_icmp_eq (tgt := 50) hx hb dX12_canFollow_11 (by decide) (fun c6 => ?_) (fun c6 => ?_)
    · skip
      have i6_x_1 : iv_R 8 8 x_1 := (i_x_1.cutLo (n := 8) (iv_eq_r c6 q_8).1)
      refine lv_iconst (v := 1) hx hb dX12_canFollow_50 (by decide) ?_
      refine lv_goto (tgt := 55) hx hb dX12_canFollow_51 (by decide) ?_
      exact iv_zret X hr hlocks hB (q_1.wk (by decide)) ⟨rfl, (q_1.wk (by decide))⟩ dX12_canFollow_55
    · skip
      have i7_x_1 : iv_R 0 7 x_1 := iv_ne_hi c6 i_x_1 q_8 (by decide)
      refine lv_aload_n hx hb dX12_canFollow_14 rfl (lv_at hl 0 rfl) ?_
      refine lv_aload_n hx hb dX12_canFollow_15 rfl (lv_at hl 0 rfl) ?_
      refine iv_getr X ft_X12 hB a_h0 sh_12 29 (by decide) rfl k_fl_X12_50 dX12_canFollow_16 (fun b9 g_b9 r_b9 e_b9 a_b9 => ?_)
      refine lv_iload_n hx hb dX12_canFollow_19 rfl (lv_at hl 1 rfl) ?_
      refine iv_ald X hB a_b9 sh_72 (iv_in i_x_0 (by decide)) dX12_canFollow_20 (fun x10 e_x10 i_x10 => ?_)
      refine lv_iconst (v := 1) hx hb dX12_canFollow_21 (by decide) ?_
      refine iv_cVi X k_good k_mf_X12_ofBell k_im_X12_ofBell k_sel_X12_ofBell k_ml_X12_282 ft_X12 hB a_h0 sh_12 (As := [.int x10, .int 1]) (c_X12_ofBell l D tys base G h0 g_h0 r_h0 a_h0 x10 i_x10 1 (q_1.wk (by decide))) ⟨rfl, rfl⟩ ⟨Nat.le_of_ble_eq_true rfl, Nat.le_of_ble_eq_true rfl⟩ ⟨Nat.le_of_ble_eq_true rfl, Nat.le_of_ble_eq_true rfl⟩ rfl rfl hl.1 (Nat.le_of_ble_eq_true rfl) dX12_canFollow_22 (fun x11 G9 H locs hq hB => ?_)
      obtain ⟨rfl, i_x11, cp12, cp13⟩ := hq
      have i13_x11 : iv_R 0 47 x11 := cp13 rfl
      refine lv_aload_n hx hb dX12_canFollow_25 rfl (lv_at hl 0 rfl) ?_
      refine lv_aload_n hx hb dX12_canFollow_26 rfl (lv_at hl 0 rfl) ?_
      refine iv_getr0 X ft_X12 hB a_h0 sh_12 29 (by decide) rfl k_fl_X12_50 dX12_canFollow_27 e_b9 ?_
      refine lv_iload_n hx hb dX12_canFollow_30 rfl (lv_at hl 2 rfl) ?_
      refine iv_ald X hB a_b9 sh_72 (iv_in i7_x_1 (by decide)) dX12_canFollow_31 (fun x15 e_x15 i_x15 => ?_)
      refine lv_iconst (v := 1) hx hb dX12_canFollow_32 (by decide) ?_
      refine iv_cVi X k_good k_mf_X12_ofBell k_im_X12_ofBell k_sel_X12_ofBell k_ml_X12_282 ft_X12 hB a_h0 sh_12 (As := [.int x15, .int 1]) (c_X12_ofBell l D tys base G h0 g_h0 r_h0 a_h0 x15 i_x15 1 (q_1.wk (by decide))) ⟨rfl, rfl⟩ ⟨Nat.le_of_ble_eq_true rfl, Nat.le_of_ble_eq_true rfl⟩ ⟨Nat.le_of_ble_eq_true rfl, Nat.le_of_ble_eq_true rfl⟩ rfl rfl hl.1 (Nat.le_of_ble_eq_true rfl) dX12_canFollow_33 (fun x16 G9 H locs hq hB => ?_)
      obtain ⟨rfl, i_x16, cp17, cp18⟩ := hq
      have i18_x16 : iv_R 0 47 x16 := cp18 rfl
      refine iv_cSi X k_good k_mf_X12_apart k_st_X12_apart k_ml_X12_305 hB (As := [.int x11, .int x16]) (c_X12_apart l D tys base G x11 i13_x11 x16 i18_x16) ⟨rfl, rfl⟩ ⟨Nat.le_of_ble_eq_true rfl, Nat.le_of_ble_eq_true rfl⟩ ⟨Nat.le_of_ble_eq_true rfl, Nat.le_of_ble_eq_true rfl⟩ rfl rfl hl.1 (Nat.le_of_ble_eq_true rfl) dX12_canFollow_36 (fun x20 G9 H locs hq hB => ?_)
      obtain ⟨rfl, i_x20⟩ := hq
      refine lv_aload_n hx hb dX12_canFollow_39 rfl (lv_at hl 0 rfl) ?_
      refine iv_getr X ft_X12 hB a_h0 sh_12 0 (by decide) rfl k_fl_X12_7 dX12_canFollow_40 (fun b21 g_b21 r_b21 e_b21 a_b21 => ?_)
      refine lv_sipush (v := 147) hx hb dX12_canFollow_43 (by decide) ?_
      refine iv_wald_c X hB a_b21 q_147 (by decide) (lo := (-2147483648)) (hi' := 2147483647) (by decide) dX12_canFollow_46 (fun x22 e_x22 i_x22 => ?_)
      refine lv_icmp_lt (tgt := 54) hx hb dX12_canFollow_47 (by decide) (fun c23 => ?_) (fun c23 => ?_)
      · skip
        have i23_x22 : iv_R (-46) 2147483647 x22 := (i_x22.cutLo (n := (-46)) (iv_lt_l c23 i_x20 (by decide)))
        refine lv_iconst (v := 0) hx hb dX12_canFollow_54 (by decide) ?_
        exact iv_zret X hr hlocks hB (q_0.wk (by decide)) ⟨rfl, (q_0.wk (by decide))⟩ dX12_canFollow_55
      · skip
        have i24_x22 : iv_R (-2147483648) 47 x22 := (i_x22.cutHi (n := 47) (iv_le_r (iv_nlt c23) i_x20))
        refine lv_iconst (v := 1) hx hb dX12_canFollow_50 (by decide) ?_
        refine lv_goto (tgt := 55) hx hb dX12_canFollow_51 (by decide) ?_
        exact iv_zret X hr hlocks hB (q_1.wk (by decide)) ⟨rfl, (q_1.wk (by decide))⟩ dX12_canFollow_55
theorem dX12_isBell_0 : decode cX12_isBell 0 = .ok (.iload_n 1, 1) := by decide +kernel
theorem dX12_isBell_1 : decode cX12_isBell 1 = .ok (.iconst 0, 1) := by decide +kernel
theorem dX12_isBell_2 : decode cX12_isBell 2 = .ok (.aload_n 0, 1) := by decide +kernel
theorem dX12_isBell_3 : decode cX12_isBell 3 = .ok (.getfield 7, 3) := by decide +kernel
theorem dX12_isBell_6 : decode cX12_isBell 6 = .ok (.sipush 146, 3) := by decide +kernel
theorem dX12_isBell_9 : decode cX12_isBell 9 = .ok (.iaload, 1) := by decide +kernel
theorem dX12_isBell_10 : decode cX12_isBell 10 = .ok (.iconst 1, 1) := by decide +kernel
theorem dX12_isBell_11 : decode cX12_isBell 11 = .ok (.isub, 1) := by decide +kernel
theorem dX12_isBell_12 : decode cX12_isBell 12 = .ok (.invokestatic 56, 3) := by decide +kernel
theorem dX12_isBell_15 : decode cX12_isBell 15 = .ok (.ireturn, 1) := by decide +kernel
set_option maxHeartbeats 4000000 in
set_option maxRecDepth 100000 in
theorem c_X12_isBell (l : Launch) (D : va_G) (tys : List (ClassId × FieldType)) (base : Nat) (G : iv_G) (h0 : Nat) (g_h0 : Nat → Int32) (r_h0 : Nat → Nat) (a_h0 : G h0 = some (12, g_h0, r_h0)) (x_0 : Int32) (i_x_0 : iv_R (-2147483648) 2147483647 x_0) : Met l yX12_isBell (Cond.code yX12_isBell cX12_isBell 2 (some .boolean) :: iv_W0) ({ frames := 1, cells := 0, slots := 0, locals := 22 }) (iv_Pc iv_sh D classes tys base G [.ref h0, .int x_0]) (iv_Qi iv_sh D classes tys base (fun v G' => G = G' ∧ iv_R 0 1 v ∧ (¬ v = 0 → iv_R 0 9 x_0))) 0 0 (iv_A base) := by
  refine iv_head (by decide) (Nat.le_of_ble_eq_true rfl) ?_
  intro p e s m args below meth c ls X hr hlocks hname hB hl
  have X := X
  have hx := X.1.1
  have hb := X.1.2.1
  have hl : lv_has ls 2 [(0, .ref h0), (1, .int x_0)] := hl
  refine lv_iload_n hx hb dX12_isBell_0 rfl (lv_at hl 1 rfl) ?_
  refine lv_iconst (v := 0) hx hb dX12_isBell_1 (by decide) ?_
  refine lv_aload_n hx hb dX12_isBell_2 rfl (lv_at hl 0 rfl) ?_
  refine iv_getr X ft_X12 hB a_h0 sh_12 0 (by decide) rfl k_fl_X12_7 dX12_isBell_3 (fun b1 g_b1 r_b1 e_b1 a_b1 => ?_)
  refine lv_sipush (v := 146) hx hb dX12_isBell_6 (by decide) ?_
  refine iv_wald_c X hB a_b1 q_146 (by decide) (lo := 0) (hi' := 10) (by decide) dX12_isBell_9 (fun x2 e_x2 i_x2 => ?_)
  refine lv_iconst (v := 1) hx hb dX12_isBell_10 (by decide) ?_
  refine iv_isub hx hb i_x2 q_1 (lo := (-1)) (hi := 9) (by decide) dX12_isBell_11 (fun x3 e_x3 i_x3 => ?_)
  refine iv_cSi X k_good k_mf_X12_isIn k_st_X12_isIn k_ml_X12_56 hB (As := [.int x_0, .int 0, .int x3]) (c_X12_isIn l D tys base G x_0 i_x_0 0 (q_0.wk (by decide)) x3 (i_x3.wk (by decide))) ⟨rfl, rfl⟩ ⟨Nat.le_of_ble_eq_true rfl, Nat.le_of_ble_eq_true rfl⟩ ⟨Nat.le_of_ble_eq_true rfl, Nat.le_of_ble_eq_true rfl⟩ rfl rfl hl.1 (Nat.le_of_ble_eq_true rfl) dX12_isBell_12 (fun x4 G9 H locs hq hB => ?_)
  obtain ⟨rfl, i_x4, hp5⟩ := hq
  have k6 : ¬ x4 = 0 → iv_R 0 9 x_0 := fun h => ⟨iv_max i_x_0.1 (Int.le_trans q_0.1 (hp5.1 h).1) (by decide), iv_min i_x_0.2 (Int.le_trans (hp5.1 h).2 i_x3.2) (by decide)⟩
  exact iv_zret X hr hlocks hB i_x4 ⟨rfl, i_x4, fun h => (k6 h).wk (by decide)⟩ dX12_isBell_15
theorem dX12_canSet_0 : decode cX12_canSet 0 = .ok (.iload_n 1, 1) := by decide +kernel
theorem dX12_canSet_1 : decode cX12_canSet 1 = .ok (.tableswitch 135 0 5 #[39, 47, 55, 64, 88, 111], 39) := by decide +kernel
theorem dX12_canSet_40 : decode cX12_canSet 40 = .ok (.iload_n 3, 1) := by decide +kernel
theorem dX12_canSet_41 : decode cX12_canSet 41 = .ok (.iconst 0, 1) := by decide +kernel
theorem dX12_canSet_42 : decode cX12_canSet 42 = .ok (.bipush 12, 2) := by decide +kernel
theorem dX12_canSet_44 : decode cX12_canSet 44 = .ok (.invokestatic 56, 3) := by decide +kernel
theorem dX12_canSet_47 : decode cX12_canSet 47 = .ok (.ireturn, 1) := by decide +kernel
theorem dX12_canSet_48 : decode cX12_canSet 48 = .ok (.iload_n 3, 1) := by decide +kernel
theorem dX12_canSet_49 : decode cX12_canSet 49 = .ok (.iconst 0, 1) := by decide +kernel
theorem dX12_canSet_50 : decode cX12_canSet 50 = .ok (.bipush 9, 2) := by decide +kernel
theorem dX12_canSet_52 : decode cX12_canSet 52 = .ok (.invokestatic 56, 3) := by decide +kernel
theorem dX12_canSet_55 : decode cX12_canSet 55 = .ok (.ireturn, 1) := by decide +kernel
theorem dX12_canSet_56 : decode cX12_canSet 56 = .ok (.iload_n 3, 1) := by decide +kernel
theorem dX12_canSet_57 : decode cX12_canSet 57 = .ok (.iconst 0, 1) := by decide +kernel
theorem dX12_canSet_58 : decode cX12_canSet 58 = .ok (.sipush 1000, 3) := by decide +kernel
theorem dX12_canSet_61 : decode cX12_canSet 61 = .ok (.invokestatic 56, 3) := by decide +kernel
theorem dX12_canSet_64 : decode cX12_canSet 64 = .ok (.ireturn, 1) := by decide +kernel
theorem dX12_canSet_65 : decode cX12_canSet 65 = .ok (.aload_n 0, 1) := by decide +kernel
theorem dX12_canSet_66 : decode cX12_canSet 66 = .ok (.iload_n 2, 1) := by decide +kernel
theorem dX12_canSet_67 : decode cX12_canSet 67 = .ok (.invokevirtual 76, 3) := by decide +kernel
theorem dX12_canSet_70 : decode cX12_canSet 70 = .ok (.ifCond .eq 17, 3) := by decide +kernel
theorem dX12_canSet_73 : decode cX12_canSet 73 = .ok (.iload_n 3, 1) := by decide +kernel
theorem dX12_canSet_74 : decode cX12_canSet 74 = .ok (.iconst 0, 1) := by decide +kernel
theorem dX12_canSet_75 : decode cX12_canSet 75 = .ok (.bipush 99, 2) := by decide +kernel
theorem dX12_canSet_77 : decode cX12_canSet 77 = .ok (.invokestatic 56, 3) := by decide +kernel
theorem dX12_canSet_80 : decode cX12_canSet 80 = .ok (.ifCond .eq 7, 3) := by decide +kernel
theorem dX12_canSet_83 : decode cX12_canSet 83 = .ok (.iconst 1, 1) := by decide +kernel
theorem dX12_canSet_84 : decode cX12_canSet 84 = .ok (.goto 4, 3) := by decide +kernel
theorem dX12_canSet_87 : decode cX12_canSet 87 = .ok (.iconst 0, 1) := by decide +kernel
theorem dX12_canSet_88 : decode cX12_canSet 88 = .ok (.ireturn, 1) := by decide +kernel
theorem dX12_canSet_89 : decode cX12_canSet 89 = .ok (.aload_n 0, 1) := by decide +kernel
theorem dX12_canSet_90 : decode cX12_canSet 90 = .ok (.iload_n 2, 1) := by decide +kernel
theorem dX12_canSet_91 : decode cX12_canSet 91 = .ok (.invokevirtual 76, 3) := by decide +kernel
theorem dX12_canSet_94 : decode cX12_canSet 94 = .ok (.ifCond .eq 16, 3) := by decide +kernel
theorem dX12_canSet_97 : decode cX12_canSet 97 = .ok (.iload_n 3, 1) := by decide +kernel
theorem dX12_canSet_98 : decode cX12_canSet 98 = .ok (.iconst 0, 1) := by decide +kernel
theorem dX12_canSet_99 : decode cX12_canSet 99 = .ok (.iconst 1, 1) := by decide +kernel
theorem dX12_canSet_100 : decode cX12_canSet 100 = .ok (.invokestatic 56, 3) := by decide +kernel
theorem dX12_canSet_103 : decode cX12_canSet 103 = .ok (.ifCond .eq 7, 3) := by decide +kernel
theorem dX12_canSet_106 : decode cX12_canSet 106 = .ok (.iconst 1, 1) := by decide +kernel
theorem dX12_canSet_107 : decode cX12_canSet 107 = .ok (.goto 4, 3) := by decide +kernel
theorem dX12_canSet_110 : decode cX12_canSet 110 = .ok (.iconst 0, 1) := by decide +kernel
theorem dX12_canSet_111 : decode cX12_canSet 111 = .ok (.ireturn, 1) := by decide +kernel
theorem dX12_canSet_112 : decode cX12_canSet 112 = .ok (.aload_n 0, 1) := by decide +kernel
theorem dX12_canSet_113 : decode cX12_canSet 113 = .ok (.iload_n 2, 1) := by decide +kernel
theorem dX12_canSet_114 : decode cX12_canSet 114 = .ok (.invokevirtual 76, 3) := by decide +kernel
theorem dX12_canSet_117 : decode cX12_canSet 117 = .ok (.ifCond .eq 17, 3) := by decide +kernel
theorem dX12_canSet_120 : decode cX12_canSet 120 = .ok (.iload_n 3, 1) := by decide +kernel
theorem dX12_canSet_121 : decode cX12_canSet 121 = .ok (.iconst 0, 1) := by decide +kernel
theorem dX12_canSet_122 : decode cX12_canSet 122 = .ok (.bipush 47, 2) := by decide +kernel
theorem dX12_canSet_124 : decode cX12_canSet 124 = .ok (.invokestatic 56, 3) := by decide +kernel
theorem dX12_canSet_127 : decode cX12_canSet 127 = .ok (.ifCond .eq 7, 3) := by decide +kernel
theorem dX12_canSet_130 : decode cX12_canSet 130 = .ok (.iconst 1, 1) := by decide +kernel
theorem dX12_canSet_131 : decode cX12_canSet 131 = .ok (.goto 4, 3) := by decide +kernel
theorem dX12_canSet_134 : decode cX12_canSet 134 = .ok (.iconst 0, 1) := by decide +kernel
theorem dX12_canSet_135 : decode cX12_canSet 135 = .ok (.ireturn, 1) := by decide +kernel
theorem dX12_canSet_136 : decode cX12_canSet 136 = .ok (.iconst 0, 1) := by decide +kernel
theorem dX12_canSet_137 : decode cX12_canSet 137 = .ok (.ireturn, 1) := by decide +kernel
set_option maxHeartbeats 4000000 in
set_option maxRecDepth 100000 in
theorem c_X12_canSet (l : Launch) (D : va_G) (tys : List (ClassId × FieldType)) (base : Nat) (G : iv_G) (h0 : Nat) (g_h0 : Nat → Int32) (r_h0 : Nat → Nat) (a_h0 : G h0 = some (12, g_h0, r_h0)) (x_0 : Int32) (i_x_0 : iv_R (-2147483648) 2147483647 x_0) (x_1 : Int32) (i_x_1 : iv_R (-2147483648) 2147483647 x_1) (x_2 : Int32) (i_x_2 : iv_R (-2147483648) 2147483647 x_2) : Met l yX12_canSet (Cond.code yX12_canSet cX12_canSet 4 (some .boolean) :: iv_W0) ({ frames := 2, cells := 0, slots := 0, locals := 43 }) (iv_Pc iv_sh D classes tys base G [.ref h0, .int x_0, .int x_1, .int x_2]) (iv_Qi iv_sh D classes tys base (fun v G' => G = G' ∧ iv_R 0 1 v ∧ (¬ v = 0 → iv_R 0 5 x_0) ∧ (¬ v = 0 → iv_R 0 1000 x_2) ∧ (¬ v = 0 → 3 ≤ x_0.toInt → iv_R 0 9 x_1) ∧ (¬ v = 0 → 5 ≤ x_0.toInt → iv_R 0 47 x_2))) 0 0 (iv_A base) := by
  refine iv_head (by decide) (Nat.le_of_ble_eq_true rfl) ?_
  intro p e s m args below meth c ls X hr hlocks hname hB hl
  have X := X
  have hx := X.1.1
  have hb := X.1.2.1
  have hl : lv_has ls 4 [(0, .ref h0), (1, .int x_0), (2, .int x_1), (3, .int x_2)] := hl
  refine lv_iload_n hx hb dX12_canSet_0 rfl (lv_at hl 1 rfl) ?_
  by_cases w1 : x_0.toInt = 0
  · skip
    refine lv_tableIn (tgt := 40) hx hb dX12_canSet_1 (by omega) (by omega) (by rw [w1]; rfl) (by decide) ?_
    have w1i : iv_R 0 0 x_0 := iv_lit w1
    refine lv_iload_n hx hb dX12_canSet_40 rfl (lv_at hl 3 rfl) ?_
    refine lv_iconst (v := 0) hx hb dX12_canSet_41 (by decide) ?_
    refine lv_bipush (v := 12) hx hb dX12_canSet_42 (by decide) ?_
    refine iv_cSi X k_good k_mf_X12_isIn k_st_X12_isIn k_ml_X12_56 hB (As := [.int x_2, .int 0, .int 12]) (c_X12_isIn l D tys base G x_2 i_x_2 0 (q_0.wk (by decide)) 12 (q_12.wk (by decide))) ⟨rfl, rfl⟩ ⟨Nat.le_of_ble_eq_true rfl, Nat.le_of_ble_eq_true rfl⟩ ⟨Nat.le_of_ble_eq_true rfl, Nat.le_of_ble_eq_true rfl⟩ rfl rfl hl.1 (Nat.le_of_ble_eq_true rfl) dX12_canSet_44 (fun x2 G9 H locs hq hB => ?_)
    obtain ⟨rfl, i_x2, hp3⟩ := hq
    have k4 : ¬ x2 = 0 → iv_R 0 12 x_2 := fun h => ⟨iv_max i_x_2.1 (Int.le_trans q_0.1 (hp3.1 h).1) (by decide), iv_min i_x_2.2 (Int.le_trans (hp3.1 h).2 q_12.2) (by decide)⟩
    exact iv_zret X hr hlocks hB i_x2 ⟨rfl, i_x2, fun _ => (w1i.wk (by decide)), fun h => (k4 h).wk (by decide), fun _ h => absurd (Int.le_trans h w1i.2) (by decide), fun _ h => absurd (Int.le_trans h w1i.2) (by decide)⟩ dX12_canSet_47
  skip
  by_cases w5 : x_0.toInt = 1
  · skip
    refine lv_tableIn (tgt := 48) hx hb dX12_canSet_1 (by omega) (by omega) (by rw [w5]; rfl) (by decide) ?_
    have w5i : iv_R 1 1 x_0 := iv_lit w5
    refine lv_iload_n hx hb dX12_canSet_48 rfl (lv_at hl 3 rfl) ?_
    refine lv_iconst (v := 0) hx hb dX12_canSet_49 (by decide) ?_
    refine lv_bipush (v := 9) hx hb dX12_canSet_50 (by decide) ?_
    refine iv_cSi X k_good k_mf_X12_isIn k_st_X12_isIn k_ml_X12_56 hB (As := [.int x_2, .int 0, .int 9]) (c_X12_isIn l D tys base G x_2 i_x_2 0 (q_0.wk (by decide)) 9 (q_9.wk (by decide))) ⟨rfl, rfl⟩ ⟨Nat.le_of_ble_eq_true rfl, Nat.le_of_ble_eq_true rfl⟩ ⟨Nat.le_of_ble_eq_true rfl, Nat.le_of_ble_eq_true rfl⟩ rfl rfl hl.1 (Nat.le_of_ble_eq_true rfl) dX12_canSet_52 (fun x6 G9 H locs hq hB => ?_)
    obtain ⟨rfl, i_x6, hp7⟩ := hq
    have k8 : ¬ x6 = 0 → iv_R 0 9 x_2 := fun h => ⟨iv_max i_x_2.1 (Int.le_trans q_0.1 (hp7.1 h).1) (by decide), iv_min i_x_2.2 (Int.le_trans (hp7.1 h).2 q_9.2) (by decide)⟩
    exact iv_zret X hr hlocks hB i_x6 ⟨rfl, i_x6, fun _ => (w5i.wk (by decide)), fun h => (k8 h).wk (by decide), fun _ h => absurd (Int.le_trans h w5i.2) (by decide), fun _ h => absurd (Int.le_trans h w5i.2) (by decide)⟩ dX12_canSet_55
  skip
  by_cases w9 : x_0.toInt = 2
  · skip
    refine lv_tableIn (tgt := 56) hx hb dX12_canSet_1 (by omega) (by omega) (by rw [w9]; rfl) (by decide) ?_
    have w9i : iv_R 2 2 x_0 := iv_lit w9
    refine lv_iload_n hx hb dX12_canSet_56 rfl (lv_at hl 3 rfl) ?_
    refine lv_iconst (v := 0) hx hb dX12_canSet_57 (by decide) ?_
    refine lv_sipush (v := 1000) hx hb dX12_canSet_58 (by decide) ?_
    refine iv_cSi X k_good k_mf_X12_isIn k_st_X12_isIn k_ml_X12_56 hB (As := [.int x_2, .int 0, .int 1000]) (c_X12_isIn l D tys base G x_2 i_x_2 0 (q_0.wk (by decide)) 1000 (q_1000.wk (by decide))) ⟨rfl, rfl⟩ ⟨Nat.le_of_ble_eq_true rfl, Nat.le_of_ble_eq_true rfl⟩ ⟨Nat.le_of_ble_eq_true rfl, Nat.le_of_ble_eq_true rfl⟩ rfl rfl hl.1 (Nat.le_of_ble_eq_true rfl) dX12_canSet_61 (fun x10 G9 H locs hq hB => ?_)
    obtain ⟨rfl, i_x10, hp11⟩ := hq
    have k12 : ¬ x10 = 0 → iv_R 0 1000 x_2 := fun h => ⟨iv_max i_x_2.1 (Int.le_trans q_0.1 (hp11.1 h).1) (by decide), iv_min i_x_2.2 (Int.le_trans (hp11.1 h).2 q_1000.2) (by decide)⟩
    exact iv_zret X hr hlocks hB i_x10 ⟨rfl, i_x10, fun _ => (w9i.wk (by decide)), fun h => (k12 h).wk (by decide), fun _ h => absurd (Int.le_trans h w9i.2) (by decide), fun _ h => absurd (Int.le_trans h w9i.2) (by decide)⟩ dX12_canSet_64
  skip
  by_cases w13 : x_0.toInt = 3
  · skip
    refine lv_tableIn (tgt := 65) hx hb dX12_canSet_1 (by omega) (by omega) (by rw [w13]; rfl) (by decide) ?_
    have w13i : iv_R 3 3 x_0 := iv_lit w13
    refine lv_aload_n hx hb dX12_canSet_65 rfl (lv_at hl 0 rfl) ?_
    refine lv_iload_n hx hb dX12_canSet_66 rfl (lv_at hl 2 rfl) ?_
    refine iv_cVi X k_good k_mf_X12_isBell k_im_X12_isBell k_sel_X12_isBell k_ml_X12_76 ft_X12 hB a_h0 sh_12 (As := [.int x_1]) (c_X12_isBell l D tys base G h0 g_h0 r_h0 a_h0 x_1 i_x_1) ⟨rfl, rfl⟩ ⟨Nat.le_of_ble_eq_true rfl, Nat.le_of_ble_eq_true rfl⟩ ⟨Nat.le_of_ble_eq_true rfl, Nat.le_of_ble_eq_true rfl⟩ rfl rfl hl.1 (Nat.le_of_ble_eq_true rfl) dX12_canSet_67 (fun x14 G9 H locs hq hB => ?_)
    obtain ⟨rfl, i_x14, hp15⟩ := hq
    refine lv_if_eq (tgt := 87) hx hb dX12_canSet_70 (by decide) (fun c16 => ?_) (fun c16 => ?_)
    · skip
      have i16_x14 : iv_R 0 0 x14 := (i_x14.cutHi (n := 0) (iv_eq_r c16 q_0).2)
      refine lv_iconst (v := 0) hx hb dX12_canSet_87 (by decide) ?_
      exact iv_zret X hr hlocks hB (q_0.wk (by decide)) ⟨rfl, (q_0.wk (by decide)), fun _ => (w13i.wk (by decide)), fun h => absurd (iv_z q_0) h, fun h _ => absurd (iv_z q_0) h, fun h _ => absurd (iv_z q_0) h⟩ dX12_canSet_88
    · skip
      have i17_x14 : iv_R 1 1 x14 := iv_ne_lo c16 i_x14 q_0 (by decide)
      have i18_x_1 : iv_R 0 9 x_1 := ((i_x_1.cutLo (n := 0) (hp15 c16).1).cutHi (n := 9) (hp15 c16).2)
      refine lv_iload_n hx hb dX12_canSet_73 rfl (lv_at hl 3 rfl) ?_
      refine lv_iconst (v := 0) hx hb dX12_canSet_74 (by decide) ?_
      refine lv_bipush (v := 99) hx hb dX12_canSet_75 (by decide) ?_
      refine iv_cSi X k_good k_mf_X12_isIn k_st_X12_isIn k_ml_X12_56 hB (As := [.int x_2, .int 0, .int 99]) (c_X12_isIn l D tys base G x_2 i_x_2 0 (q_0.wk (by decide)) 99 (q_99.wk (by decide))) ⟨rfl, rfl⟩ ⟨Nat.le_of_ble_eq_true rfl, Nat.le_of_ble_eq_true rfl⟩ ⟨Nat.le_of_ble_eq_true rfl, Nat.le_of_ble_eq_true rfl⟩ rfl rfl hl.1 (Nat.le_of_ble_eq_true rfl) dX12_canSet_77 (fun x20 G9 H locs hq hB => ?_)
      obtain ⟨rfl, i_x20, hp21⟩ := hq
      have k22 : ¬ x20 = 0 → iv_R 0 99 x_2 := fun h => ⟨iv_max i_x_2.1 (Int.le_trans q_0.1 (hp21.1 h).1) (by decide), iv_min i_x_2.2 (Int.le_trans (hp21.1 h).2 q_99.2) (by decide)⟩
      refine lv_if_eq (tgt := 87) hx hb dX12_canSet_80 (by decide) (fun c23 => ?_) (fun c23 => ?_)
      · skip
        have i23_x20 : iv_R 0 0 x20 := (i_x20.cutHi (n := 0) (iv_eq_r c23 q_0).2)
        refine lv_iconst (v := 0) hx hb dX12_canSet_87 (by decide) ?_
        exact iv_zret X hr hlocks hB (q_0.wk (by decide)) ⟨rfl, (q_0.wk (by decide)), fun _ => (w13i.wk (by decide)), fun h => absurd (iv_z q_0) h, fun h _ => absurd (iv_z q_0) h, fun h _ => absurd (iv_z q_0) h⟩ dX12_canSet_88
      · skip
        have i24_x20 : iv_R 1 1 x20 := iv_ne_lo c23 i_x20 q_0 (by decide)
        have i25_x_2 : iv_R 0 99 x_2 := ((i_x_2.cutLo (n := 0) (k22 c23).1).cutHi (n := 99) (k22 c23).2)
        refine lv_iconst (v := 1) hx hb dX12_canSet_83 (by decide) ?_
        refine lv_goto (tgt := 88) hx hb dX12_canSet_84 (by decide) ?_
        exact iv_zret X hr hlocks hB (q_1.wk (by decide)) ⟨rfl, (q_1.wk (by decide)), fun _ => (w13i.wk (by decide)), fun _ => (i25_x_2.wk (by decide)), fun _ _ => i18_x_1, fun _ h => absurd (Int.le_trans h w13i.2) (by decide)⟩ dX12_canSet_88
  skip
  by_cases w27 : x_0.toInt = 4
  · skip
    refine lv_tableIn (tgt := 89) hx hb dX12_canSet_1 (by omega) (by omega) (by rw [w27]; rfl) (by decide) ?_
    have w27i : iv_R 4 4 x_0 := iv_lit w27
    refine lv_aload_n hx hb dX12_canSet_89 rfl (lv_at hl 0 rfl) ?_
    refine lv_iload_n hx hb dX12_canSet_90 rfl (lv_at hl 2 rfl) ?_
    refine iv_cVi X k_good k_mf_X12_isBell k_im_X12_isBell k_sel_X12_isBell k_ml_X12_76 ft_X12 hB a_h0 sh_12 (As := [.int x_1]) (c_X12_isBell l D tys base G h0 g_h0 r_h0 a_h0 x_1 i_x_1) ⟨rfl, rfl⟩ ⟨Nat.le_of_ble_eq_true rfl, Nat.le_of_ble_eq_true rfl⟩ ⟨Nat.le_of_ble_eq_true rfl, Nat.le_of_ble_eq_true rfl⟩ rfl rfl hl.1 (Nat.le_of_ble_eq_true rfl) dX12_canSet_91 (fun x28 G9 H locs hq hB => ?_)
    obtain ⟨rfl, i_x28, hp29⟩ := hq
    refine lv_if_eq (tgt := 110) hx hb dX12_canSet_94 (by decide) (fun c30 => ?_) (fun c30 => ?_)
    · skip
      have i30_x28 : iv_R 0 0 x28 := (i_x28.cutHi (n := 0) (iv_eq_r c30 q_0).2)
      refine lv_iconst (v := 0) hx hb dX12_canSet_110 (by decide) ?_
      exact iv_zret X hr hlocks hB (q_0.wk (by decide)) ⟨rfl, (q_0.wk (by decide)), fun _ => (w27i.wk (by decide)), fun h => absurd (iv_z q_0) h, fun h _ => absurd (iv_z q_0) h, fun h _ => absurd (iv_z q_0) h⟩ dX12_canSet_111
    · skip
      have i31_x28 : iv_R 1 1 x28 := iv_ne_lo c30 i_x28 q_0 (by decide)
      have i32_x_1 : iv_R 0 9 x_1 := ((i_x_1.cutLo (n := 0) (hp29 c30).1).cutHi (n := 9) (hp29 c30).2)
      refine lv_iload_n hx hb dX12_canSet_97 rfl (lv_at hl 3 rfl) ?_
      refine lv_iconst (v := 0) hx hb dX12_canSet_98 (by decide) ?_
      refine lv_iconst (v := 1) hx hb dX12_canSet_99 (by decide) ?_
      refine iv_cSi X k_good k_mf_X12_isIn k_st_X12_isIn k_ml_X12_56 hB (As := [.int x_2, .int 0, .int 1]) (c_X12_isIn l D tys base G x_2 i_x_2 0 (q_0.wk (by decide)) 1 (q_1.wk (by decide))) ⟨rfl, rfl⟩ ⟨Nat.le_of_ble_eq_true rfl, Nat.le_of_ble_eq_true rfl⟩ ⟨Nat.le_of_ble_eq_true rfl, Nat.le_of_ble_eq_true rfl⟩ rfl rfl hl.1 (Nat.le_of_ble_eq_true rfl) dX12_canSet_100 (fun x34 G9 H locs hq hB => ?_)
      obtain ⟨rfl, i_x34, hp35⟩ := hq
      have k36 : ¬ x34 = 0 → iv_R 0 1 x_2 := fun h => ⟨iv_max i_x_2.1 (Int.le_trans q_0.1 (hp35.1 h).1) (by decide), iv_min i_x_2.2 (Int.le_trans (hp35.1 h).2 q_1.2) (by decide)⟩
      refine lv_if_eq (tgt := 110) hx hb dX12_canSet_103 (by decide) (fun c37 => ?_) (fun c37 => ?_)
      · skip
        have i37_x34 : iv_R 0 0 x34 := (i_x34.cutHi (n := 0) (iv_eq_r c37 q_0).2)
        refine lv_iconst (v := 0) hx hb dX12_canSet_110 (by decide) ?_
        exact iv_zret X hr hlocks hB (q_0.wk (by decide)) ⟨rfl, (q_0.wk (by decide)), fun _ => (w27i.wk (by decide)), fun h => absurd (iv_z q_0) h, fun h _ => absurd (iv_z q_0) h, fun h _ => absurd (iv_z q_0) h⟩ dX12_canSet_111
      · skip
        have i38_x34 : iv_R 1 1 x34 := iv_ne_lo c37 i_x34 q_0 (by decide)
        have i39_x_2 : iv_R 0 1 x_2 := ((i_x_2.cutLo (n := 0) (k36 c37).1).cutHi (n := 1) (k36 c37).2)
        refine lv_iconst (v := 1) hx hb dX12_canSet_106 (by decide) ?_
        refine lv_goto (tgt := 111) hx hb dX12_canSet_107 (by decide) ?_
        exact iv_zret X hr hlocks hB (q_1.wk (by decide)) ⟨rfl, (q_1.wk (by decide)), fun _ => (w27i.wk (by decide)), fun _ => (i39_x_2.wk (by decide)), fun _ _ => i32_x_1, fun _ h => absurd (Int.le_trans h w27i.2) (by decide)⟩ dX12_canSet_111
  skip
  by_cases w41 : x_0.toInt = 5
  · skip
    refine lv_tableIn (tgt := 112) hx hb dX12_canSet_1 (by omega) (by omega) (by rw [w41]; rfl) (by decide) ?_
    have w41i : iv_R 5 5 x_0 := iv_lit w41
    refine lv_aload_n hx hb dX12_canSet_112 rfl (lv_at hl 0 rfl) ?_
    refine lv_iload_n hx hb dX12_canSet_113 rfl (lv_at hl 2 rfl) ?_
    refine iv_cVi X k_good k_mf_X12_isBell k_im_X12_isBell k_sel_X12_isBell k_ml_X12_76 ft_X12 hB a_h0 sh_12 (As := [.int x_1]) (c_X12_isBell l D tys base G h0 g_h0 r_h0 a_h0 x_1 i_x_1) ⟨rfl, rfl⟩ ⟨Nat.le_of_ble_eq_true rfl, Nat.le_of_ble_eq_true rfl⟩ ⟨Nat.le_of_ble_eq_true rfl, Nat.le_of_ble_eq_true rfl⟩ rfl rfl hl.1 (Nat.le_of_ble_eq_true rfl) dX12_canSet_114 (fun x42 G9 H locs hq hB => ?_)
    obtain ⟨rfl, i_x42, hp43⟩ := hq
    refine lv_if_eq (tgt := 134) hx hb dX12_canSet_117 (by decide) (fun c44 => ?_) (fun c44 => ?_)
    · skip
      have i44_x42 : iv_R 0 0 x42 := (i_x42.cutHi (n := 0) (iv_eq_r c44 q_0).2)
      refine lv_iconst (v := 0) hx hb dX12_canSet_134 (by decide) ?_
      exact iv_zret X hr hlocks hB (q_0.wk (by decide)) ⟨rfl, (q_0.wk (by decide)), fun _ => (w41i.wk (by decide)), fun h => absurd (iv_z q_0) h, fun h _ => absurd (iv_z q_0) h, fun h _ => absurd (iv_z q_0) h⟩ dX12_canSet_135
    · skip
      have i45_x42 : iv_R 1 1 x42 := iv_ne_lo c44 i_x42 q_0 (by decide)
      have i46_x_1 : iv_R 0 9 x_1 := ((i_x_1.cutLo (n := 0) (hp43 c44).1).cutHi (n := 9) (hp43 c44).2)
      refine lv_iload_n hx hb dX12_canSet_120 rfl (lv_at hl 3 rfl) ?_
      refine lv_iconst (v := 0) hx hb dX12_canSet_121 (by decide) ?_
      refine lv_bipush (v := 47) hx hb dX12_canSet_122 (by decide) ?_
      refine iv_cSi X k_good k_mf_X12_isIn k_st_X12_isIn k_ml_X12_56 hB (As := [.int x_2, .int 0, .int 47]) (c_X12_isIn l D tys base G x_2 i_x_2 0 (q_0.wk (by decide)) 47 (q_47.wk (by decide))) ⟨rfl, rfl⟩ ⟨Nat.le_of_ble_eq_true rfl, Nat.le_of_ble_eq_true rfl⟩ ⟨Nat.le_of_ble_eq_true rfl, Nat.le_of_ble_eq_true rfl⟩ rfl rfl hl.1 (Nat.le_of_ble_eq_true rfl) dX12_canSet_124 (fun x48 G9 H locs hq hB => ?_)
      obtain ⟨rfl, i_x48, hp49⟩ := hq
      have k50 : ¬ x48 = 0 → iv_R 0 47 x_2 := fun h => ⟨iv_max i_x_2.1 (Int.le_trans q_0.1 (hp49.1 h).1) (by decide), iv_min i_x_2.2 (Int.le_trans (hp49.1 h).2 q_47.2) (by decide)⟩
      refine lv_if_eq (tgt := 134) hx hb dX12_canSet_127 (by decide) (fun c51 => ?_) (fun c51 => ?_)
      · skip
        have i51_x48 : iv_R 0 0 x48 := (i_x48.cutHi (n := 0) (iv_eq_r c51 q_0).2)
        refine lv_iconst (v := 0) hx hb dX12_canSet_134 (by decide) ?_
        exact iv_zret X hr hlocks hB (q_0.wk (by decide)) ⟨rfl, (q_0.wk (by decide)), fun _ => (w41i.wk (by decide)), fun h => absurd (iv_z q_0) h, fun h _ => absurd (iv_z q_0) h, fun h _ => absurd (iv_z q_0) h⟩ dX12_canSet_135
      · skip
        have i52_x48 : iv_R 1 1 x48 := iv_ne_lo c51 i_x48 q_0 (by decide)
        have i53_x_2 : iv_R 0 47 x_2 := ((i_x_2.cutLo (n := 0) (k50 c51).1).cutHi (n := 47) (k50 c51).2)
        refine lv_iconst (v := 1) hx hb dX12_canSet_130 (by decide) ?_
        refine lv_goto (tgt := 135) hx hb dX12_canSet_131 (by decide) ?_
        exact iv_zret X hr hlocks hB (q_1.wk (by decide)) ⟨rfl, (q_1.wk (by decide)), fun _ => (w41i.wk (by decide)), fun _ => (i53_x_2.wk (by decide)), fun _ _ => i46_x_1, fun _ _ => i53_x_2⟩ dX12_canSet_135
  skip
  refine lv_tableOut (tgt := 136) hx hb dX12_canSet_1 (by have := i_x_0.1; have := i_x_0.2; omega) (by decide) ?_
  refine lv_iconst (v := 0) hx hb dX12_canSet_136 (by decide) ?_
  exact iv_zret X hr hlocks hB (q_0.wk (by decide)) ⟨rfl, (q_0.wk (by decide)), fun h => absurd (iv_z q_0) h, fun h => absurd (iv_z q_0) h, fun h _ => absurd (iv_z q_0) h, fun h _ => absurd (iv_z q_0) h⟩ dX12_canSet_137
theorem dX12_ofChild_0 : decode cX12_ofChild 0 = .ok (.aload_n 0, 1) := by decide +kernel
theorem dX12_ofChild_1 : decode cX12_ofChild 1 = .ok (.getfield 7, 3) := by decide +kernel
theorem dX12_ofChild_4 : decode cX12_ofChild 4 = .ok (.iconst 5, 1) := by decide +kernel
theorem dX12_ofChild_5 : decode cX12_ofChild 5 = .ok (.iconst 3, 1) := by decide +kernel
theorem dX12_ofChild_6 : decode cX12_ofChild 6 = .ok (.iload_n 1, 1) := by decide +kernel
theorem dX12_ofChild_7 : decode cX12_ofChild 7 = .ok (.imul, 1) := by decide +kernel
theorem dX12_ofChild_8 : decode cX12_ofChild 8 = .ok (.iadd, 1) := by decide +kernel
theorem dX12_ofChild_9 : decode cX12_ofChild 9 = .ok (.iload_n 2, 1) := by decide +kernel
theorem dX12_ofChild_10 : decode cX12_ofChild 10 = .ok (.iadd, 1) := by decide +kernel
theorem dX12_ofChild_11 : decode cX12_ofChild 11 = .ok (.iaload, 1) := by decide +kernel
theorem dX12_ofChild_12 : decode cX12_ofChild 12 = .ok (.ireturn, 1) := by decide +kernel
set_option maxHeartbeats 4000000 in
set_option maxRecDepth 100000 in
theorem c_X12_ofChild (l : Launch) (D : va_G) (tys : List (ClassId × FieldType)) (base : Nat) (G : iv_G) (h0 : Nat) (g_h0 : Nat → Int32) (r_h0 : Nat → Nat) (a_h0 : G h0 = some (12, g_h0, r_h0)) (x_0 : Int32) (i_x_0 : iv_R 0 19 x_0) (x_1 : Int32) (i_x_1 : iv_R 0 2 x_1) : Met l yX12_ofChild (Cond.code yX12_ofChild cX12_ofChild 3 (some .int) :: iv_W0) ({ frames := 0, cells := 0, slots := 0, locals := 0 }) (iv_Pc iv_sh D classes tys base G [.ref h0, .int x_0, .int x_1]) (iv_Qi iv_sh D classes tys base (fun v G' => G = G' ∧ iv_R (-2147483648) 2147483647 v)) 0 0 (iv_A base) := by
  refine iv_head (by decide) (Nat.le_of_ble_eq_true rfl) ?_
  intro p e s m args below meth c ls X hr hlocks hname hB hl
  have X := X
  have hx := X.1.1
  have hb := X.1.2.1
  have hl : lv_has ls 3 [(0, .ref h0), (1, .int x_0), (2, .int x_1)] := hl
  refine lv_aload_n hx hb dX12_ofChild_0 rfl (lv_at hl 0 rfl) ?_
  refine iv_getr X ft_X12 hB a_h0 sh_12 0 (by decide) rfl k_fl_X12_7 dX12_ofChild_1 (fun b1 g_b1 r_b1 e_b1 a_b1 => ?_)
  refine lv_iconst (v := 5) hx hb dX12_ofChild_4 (by decide) ?_
  refine lv_iconst (v := 3) hx hb dX12_ofChild_5 (by decide) ?_
  refine lv_iload_n hx hb dX12_ofChild_6 rfl (lv_at hl 1 rfl) ?_
  refine iv_imul hx hb q_3 i_x_0 (lo := 0) (hi := 57) (by decide) dX12_ofChild_7 (fun x2 e_x2 i_x2 => ?_)
  refine iv_iadd hx hb q_5 i_x2 (lo := 5) (hi := 62) (by decide) dX12_ofChild_8 (fun x3 e_x3 i_x3 => ?_)
  refine lv_iload_n hx hb dX12_ofChild_9 rfl (lv_at hl 2 rfl) ?_
  refine iv_iadd hx hb i_x3 i_x_1 (lo := 5) (hi := 64) (by decide) dX12_ofChild_10 (fun x4 e_x4 i_x4 => ?_)
  refine iv_wald_f X hB a_b1 i_x4 (by decide) dX12_ofChild_11 (fun x5 e_x5 i_x5 => ?_)
  exact iv_iret X hr hlocks hB ⟨rfl, i_x5⟩ dX12_ofChild_12
theorem dX12_isWrong_0 : decode cX12_isWrong 0 = .ok (.aload_n 0, 1) := by decide +kernel
theorem dX12_isWrong_1 : decode cX12_isWrong 1 = .ok (.getfield 47, 3) := by decide +kernel
theorem dX12_isWrong_4 : decode cX12_isWrong 4 = .ok (.iload_n 1, 1) := by decide +kernel
theorem dX12_isWrong_5 : decode cX12_isWrong 5 = .ok (.iaload, 1) := by decide +kernel
theorem dX12_isWrong_6 : decode cX12_isWrong 6 = .ok (.aload_n 0, 1) := by decide +kernel
theorem dX12_isWrong_7 : decode cX12_isWrong 7 = .ok (.iload_n 1, 1) := by decide +kernel
theorem dX12_isWrong_8 : decode cX12_isWrong 8 = .ok (.iconst 0, 1) := by decide +kernel
theorem dX12_isWrong_9 : decode cX12_isWrong 9 = .ok (.invokevirtual 335, 3) := by decide +kernel
theorem dX12_isWrong_12 : decode cX12_isWrong 12 = .ok (.if_icmp .eq 7, 3) := by decide +kernel
theorem dX12_isWrong_15 : decode cX12_isWrong 15 = .ok (.iconst 1, 1) := by decide +kernel
theorem dX12_isWrong_16 : decode cX12_isWrong 16 = .ok (.goto 4, 3) := by decide +kernel
theorem dX12_isWrong_19 : decode cX12_isWrong 19 = .ok (.iconst 0, 1) := by decide +kernel
theorem dX12_isWrong_20 : decode cX12_isWrong 20 = .ok (.ireturn, 1) := by decide +kernel
set_option maxHeartbeats 4000000 in
set_option maxRecDepth 100000 in
theorem c_X12_isWrong (l : Launch) (D : va_G) (tys : List (ClassId × FieldType)) (base : Nat) (G : iv_G) (h0 : Nat) (g_h0 : Nat → Int32) (r_h0 : Nat → Nat) (a_h0 : G h0 = some (12, g_h0, r_h0)) (x_0 : Int32) (i_x_0 : iv_R 0 19 x_0) : Met l yX12_isWrong (Cond.code yX12_isWrong cX12_isWrong 2 (some .boolean) :: iv_W0) ({ frames := 1, cells := 0, slots := 0, locals := 22 }) (iv_Pc iv_sh D classes tys base G [.ref h0, .int x_0]) (iv_Qi iv_sh D classes tys base (fun v G' => G = G' ∧ iv_R 0 1 v)) 0 0 (iv_A base) := by
  refine iv_head (by decide) (Nat.le_of_ble_eq_true rfl) ?_
  intro p e s m args below meth c ls X hr hlocks hname hB hl
  have X := X
  have hx := X.1.1
  have hb := X.1.2.1
  have hl : lv_has ls 2 [(0, .ref h0), (1, .int x_0)] := hl
  refine lv_aload_n hx hb dX12_isWrong_0 rfl (lv_at hl 0 rfl) ?_
  refine iv_getr X ft_X12 hB a_h0 sh_12 28 (by decide) rfl k_fl_X12_47 dX12_isWrong_1 (fun b1 g_b1 r_b1 e_b1 a_b1 => ?_)
  refine lv_iload_n hx hb dX12_isWrong_4 rfl (lv_at hl 1 rfl) ?_
  refine iv_ald X hB a_b1 sh_71 (iv_in i_x_0 (by decide)) dX12_isWrong_5 (fun x2 e_x2 i_x2 => ?_)
  refine lv_aload_n hx hb dX12_isWrong_6 rfl (lv_at hl 0 rfl) ?_
  refine lv_iload_n hx hb dX12_isWrong_7 rfl (lv_at hl 1 rfl) ?_
  refine lv_iconst (v := 0) hx hb dX12_isWrong_8 (by decide) ?_
  refine iv_cVi X k_good k_mf_X12_ofChild k_im_X12_ofChild k_sel_X12_ofChild k_ml_X12_335 ft_X12 hB a_h0 sh_12 (As := [.int x_0, .int 0]) (c_X12_ofChild l D tys base G h0 g_h0 r_h0 a_h0 x_0 i_x_0 0 (q_0.wk (by decide))) ⟨rfl, rfl⟩ ⟨Nat.le_of_ble_eq_true rfl, Nat.le_of_ble_eq_true rfl⟩ ⟨Nat.le_of_ble_eq_true rfl, Nat.le_of_ble_eq_true rfl⟩ rfl rfl hl.1 (Nat.le_of_ble_eq_true rfl) dX12_isWrong_9 (fun x3 G9 H locs hq hB => ?_)
  obtain ⟨rfl, i_x3⟩ := hq
  refine lv_icmp_eq (tgt := 19) hx hb dX12_isWrong_12 (by decide) (fun c4 => ?_) (fun c4 => ?_)
  · skip
    refine lv_iconst (v := 0) hx hb dX12_isWrong_19 (by decide) ?_
    exact iv_zret X hr hlocks hB (q_0.wk (by decide)) ⟨rfl, (q_0.wk (by decide))⟩ dX12_isWrong_20
  · skip
    refine lv_iconst (v := 1) hx hb dX12_isWrong_15 (by decide) ?_
    refine lv_goto (tgt := 20) hx hb dX12_isWrong_16 (by decide) ?_
    exact iv_zret X hr hlocks hB (q_1.wk (by decide)) ⟨rfl, (q_1.wk (by decide))⟩ dX12_isWrong_20
theorem dX12_canTakeFrom_0 : decode cX12_canTakeFrom 0 = .ok (.iload_n 2, 1) := by decide +kernel
theorem dX12_canTakeFrom_1 : decode cX12_canTakeFrom 1 = .ok (.iload_n 1, 1) := by decide +kernel
theorem dX12_canTakeFrom_2 : decode cX12_canTakeFrom 2 = .ok (.if_icmp .eq 30, 3) := by decide +kernel
theorem dX12_canTakeFrom_5 : decode cX12_canTakeFrom 5 = .ok (.aload_n 0, 1) := by decide +kernel
theorem dX12_canTakeFrom_6 : decode cX12_canTakeFrom 6 = .ok (.iload_n 2, 1) := by decide +kernel
theorem dX12_canTakeFrom_7 : decode cX12_canTakeFrom 7 = .ok (.invokevirtual 417, 3) := by decide +kernel
theorem dX12_canTakeFrom_10 : decode cX12_canTakeFrom 10 = .ok (.ifCond .eq 22, 3) := by decide +kernel
theorem dX12_canTakeFrom_13 : decode cX12_canTakeFrom 13 = .ok (.aload_n 0, 1) := by decide +kernel
theorem dX12_canTakeFrom_14 : decode cX12_canTakeFrom 14 = .ok (.getfield 47, 3) := by decide +kernel
theorem dX12_canTakeFrom_17 : decode cX12_canTakeFrom 17 = .ok (.iload_n 2, 1) := by decide +kernel
theorem dX12_canTakeFrom_18 : decode cX12_canTakeFrom 18 = .ok (.iaload, 1) := by decide +kernel
theorem dX12_canTakeFrom_19 : decode cX12_canTakeFrom 19 = .ok (.aload_n 0, 1) := by decide +kernel
theorem dX12_canTakeFrom_20 : decode cX12_canTakeFrom 20 = .ok (.iload_n 1, 1) := by decide +kernel
theorem dX12_canTakeFrom_21 : decode cX12_canTakeFrom 21 = .ok (.iconst 0, 1) := by decide +kernel
theorem dX12_canTakeFrom_22 : decode cX12_canTakeFrom 22 = .ok (.invokevirtual 335, 3) := by decide +kernel
theorem dX12_canTakeFrom_25 : decode cX12_canTakeFrom 25 = .ok (.if_icmp .ne 7, 3) := by decide +kernel
theorem dX12_canTakeFrom_28 : decode cX12_canTakeFrom 28 = .ok (.iconst 1, 1) := by decide +kernel
theorem dX12_canTakeFrom_29 : decode cX12_canTakeFrom 29 = .ok (.goto 4, 3) := by decide +kernel
theorem dX12_canTakeFrom_32 : decode cX12_canTakeFrom 32 = .ok (.iconst 0, 1) := by decide +kernel
theorem dX12_canTakeFrom_33 : decode cX12_canTakeFrom 33 = .ok (.ireturn, 1) := by decide +kernel
set_option maxHeartbeats 4000000 in
set_option maxRecDepth 100000 in
theorem c_X12_canTakeFrom (l : Launch) (D : va_G) (tys : List (ClassId × FieldType)) (base : Nat) (G : iv_G) (h0 : Nat) (g_h0 : Nat → Int32) (r_h0 : Nat → Nat) (a_h0 : G h0 = some (12, g_h0, r_h0)) (x_0 : Int32) (i_x_0 : iv_R 0 19 x_0) (x_1 : Int32) (i_x_1 : iv_R 0 19 x_1) : Met l yX12_canTakeFrom (Cond.code yX12_canTakeFrom cX12_canTakeFrom 3 (some .boolean) :: iv_W0) ({ frames := 2, cells := 0, slots := 0, locals := 43 }) (iv_Pc iv_sh D classes tys base G [.ref h0, .int x_0, .int x_1]) (iv_Qi iv_sh D classes tys base (fun v G' => G = G' ∧ iv_R 0 1 v)) 0 0 (iv_A base) := by
  refine iv_head (by decide) (Nat.le_of_ble_eq_true rfl) ?_
  intro p e s m args below meth c ls X hr hlocks hname hB hl
  have X := X
  have hx := X.1.1
  have hb := X.1.2.1
  have hl : lv_has ls 3 [(0, .ref h0), (1, .int x_0), (2, .int x_1)] := hl
  refine lv_iload_n hx hb dX12_canTakeFrom_0 rfl (lv_at hl 2 rfl) ?_
  refine lv_iload_n hx hb dX12_canTakeFrom_1 rfl (lv_at hl 1 rfl) ?_
  refine lv_icmp_eq (tgt := 32) hx hb dX12_canTakeFrom_2 (by decide) (fun c1 => ?_) (fun c1 => ?_)
  · skip
    refine lv_iconst (v := 0) hx hb dX12_canTakeFrom_32 (by decide) ?_
    exact iv_zret X hr hlocks hB (q_0.wk (by decide)) ⟨rfl, (q_0.wk (by decide))⟩ dX12_canTakeFrom_33
  · skip
    refine lv_aload_n hx hb dX12_canTakeFrom_5 rfl (lv_at hl 0 rfl) ?_
    refine lv_iload_n hx hb dX12_canTakeFrom_6 rfl (lv_at hl 2 rfl) ?_
    refine iv_cVi X k_good k_mf_X12_isWrong k_im_X12_isWrong k_sel_X12_isWrong k_ml_X12_417 ft_X12 hB a_h0 sh_12 (As := [.int x_1]) (c_X12_isWrong l D tys base G h0 g_h0 r_h0 a_h0 x_1 i_x_1) ⟨rfl, rfl⟩ ⟨Nat.le_of_ble_eq_true rfl, Nat.le_of_ble_eq_true rfl⟩ ⟨Nat.le_of_ble_eq_true rfl, Nat.le_of_ble_eq_true rfl⟩ rfl rfl hl.1 (Nat.le_of_ble_eq_true rfl) dX12_canTakeFrom_7 (fun x2 G9 H locs hq hB => ?_)
    obtain ⟨rfl, i_x2⟩ := hq
    refine lv_if_eq (tgt := 32) hx hb dX12_canTakeFrom_10 (by decide) (fun c3 => ?_) (fun c3 => ?_)
    · skip
      have i3_x2 : iv_R 0 0 x2 := (i_x2.cutHi (n := 0) (iv_eq_r c3 q_0).2)
      refine lv_iconst (v := 0) hx hb dX12_canTakeFrom_32 (by decide) ?_
      exact iv_zret X hr hlocks hB (q_0.wk (by decide)) ⟨rfl, (q_0.wk (by decide))⟩ dX12_canTakeFrom_33
    · skip
      have i4_x2 : iv_R 1 1 x2 := iv_ne_lo c3 i_x2 q_0 (by decide)
      refine lv_aload_n hx hb dX12_canTakeFrom_13 rfl (lv_at hl 0 rfl) ?_
      refine iv_getr X ft_X12 hB a_h0 sh_12 28 (by decide) rfl k_fl_X12_47 dX12_canTakeFrom_14 (fun b6 g_b6 r_b6 e_b6 a_b6 => ?_)
      refine lv_iload_n hx hb dX12_canTakeFrom_17 rfl (lv_at hl 2 rfl) ?_
      refine iv_ald X hB a_b6 sh_71 (iv_in i_x_1 (by decide)) dX12_canTakeFrom_18 (fun x7 e_x7 i_x7 => ?_)
      refine lv_aload_n hx hb dX12_canTakeFrom_19 rfl (lv_at hl 0 rfl) ?_
      refine lv_iload_n hx hb dX12_canTakeFrom_20 rfl (lv_at hl 1 rfl) ?_
      refine lv_iconst (v := 0) hx hb dX12_canTakeFrom_21 (by decide) ?_
      refine iv_cVi X k_good k_mf_X12_ofChild k_im_X12_ofChild k_sel_X12_ofChild k_ml_X12_335 ft_X12 hB a_h0 sh_12 (As := [.int x_0, .int 0]) (c_X12_ofChild l D tys base G h0 g_h0 r_h0 a_h0 x_0 i_x_0 0 (q_0.wk (by decide))) ⟨rfl, rfl⟩ ⟨Nat.le_of_ble_eq_true rfl, Nat.le_of_ble_eq_true rfl⟩ ⟨Nat.le_of_ble_eq_true rfl, Nat.le_of_ble_eq_true rfl⟩ rfl rfl hl.1 (Nat.le_of_ble_eq_true rfl) dX12_canTakeFrom_22 (fun x8 G9 H locs hq hB => ?_)
      obtain ⟨rfl, i_x8⟩ := hq
      refine lv_icmp_ne (tgt := 32) hx hb dX12_canTakeFrom_25 (by decide) (fun c9 => ?_) (fun c9 => ?_)
      · skip
        refine lv_iconst (v := 0) hx hb dX12_canTakeFrom_32 (by decide) ?_
        exact iv_zret X hr hlocks hB (q_0.wk (by decide)) ⟨rfl, (q_0.wk (by decide))⟩ dX12_canTakeFrom_33
      · skip
        refine lv_iconst (v := 1) hx hb dX12_canTakeFrom_28 (by decide) ?_
        refine lv_goto (tgt := 33) hx hb dX12_canTakeFrom_29 (by decide) ?_
        exact iv_zret X hr hlocks hB (q_1.wk (by decide)) ⟨rfl, (q_1.wk (by decide))⟩ dX12_canTakeFrom_33
theorem dX12_child_0 : decode cX12_child 0 = .ok (.aload_n 0, 1) := by decide +kernel
theorem dX12_child_1 : decode cX12_child 1 = .ok (.iload_n 1, 1) := by decide +kernel
theorem dX12_child_2 : decode cX12_child 2 = .ok (.invokevirtual 338, 3) := by decide +kernel
theorem dX12_child_5 : decode cX12_child 5 = .ok (.ifCond .eq 21, 3) := by decide +kernel
theorem dX12_child_8 : decode cX12_child 8 = .ok (.iload_n 2, 1) := by decide +kernel
theorem dX12_child_9 : decode cX12_child 9 = .ok (.iconst 0, 1) := by decide +kernel
theorem dX12_child_10 : decode cX12_child 10 = .ok (.iconst 2, 1) := by decide +kernel
theorem dX12_child_11 : decode cX12_child 11 = .ok (.invokestatic 56, 3) := by decide +kernel
theorem dX12_child_14 : decode cX12_child 14 = .ok (.ifCond .eq 12, 3) := by decide +kernel
theorem dX12_child_17 : decode cX12_child 17 = .ok (.aload_n 0, 1) := by decide +kernel
theorem dX12_child_18 : decode cX12_child 18 = .ok (.iload_n 1, 1) := by decide +kernel
theorem dX12_child_19 : decode cX12_child 19 = .ok (.iload_n 2, 1) := by decide +kernel
theorem dX12_child_20 : decode cX12_child 20 = .ok (.invokevirtual 335, 3) := by decide +kernel
theorem dX12_child_23 : decode cX12_child 23 = .ok (.goto 4, 3) := by decide +kernel
theorem dX12_child_26 : decode cX12_child 26 = .ok (.iconst (-1), 1) := by decide +kernel
theorem dX12_child_27 : decode cX12_child 27 = .ok (.ireturn, 1) := by decide +kernel
set_option maxHeartbeats 4000000 in
set_option maxRecDepth 100000 in
theorem c_X12_child (l : Launch) (D : va_G) (tys : List (ClassId × FieldType)) (base : Nat) (G : iv_G) (h0 : Nat) (g_h0 : Nat → Int32) (r_h0 : Nat → Nat) (a_h0 : G h0 = some (12, g_h0, r_h0)) (x_0 : Int32) (i_x_0 : iv_R (-2147483648) 2147483647 x_0) (x_1 : Int32) (i_x_1 : iv_R (-2147483648) 2147483647 x_1) : Met l yX12_child (Cond.code yX12_child cX12_child 3 (some .int) :: iv_W0) ({ frames := 2, cells := 0, slots := 0, locals := 43 }) (iv_Pc iv_sh D classes tys base G [.ref h0, .int x_0, .int x_1]) (iv_Qi iv_sh D classes tys base (fun v G' => G = G' ∧ iv_R (-2147483648) 2147483647 v)) 0 0 (iv_A base) := by
  refine iv_head (by decide) (Nat.le_of_ble_eq_true rfl) ?_
  intro p e s m args below meth c ls X hr hlocks hname hB hl
  have X := X
  have hx := X.1.1
  have hb := X.1.2.1
  have hl : lv_has ls 3 [(0, .ref h0), (1, .int x_0), (2, .int x_1)] := hl
  refine lv_aload_n hx hb dX12_child_0 rfl (lv_at hl 0 rfl) ?_
  refine lv_iload_n hx hb dX12_child_1 rfl (lv_at hl 1 rfl) ?_
  refine iv_cVi X k_good k_mf_X12_isChild k_im_X12_isChild k_sel_X12_isChild k_ml_X12_338 ft_X12 hB a_h0 sh_12 (As := [.int x_0]) (c_X12_isChild l D tys base G h0 g_h0 r_h0 a_h0 x_0 i_x_0) ⟨rfl, rfl⟩ ⟨Nat.le_of_ble_eq_true rfl, Nat.le_of_ble_eq_true rfl⟩ ⟨Nat.le_of_ble_eq_true rfl, Nat.le_of_ble_eq_true rfl⟩ rfl rfl hl.1 (Nat.le_of_ble_eq_true rfl) dX12_child_2 (fun x1 G9 H locs hq hB => ?_)
  obtain ⟨rfl, i_x1, hp2⟩ := hq
  refine lv_if_eq (tgt := 26) hx hb dX12_child_5 (by decide) (fun c3 => ?_) (fun c3 => ?_)
  · skip
    have i3_x1 : iv_R 0 0 x1 := (i_x1.cutHi (n := 0) (iv_eq_r c3 q_0).2)
    refine lv_iconst (v := (-1)) hx hb dX12_child_26 (by decide) ?_
    exact iv_iret X hr hlocks hB ⟨rfl, (q_n1.wk (by decide))⟩ dX12_child_27
  · skip
    have i4_x1 : iv_R 1 1 x1 := iv_ne_lo c3 i_x1 q_0 (by decide)
    have i5_x_0 : iv_R 0 19 x_0 := ((i_x_0.cutLo (n := 0) (hp2 c3).1).cutHi (n := 19) (hp2 c3).2)
    refine lv_iload_n hx hb dX12_child_8 rfl (lv_at hl 2 rfl) ?_
    refine lv_iconst (v := 0) hx hb dX12_child_9 (by decide) ?_
    refine lv_iconst (v := 2) hx hb dX12_child_10 (by decide) ?_
    refine iv_cSi X k_good k_mf_X12_isIn k_st_X12_isIn k_ml_X12_56 hB (As := [.int x_1, .int 0, .int 2]) (c_X12_isIn l D tys base G x_1 i_x_1 0 (q_0.wk (by decide)) 2 (q_2.wk (by decide))) ⟨rfl, rfl⟩ ⟨Nat.le_of_ble_eq_true rfl, Nat.le_of_ble_eq_true rfl⟩ ⟨Nat.le_of_ble_eq_true rfl, Nat.le_of_ble_eq_true rfl⟩ rfl rfl hl.1 (Nat.le_of_ble_eq_true rfl) dX12_child_11 (fun x7 G9 H locs hq hB => ?_)
    obtain ⟨rfl, i_x7, hp8⟩ := hq
    have k9 : ¬ x7 = 0 → iv_R 0 2 x_1 := fun h => ⟨iv_max i_x_1.1 (Int.le_trans q_0.1 (hp8.1 h).1) (by decide), iv_min i_x_1.2 (Int.le_trans (hp8.1 h).2 q_2.2) (by decide)⟩
    refine lv_if_eq (tgt := 26) hx hb dX12_child_14 (by decide) (fun c10 => ?_) (fun c10 => ?_)
    · skip
      have i10_x7 : iv_R 0 0 x7 := (i_x7.cutHi (n := 0) (iv_eq_r c10 q_0).2)
      refine lv_iconst (v := (-1)) hx hb dX12_child_26 (by decide) ?_
      exact iv_iret X hr hlocks hB ⟨rfl, (q_n1.wk (by decide))⟩ dX12_child_27
    · skip
      have i11_x7 : iv_R 1 1 x7 := iv_ne_lo c10 i_x7 q_0 (by decide)
      have i12_x_1 : iv_R 0 2 x_1 := ((i_x_1.cutLo (n := 0) (k9 c10).1).cutHi (n := 2) (k9 c10).2)
      refine lv_aload_n hx hb dX12_child_17 rfl (lv_at hl 0 rfl) ?_
      refine lv_iload_n hx hb dX12_child_18 rfl (lv_at hl 1 rfl) ?_
      refine lv_iload_n hx hb dX12_child_19 rfl (lv_at hl 2 rfl) ?_
      refine iv_cVi X k_good k_mf_X12_ofChild k_im_X12_ofChild k_sel_X12_ofChild k_ml_X12_335 ft_X12 hB a_h0 sh_12 (As := [.int x_0, .int x_1]) (c_X12_ofChild l D tys base G h0 g_h0 r_h0 a_h0 x_0 i5_x_0 x_1 i12_x_1) ⟨rfl, rfl⟩ ⟨Nat.le_of_ble_eq_true rfl, Nat.le_of_ble_eq_true rfl⟩ ⟨Nat.le_of_ble_eq_true rfl, Nat.le_of_ble_eq_true rfl⟩ rfl rfl hl.1 (Nat.le_of_ble_eq_true rfl) dX12_child_20 (fun x14 G9 H locs hq hB => ?_)
      obtain ⟨rfl, i_x14⟩ := hq
      refine lv_goto (tgt := 27) hx hb dX12_child_23 (by decide) ?_
      exact iv_iret X hr hlocks hB ⟨rfl, i_x14⟩ dX12_child_27
theorem dX12_comingWord_0 : decode cX12_comingWord 0 = .ok (.aload_n 0, 1) := by decide +kernel
theorem dX12_comingWord_1 : decode cX12_comingWord 1 = .ok (.ldc 131, 2) := by decide +kernel
theorem dX12_comingWord_3 : decode cX12_comingWord 3 = .ok (.invokevirtual 103, 3) := by decide +kernel
theorem dX12_comingWord_6 : decode cX12_comingWord 6 = .ok (.ifCond .eq 6, 3) := by decide +kernel
theorem dX12_comingWord_9 : decode cX12_comingWord 9 = .ok (.bipush 21, 2) := by decide +kernel
theorem dX12_comingWord_11 : decode cX12_comingWord 11 = .ok (.ireturn, 1) := by decide +kernel
theorem dX12_comingWord_12 : decode cX12_comingWord 12 = .ok (.aload_n 0, 1) := by decide +kernel
theorem dX12_comingWord_13 : decode cX12_comingWord 13 = .ok (.ldc 133, 2) := by decide +kernel
theorem dX12_comingWord_15 : decode cX12_comingWord 15 = .ok (.invokevirtual 103, 3) := by decide +kernel
theorem dX12_comingWord_18 : decode cX12_comingWord 18 = .ok (.ifCond .eq 6, 3) := by decide +kernel
theorem dX12_comingWord_21 : decode cX12_comingWord 21 = .ok (.bipush 22, 2) := by decide +kernel
theorem dX12_comingWord_23 : decode cX12_comingWord 23 = .ok (.ireturn, 1) := by decide +kernel
theorem dX12_comingWord_24 : decode cX12_comingWord 24 = .ok (.aload_n 0, 1) := by decide +kernel
theorem dX12_comingWord_25 : decode cX12_comingWord 25 = .ok (.ldc 135, 2) := by decide +kernel
theorem dX12_comingWord_27 : decode cX12_comingWord 27 = .ok (.invokevirtual 103, 3) := by decide +kernel
theorem dX12_comingWord_30 : decode cX12_comingWord 30 = .ok (.ifCond .eq 6, 3) := by decide +kernel
theorem dX12_comingWord_33 : decode cX12_comingWord 33 = .ok (.bipush 49, 2) := by decide +kernel
theorem dX12_comingWord_35 : decode cX12_comingWord 35 = .ok (.ireturn, 1) := by decide +kernel
theorem dX12_comingWord_36 : decode cX12_comingWord 36 = .ok (.aload_n 0, 1) := by decide +kernel
theorem dX12_comingWord_37 : decode cX12_comingWord 37 = .ok (.ldc 137, 2) := by decide +kernel
theorem dX12_comingWord_39 : decode cX12_comingWord 39 = .ok (.invokevirtual 103, 3) := by decide +kernel
theorem dX12_comingWord_42 : decode cX12_comingWord 42 = .ok (.ifCond .eq 6, 3) := by decide +kernel
theorem dX12_comingWord_45 : decode cX12_comingWord 45 = .ok (.bipush 50, 2) := by decide +kernel
theorem dX12_comingWord_47 : decode cX12_comingWord 47 = .ok (.ireturn, 1) := by decide +kernel
theorem dX12_comingWord_48 : decode cX12_comingWord 48 = .ok (.aload_n 0, 1) := by decide +kernel
theorem dX12_comingWord_49 : decode cX12_comingWord 49 = .ok (.ldc 139, 2) := by decide +kernel
theorem dX12_comingWord_51 : decode cX12_comingWord 51 = .ok (.invokevirtual 103, 3) := by decide +kernel
theorem dX12_comingWord_54 : decode cX12_comingWord 54 = .ok (.ifCond .eq 8, 3) := by decide +kernel
theorem dX12_comingWord_57 : decode cX12_comingWord 57 = .ok (.bipush 51, 2) := by decide +kernel
theorem dX12_comingWord_59 : decode cX12_comingWord 59 = .ok (.goto 7, 3) := by decide +kernel
theorem dX12_comingWord_62 : decode cX12_comingWord 62 = .ok (.aload_n 0, 1) := by decide +kernel
theorem dX12_comingWord_63 : decode cX12_comingWord 63 = .ok (.invokevirtual 128, 3) := by decide +kernel
theorem dX12_comingWord_66 : decode cX12_comingWord 66 = .ok (.ireturn, 1) := by decide +kernel
set_option maxHeartbeats 4000000 in
set_option maxRecDepth 100000 in
theorem c_X12_comingWord (l : Launch) (D : va_G) (tys : List (ClassId × FieldType)) (base : Nat) (G : iv_G) (h0 : Nat) (g_h0 : Nat → Int32) (r_h0 : Nat → Nat) (a_h0 : G h0 = some (12, g_h0, r_h0)) : Met l yX12_comingWord (Cond.code yX12_comingWord cX12_comingWord 1 (some .int) :: iv_W0) ({ frames := 6, cells := 0, slots := 0, locals := 128 }) (iv_Pc iv_sh D classes tys base G [.ref h0]) (iv_Qi iv_sh D classes tys base (fun v G' => G = G' ∧ iv_R 1 51 v)) 0 0 (iv_A base) := by
  refine iv_head (by decide) (Nat.le_of_ble_eq_true rfl) ?_
  intro p e s m args below meth c ls X hr hlocks hname hB hl
  have X := X
  have hx := X.1.1
  have hb := X.1.2.1
  have hl : lv_has ls 1 [(0, .ref h0)] := hl
  refine lv_aload_n hx hb dX12_comingWord_0 rfl (lv_at hl 0 rfl) ?_
  refine iv_sldc X (i := 18) rfl dX12_comingWord_1 ?_
  refine iv_cVi X k_good k_mf_X12_is k_im_X12_is k_sel_X12_is k_ml_X12_103 ft_X12 hB a_h0 sh_12 (As := [.ref (D.2 100 18)]) (c_X12_is l D tys base G h0 g_h0 r_h0 a_h0 18 (by decide)) ⟨rfl, rfl⟩ ⟨Nat.le_of_ble_eq_true rfl, Nat.le_of_ble_eq_true rfl⟩ ⟨Nat.le_of_ble_eq_true rfl, Nat.le_of_ble_eq_true rfl⟩ rfl rfl hl.1 (Nat.le_of_ble_eq_true rfl) dX12_comingWord_3 (fun x1 G9 H locs hq hB => ?_)
  obtain ⟨rfl, i_x1⟩ := hq
  refine lv_if_eq (tgt := 12) hx hb dX12_comingWord_6 (by decide) (fun c2 => ?_) (fun c2 => ?_)
  · skip
    have i2_x1 : iv_R 0 0 x1 := (i_x1.cutHi (n := 0) (iv_eq_r c2 q_0).2)
    refine lv_aload_n hx hb dX12_comingWord_12 rfl (lv_at hl 0 rfl) ?_
    refine iv_sldc X (i := 19) rfl dX12_comingWord_13 ?_
    refine iv_cVi X k_good k_mf_X12_is k_im_X12_is k_sel_X12_is k_ml_X12_103 ft_X12 hB a_h0 sh_12 (As := [.ref (D.2 100 19)]) (c_X12_is l D tys base G h0 g_h0 r_h0 a_h0 19 (by decide)) ⟨rfl, rfl⟩ ⟨Nat.le_of_ble_eq_true rfl, Nat.le_of_ble_eq_true rfl⟩ ⟨Nat.le_of_ble_eq_true rfl, Nat.le_of_ble_eq_true rfl⟩ rfl rfl hl.1 (Nat.le_of_ble_eq_true rfl) dX12_comingWord_15 (fun x4 G9 H locs hq hB => ?_)
    obtain ⟨rfl, i_x4⟩ := hq
    refine lv_if_eq (tgt := 24) hx hb dX12_comingWord_18 (by decide) (fun c5 => ?_) (fun c5 => ?_)
    · skip
      have i5_x4 : iv_R 0 0 x4 := (i_x4.cutHi (n := 0) (iv_eq_r c5 q_0).2)
      refine lv_aload_n hx hb dX12_comingWord_24 rfl (lv_at hl 0 rfl) ?_
      refine iv_sldc X (i := 20) rfl dX12_comingWord_25 ?_
      refine iv_cVi X k_good k_mf_X12_is k_im_X12_is k_sel_X12_is k_ml_X12_103 ft_X12 hB a_h0 sh_12 (As := [.ref (D.2 100 20)]) (c_X12_is l D tys base G h0 g_h0 r_h0 a_h0 20 (by decide)) ⟨rfl, rfl⟩ ⟨Nat.le_of_ble_eq_true rfl, Nat.le_of_ble_eq_true rfl⟩ ⟨Nat.le_of_ble_eq_true rfl, Nat.le_of_ble_eq_true rfl⟩ rfl rfl hl.1 (Nat.le_of_ble_eq_true rfl) dX12_comingWord_27 (fun x7 G9 H locs hq hB => ?_)
      obtain ⟨rfl, i_x7⟩ := hq
      refine lv_if_eq (tgt := 36) hx hb dX12_comingWord_30 (by decide) (fun c8 => ?_) (fun c8 => ?_)
      · skip
        have i8_x7 : iv_R 0 0 x7 := (i_x7.cutHi (n := 0) (iv_eq_r c8 q_0).2)
        refine lv_aload_n hx hb dX12_comingWord_36 rfl (lv_at hl 0 rfl) ?_
        refine iv_sldc X (i := 21) rfl dX12_comingWord_37 ?_
        refine iv_cVi X k_good k_mf_X12_is k_im_X12_is k_sel_X12_is k_ml_X12_103 ft_X12 hB a_h0 sh_12 (As := [.ref (D.2 100 21)]) (c_X12_is l D tys base G h0 g_h0 r_h0 a_h0 21 (by decide)) ⟨rfl, rfl⟩ ⟨Nat.le_of_ble_eq_true rfl, Nat.le_of_ble_eq_true rfl⟩ ⟨Nat.le_of_ble_eq_true rfl, Nat.le_of_ble_eq_true rfl⟩ rfl rfl hl.1 (Nat.le_of_ble_eq_true rfl) dX12_comingWord_39 (fun x10 G9 H locs hq hB => ?_)
        obtain ⟨rfl, i_x10⟩ := hq
        refine lv_if_eq (tgt := 48) hx hb dX12_comingWord_42 (by decide) (fun c11 => ?_) (fun c11 => ?_)
        · skip
          have i11_x10 : iv_R 0 0 x10 := (i_x10.cutHi (n := 0) (iv_eq_r c11 q_0).2)
          refine lv_aload_n hx hb dX12_comingWord_48 rfl (lv_at hl 0 rfl) ?_
          refine iv_sldc X (i := 22) rfl dX12_comingWord_49 ?_
          refine iv_cVi X k_good k_mf_X12_is k_im_X12_is k_sel_X12_is k_ml_X12_103 ft_X12 hB a_h0 sh_12 (As := [.ref (D.2 100 22)]) (c_X12_is l D tys base G h0 g_h0 r_h0 a_h0 22 (by decide)) ⟨rfl, rfl⟩ ⟨Nat.le_of_ble_eq_true rfl, Nat.le_of_ble_eq_true rfl⟩ ⟨Nat.le_of_ble_eq_true rfl, Nat.le_of_ble_eq_true rfl⟩ rfl rfl hl.1 (Nat.le_of_ble_eq_true rfl) dX12_comingWord_51 (fun x13 G9 H locs hq hB => ?_)
          obtain ⟨rfl, i_x13⟩ := hq
          refine lv_if_eq (tgt := 62) hx hb dX12_comingWord_54 (by decide) (fun c14 => ?_) (fun c14 => ?_)
          · skip
            have i14_x13 : iv_R 0 0 x13 := (i_x13.cutHi (n := 0) (iv_eq_r c14 q_0).2)
            refine lv_aload_n hx hb dX12_comingWord_62 rfl (lv_at hl 0 rfl) ?_
            refine iv_cVi X k_good k_mf_X12_asked k_im_X12_asked k_sel_X12_asked k_ml_X12_128 ft_X12 hB a_h0 sh_12 (As := []) (c_X12_asked l D tys base G h0 g_h0 r_h0 a_h0) ⟨rfl, rfl⟩ ⟨Nat.le_of_ble_eq_true rfl, Nat.le_of_ble_eq_true rfl⟩ ⟨Nat.le_of_ble_eq_true rfl, Nat.le_of_ble_eq_true rfl⟩ rfl rfl hl.1 (Nat.le_of_ble_eq_true rfl) dX12_comingWord_63 (fun x16 G9 H locs hq hB => ?_)
            obtain ⟨rfl, i_x16⟩ := hq
            exact iv_iret X hr hlocks hB ⟨rfl, (i_x16.wk (by decide))⟩ dX12_comingWord_66
          · skip
            have i16_x13 : iv_R 1 1 x13 := iv_ne_lo c14 i_x13 q_0 (by decide)
            refine lv_bipush (v := 51) hx hb dX12_comingWord_57 (by decide) ?_
            refine lv_goto (tgt := 66) hx hb dX12_comingWord_59 (by decide) ?_
            exact iv_iret X hr hlocks hB ⟨rfl, (q_51.wk (by decide))⟩ dX12_comingWord_66
        · skip
          have i17_x10 : iv_R 1 1 x10 := iv_ne_lo c11 i_x10 q_0 (by decide)
          refine lv_bipush (v := 50) hx hb dX12_comingWord_45 (by decide) ?_
          exact iv_iret X hr hlocks hB ⟨rfl, (q_50.wk (by decide))⟩ dX12_comingWord_47
      · skip
        have i18_x7 : iv_R 1 1 x7 := iv_ne_lo c8 i_x7 q_0 (by decide)
        refine lv_bipush (v := 49) hx hb dX12_comingWord_33 (by decide) ?_
        exact iv_iret X hr hlocks hB ⟨rfl, (q_49.wk (by decide))⟩ dX12_comingWord_35
    · skip
      have i19_x4 : iv_R 1 1 x4 := iv_ne_lo c5 i_x4 q_0 (by decide)
      refine lv_bipush (v := 22) hx hb dX12_comingWord_21 (by decide) ?_
      exact iv_iret X hr hlocks hB ⟨rfl, (q_22.wk (by decide))⟩ dX12_comingWord_23
  · skip
    have i20_x1 : iv_R 1 1 x1 := iv_ne_lo c2 i_x1 q_0 (by decide)
    refine lv_bipush (v := 21) hx hb dX12_comingWord_9 (by decide) ?_
    exact iv_iret X hr hlocks hB ⟨rfl, (q_21.wk (by decide))⟩ dX12_comingWord_11
theorem dX12_eldest_0 : decode cX12_eldest 0 = .ok (.aload_n 0, 1) := by decide +kernel
theorem dX12_eldest_1 : decode cX12_eldest 1 = .ok (.iload_n 1, 1) := by decide +kernel
theorem dX12_eldest_2 : decode cX12_eldest 2 = .ok (.invokevirtual 76, 3) := by decide +kernel
theorem dX12_eldest_5 : decode cX12_eldest 5 = .ok (.ifCond .eq 12, 3) := by decide +kernel
theorem dX12_eldest_8 : decode cX12_eldest 8 = .ok (.iload_n 2, 1) := by decide +kernel
theorem dX12_eldest_9 : decode cX12_eldest 9 = .ok (.iconst 0, 1) := by decide +kernel
theorem dX12_eldest_10 : decode cX12_eldest 10 = .ok (.iconst 1, 1) := by decide +kernel
theorem dX12_eldest_11 : decode cX12_eldest 11 = .ok (.invokestatic 56, 3) := by decide +kernel
theorem dX12_eldest_14 : decode cX12_eldest 14 = .ok (.ifCond .ne 5, 3) := by decide +kernel
theorem dX12_eldest_17 : decode cX12_eldest 17 = .ok (.iconst (-1), 1) := by decide +kernel
theorem dX12_eldest_18 : decode cX12_eldest 18 = .ok (.ireturn, 1) := by decide +kernel
theorem dX12_eldest_19 : decode cX12_eldest 19 = .ok (.iconst 0, 1) := by decide +kernel
theorem dX12_eldest_20 : decode cX12_eldest 20 = .ok (.istore_n 3, 1) := by decide +kernel
theorem dX12_eldest_21 : decode cX12_eldest 21 = .ok (.iload_n 3, 1) := by decide +kernel
theorem dX12_eldest_22 : decode cX12_eldest 22 = .ok (.aload_n 0, 1) := by decide +kernel
theorem dX12_eldest_23 : decode cX12_eldest 23 = .ok (.getfield 7, 3) := by decide +kernel
theorem dX12_eldest_26 : decode cX12_eldest 26 = .ok (.iconst 4, 1) := by decide +kernel
theorem dX12_eldest_27 : decode cX12_eldest 27 = .ok (.iaload, 1) := by decide +kernel
theorem dX12_eldest_28 : decode cX12_eldest 28 = .ok (.if_icmp .ge 29, 3) := by decide +kernel
theorem dX12_eldest_31 : decode cX12_eldest 31 = .ok (.aload_n 0, 1) := by decide +kernel
theorem dX12_eldest_32 : decode cX12_eldest 32 = .ok (.iload_n 3, 1) := by decide +kernel
theorem dX12_eldest_33 : decode cX12_eldest 33 = .ok (.iload_n 2, 1) := by decide +kernel
theorem dX12_eldest_34 : decode cX12_eldest 34 = .ok (.ifCond .ne 7, 3) := by decide +kernel
theorem dX12_eldest_37 : decode cX12_eldest 37 = .ok (.iconst 0, 1) := by decide +kernel
theorem dX12_eldest_38 : decode cX12_eldest 38 = .ok (.goto 4, 3) := by decide +kernel
theorem dX12_eldest_41 : decode cX12_eldest 41 = .ok (.iconst 1, 1) := by decide +kernel
theorem dX12_eldest_42 : decode cX12_eldest 42 = .ok (.invokevirtual 335, 3) := by decide +kernel
theorem dX12_eldest_45 : decode cX12_eldest 45 = .ok (.iload_n 1, 1) := by decide +kernel
theorem dX12_eldest_46 : decode cX12_eldest 46 = .ok (.if_icmp .ne 5, 3) := by decide +kernel
theorem dX12_eldest_49 : decode cX12_eldest 49 = .ok (.iload_n 3, 1) := by decide +kernel
theorem dX12_eldest_50 : decode cX12_eldest 50 = .ok (.ireturn, 1) := by decide +kernel
theorem dX12_eldest_51 : decode cX12_eldest 51 = .ok (.iinc 3 1, 3) := by decide +kernel
theorem dX12_eldest_54 : decode cX12_eldest 54 = .ok (.goto (-33), 3) := by decide +kernel
theorem dX12_eldest_57 : decode cX12_eldest 57 = .ok (.iconst (-1), 1) := by decide +kernel
theorem dX12_eldest_58 : decode cX12_eldest 58 = .ok (.ireturn, 1) := by decide +kernel
set_option maxHeartbeats 4000000 in
set_option maxRecDepth 100000 in
theorem c_X12_eldest (l : Launch) (D : va_G) (tys : List (ClassId × FieldType)) (base : Nat) (G : iv_G) (h0 : Nat) (g_h0 : Nat → Int32) (r_h0 : Nat → Nat) (a_h0 : G h0 = some (12, g_h0, r_h0)) (x_0 : Int32) (i_x_0 : iv_R (-2147483648) 2147483647 x_0) (x_1 : Int32) (i_x_1 : iv_R (-2147483648) 2147483647 x_1) : Met l yX12_eldest (Cond.code yX12_eldest cX12_eldest 4 (some .int) :: iv_W0) ({ frames := 2, cells := 0, slots := 0, locals := 43 }) (iv_Pc iv_sh D classes tys base G [.ref h0, .int x_0, .int x_1]) (iv_Qi iv_sh D classes tys base (fun v G' => G = G' ∧ iv_R (-1) 19 v)) 0 0 (iv_A base) := by
  refine iv_head (by decide) (Nat.le_of_ble_eq_true rfl) ?_
  intro p e s m args below meth c ls X hr hlocks hname hB hl
  have X := X
  have hx := X.1.1
  have hb := X.1.2.1
  have hl : lv_has ls 4 [(0, .ref h0), (1, .int x_0), (2, .int x_1)] := hl
  refine lv_aload_n hx hb dX12_eldest_0 rfl (lv_at hl 0 rfl) ?_
  refine lv_iload_n hx hb dX12_eldest_1 rfl (lv_at hl 1 rfl) ?_
  refine iv_cVi X k_good k_mf_X12_isBell k_im_X12_isBell k_sel_X12_isBell k_ml_X12_76 ft_X12 hB a_h0 sh_12 (As := [.int x_0]) (c_X12_isBell l D tys base G h0 g_h0 r_h0 a_h0 x_0 i_x_0) ⟨rfl, rfl⟩ ⟨Nat.le_of_ble_eq_true rfl, Nat.le_of_ble_eq_true rfl⟩ ⟨Nat.le_of_ble_eq_true rfl, Nat.le_of_ble_eq_true rfl⟩ rfl rfl hl.1 (Nat.le_of_ble_eq_true rfl) dX12_eldest_2 (fun x1 G9 H locs hq hB => ?_)
  obtain ⟨rfl, i_x1, hp2⟩ := hq
  refine lv_if_eq (tgt := 17) hx hb dX12_eldest_5 (by decide) (fun c3 => ?_) (fun c3 => ?_)
  · skip
    have i3_x1 : iv_R 0 0 x1 := (i_x1.cutHi (n := 0) (iv_eq_r c3 q_0).2)
    refine lv_iconst (v := (-1)) hx hb dX12_eldest_17 (by decide) ?_
    exact iv_iret X hr hlocks hB ⟨rfl, (q_n1.wk (by decide))⟩ dX12_eldest_18
  · skip
    have i4_x1 : iv_R 1 1 x1 := iv_ne_lo c3 i_x1 q_0 (by decide)
    have i5_x_0 : iv_R 0 9 x_0 := ((i_x_0.cutLo (n := 0) (hp2 c3).1).cutHi (n := 9) (hp2 c3).2)
    refine lv_iload_n hx hb dX12_eldest_8 rfl (lv_at hl 2 rfl) ?_
    refine lv_iconst (v := 0) hx hb dX12_eldest_9 (by decide) ?_
    refine lv_iconst (v := 1) hx hb dX12_eldest_10 (by decide) ?_
    refine iv_cSi X k_good k_mf_X12_isIn k_st_X12_isIn k_ml_X12_56 hB (As := [.int x_1, .int 0, .int 1]) (c_X12_isIn l D tys base G x_1 i_x_1 0 (q_0.wk (by decide)) 1 (q_1.wk (by decide))) ⟨rfl, rfl⟩ ⟨Nat.le_of_ble_eq_true rfl, Nat.le_of_ble_eq_true rfl⟩ ⟨Nat.le_of_ble_eq_true rfl, Nat.le_of_ble_eq_true rfl⟩ rfl rfl hl.1 (Nat.le_of_ble_eq_true rfl) dX12_eldest_11 (fun x7 G9 H locs hq hB => ?_)
    obtain ⟨rfl, i_x7, hp8⟩ := hq
    have k9 : ¬ x7 = 0 → iv_R 0 1 x_1 := fun h => ⟨iv_max i_x_1.1 (Int.le_trans q_0.1 (hp8.1 h).1) (by decide), iv_min i_x_1.2 (Int.le_trans (hp8.1 h).2 q_1.2) (by decide)⟩
    refine lv_if_ne (tgt := 19) hx hb dX12_eldest_14 (by decide) (fun c10 => ?_) (fun c10 => ?_)
    · skip
      have i10_x7 : iv_R 1 1 x7 := iv_ne_lo c10 i_x7 q_0 (by decide)
      have i11_x_1 : iv_R 0 1 x_1 := ((i_x_1.cutLo (n := 0) (k9 c10).1).cutHi (n := 1) (k9 c10).2)
      refine lv_iconst (v := 0) hx hb dX12_eldest_19 (by decide) ?_
      refine lv_istore_n (lv' := [(3, .int 0), (0, .ref h0), (1, .int x_0), (2, .int x_1)]) hx hb dX12_eldest_20 rfl hl (by decide) rfl (fun ls hl => ?_)
      have L_21 : ∀ (n_21 : Nat) (H : Heap) (locs : List Loc) (hB : iv_B iv_sh D classes tys base G s.heap H locs) (x13 : Int32) (i_x13 : iv_R 0 20 x13) (hn_21 : (21 - x13.toInt).toNat < n_21) (ls : Array Slot) (hl : lv_has ls 4 [(3, .int x13), (0, .ref h0), (1, .int x_0), (2, .int x_1)]), W p l e ({ frames := 2, cells := 0, slots := 0, locals := 43 } : Room) s m args below meth c H locs 0 0 (MQ below (iv_Qi iv_sh D classes tys base (fun v G' => G = G' ∧ iv_R (-1) 19 v)) args s 0 0 (iv_A base)) (F0 m 21 ls []) := by
        intro n_21
        induction n_21 with
        | zero => intro H locs hB x13 i_x13 hn_21 ls hl; exact absurd hn_21 (Nat.not_lt_zero _)
        | succ n_21 ih_21 =>
          intro H locs hB x13 i_x13 hn_21 ls hl
          refine lv_iload_n hx hb dX12_eldest_21 rfl (lv_at hl 0 rfl) ?_
          refine lv_aload_n hx hb dX12_eldest_22 rfl (lv_at hl 1 rfl) ?_
          refine iv_getr X ft_X12 hB a_h0 sh_12 0 (by decide) rfl k_fl_X12_7 dX12_eldest_23 (fun b14 g_b14 r_b14 e_b14 a_b14 => ?_)
          refine lv_iconst (v := 4) hx hb dX12_eldest_26 (by decide) ?_
          refine iv_wald_c X hB a_b14 q_4 (by decide) (lo := 0) (hi' := 20) (by decide) dX12_eldest_27 (fun x15 e_x15 i_x15 => ?_)
          refine lv_icmp_ge (tgt := 57) hx hb dX12_eldest_28 (by decide) (fun c16 => ?_) (fun c16 => ?_)
          · skip
            refine lv_iconst (v := (-1)) hx hb dX12_eldest_57 (by decide) ?_
            exact iv_iret X hr hlocks hB ⟨rfl, (q_n1.wk (by decide))⟩ dX12_eldest_58
          · skip
            have i16_x13 : iv_R 0 19 x13 := (i_x13.cutHi (n := 19) (iv_lt_r (iv_nle c16) i_x15 (by decide)))
            have i17_x15 : iv_R 1 20 x15 := (i_x15.cutLo (n := 1) (iv_lt_l (iv_nle c16) i_x13 (by decide)))
            refine lv_aload_n hx hb dX12_eldest_31 rfl (lv_at hl 1 rfl) ?_
            refine lv_iload_n hx hb dX12_eldest_32 rfl (lv_at hl 0 rfl) ?_
            refine lv_iload_n hx hb dX12_eldest_33 rfl (lv_at hl 3 rfl) ?_
            refine lv_if_ne (tgt := 41) hx hb dX12_eldest_34 (by decide) (fun c19 => ?_) (fun c19 => ?_)
            · skip
              have i19_x_1 : iv_R 1 1 x_1 := iv_ne_lo c19 i11_x_1 q_0 (by decide)
              refine lv_iconst (v := 1) hx hb dX12_eldest_41 (by decide) ?_
              refine iv_cVi X k_good k_mf_X12_ofChild k_im_X12_ofChild k_sel_X12_ofChild k_ml_X12_335 ft_X12 hB a_h0 sh_12 (As := [.int x13, .int 1]) (c_X12_ofChild l D tys base G h0 g_h0 r_h0 a_h0 x13 i16_x13 1 (q_1.wk (by decide))) ⟨rfl, rfl⟩ ⟨Nat.le_of_ble_eq_true rfl, Nat.le_of_ble_eq_true rfl⟩ ⟨Nat.le_of_ble_eq_true rfl, Nat.le_of_ble_eq_true rfl⟩ rfl rfl hl.1 (Nat.le_of_ble_eq_true rfl) dX12_eldest_42 (fun x21 G9 H locs hq hB => ?_)
              obtain ⟨rfl, i_x21⟩ := hq
              refine lv_iload_n hx hb dX12_eldest_45 rfl (lv_at hl 2 rfl) ?_
              refine lv_icmp_ne (tgt := 51) hx hb dX12_eldest_46 (by decide) (fun c22 => ?_) (fun c22 => ?_)
              · skip
                refine iv_iinc hx hb i16_x13 (lo := 1) (hi := 20) (by decide) dX12_eldest_51 hl (k := 0) rfl (by decide) (fun x23 ls e_x23 i_x23 hl => ?_)
                have hl : lv_has ls 4 [(3, .int x23), (0, .ref h0), (1, .int x_0), (2, .int x_1)] := hl
                refine lv_goto (tgt := 21) hx hb dX12_eldest_54 (by decide) ?_
                exact ih_21 _ _ hB x23 (i_x23.wk (by decide)) (iv_mup (c := 1) i_x13 (by decide) (by decide) (by omega) hn_21) _ (lv_sub hl [0, 1, 2, 3] rfl)
              · skip
                have i23_x21 : iv_R 0 9 x21 := ((i_x21.cutLo (n := 0) (iv_eq_r c22 i5_x_0).1).cutHi (n := 9) (iv_eq_r c22 i5_x_0).2)
                refine lv_iload_n hx hb dX12_eldest_49 rfl (lv_at hl 0 rfl) ?_
                exact iv_iret X hr hlocks hB ⟨rfl, (i16_x13.wk (by decide))⟩ dX12_eldest_50
            · skip
              have i24_x_1 : iv_R 0 0 x_1 := (i11_x_1.cutHi (n := 0) (iv_eq_r c19 q_0).2)
              refine lv_iconst (v := 0) hx hb dX12_eldest_37 (by decide) ?_
              refine lv_goto (tgt := 42) hx hb dX12_eldest_38 (by decide) ?_
              refine iv_cVi X k_good k_mf_X12_ofChild k_im_X12_ofChild k_sel_X12_ofChild k_ml_X12_335 ft_X12 hB a_h0 sh_12 (As := [.int x13, .int 0]) (c_X12_ofChild l D tys base G h0 g_h0 r_h0 a_h0 x13 i16_x13 0 (q_0.wk (by decide))) ⟨rfl, rfl⟩ ⟨Nat.le_of_ble_eq_true rfl, Nat.le_of_ble_eq_true rfl⟩ ⟨Nat.le_of_ble_eq_true rfl, Nat.le_of_ble_eq_true rfl⟩ rfl rfl hl.1 (Nat.le_of_ble_eq_true rfl) dX12_eldest_42 (fun x26 G9 H locs hq hB => ?_)
              obtain ⟨rfl, i_x26⟩ := hq
              refine lv_iload_n hx hb dX12_eldest_45 rfl (lv_at hl 2 rfl) ?_
              refine lv_icmp_ne (tgt := 51) hx hb dX12_eldest_46 (by decide) (fun c27 => ?_) (fun c27 => ?_)
              · skip
                refine iv_iinc hx hb i16_x13 (lo := 1) (hi := 20) (by decide) dX12_eldest_51 hl (k := 0) rfl (by decide) (fun x28 ls e_x28 i_x28 hl => ?_)
                have hl : lv_has ls 4 [(3, .int x28), (0, .ref h0), (1, .int x_0), (2, .int x_1)] := hl
                refine lv_goto (tgt := 21) hx hb dX12_eldest_54 (by decide) ?_
                exact ih_21 _ _ hB x28 (i_x28.wk (by decide)) (iv_mup (c := 1) i_x13 (by decide) (by decide) (by omega) hn_21) _ (lv_sub hl [0, 1, 2, 3] rfl)
              · skip
                have i28_x26 : iv_R 0 9 x26 := ((i_x26.cutLo (n := 0) (iv_eq_r c27 i5_x_0).1).cutHi (n := 9) (iv_eq_r c27 i5_x_0).2)
                refine lv_iload_n hx hb dX12_eldest_49 rfl (lv_at hl 0 rfl) ?_
                exact iv_iret X hr hlocks hB ⟨rfl, (i16_x13.wk (by decide))⟩ dX12_eldest_50
      exact L_21 _ _ _ hB 0 (q_0.wk (by decide)) (Nat.lt_succ_self _) _ (lv_sub hl [0, 1, 2, 3] rfl)
    · skip
      have i29_x7 : iv_R 0 0 x7 := (i_x7.cutHi (n := 0) (iv_eq_r c10 q_0).2)
      refine lv_iconst (v := (-1)) hx hb dX12_eldest_17 (by decide) ?_
      exact iv_iret X hr hlocks hB ⟨rfl, (q_n1.wk (by decide))⟩ dX12_eldest_18
theorem dX12_forgets_0 : decode cX12_forgets 0 = .ok (.aload_n 0, 1) := by decide +kernel
theorem dX12_forgets_1 : decode cX12_forgets 1 = .ok (.iconst 0, 1) := by decide +kernel
theorem dX12_forgets_2 : decode cX12_forgets 2 = .ok (.putfield 60, 3) := by decide +kernel
theorem dX12_forgets_5 : decode cX12_forgets 5 = .ok (.return_, 1) := by decide +kernel
set_option maxHeartbeats 4000000 in
set_option maxRecDepth 100000 in
theorem c_X12_forgets (l : Launch) (D : va_G) (tys : List (ClassId × FieldType)) (base : Nat) (G : iv_G) (h0 : Nat) (g_h0 : Nat → Int32) (r_h0 : Nat → Nat) (a_h0 : G h0 = some (12, g_h0, r_h0)) : Met l yX12_forgets (Cond.code yX12_forgets cX12_forgets 1 none :: iv_W0) ({ frames := 0, cells := 0, slots := 0, locals := 0 }) (iv_Pc iv_sh D classes tys base G [.ref h0]) (iv_Qv iv_sh D classes tys base (fun G' => iv_Md [12] G G')) 0 0 (iv_A base) := by
  refine iv_head (by decide) (Nat.le_of_ble_eq_true rfl) ?_
  intro p e s m args below meth c ls X hr hlocks hname hB hl
  have X := X
  have hx := X.1.1
  have hb := X.1.2.1
  have hM : iv_Md [12] G G := iv_Md.rf
  have hl : lv_has ls 1 [(0, .ref h0)] := hl
  refine lv_aload_n hx hb dX12_forgets_0 rfl (lv_at hl 0 rfl) ?_
  refine lv_iconst (v := 0) hx hb dX12_forgets_1 (by decide) ?_
  refine iv_puti X ft_X12 hB a_h0 sh_12 3 (by decide) rfl rfl k_fl_X12_60 rfl (q_0.wk (by decide)) rfl rfl dX12_forgets_2 (fun H locs hB => ?_)
  have hm := iv_Md.put (x := 0) a_h0 (j := 3) (by decide) (by decide)
  have h9 := iv_up_eq (G := G) (a := h0) (k := (12, upd g_h0 3 0, r_h0))
  generalize iv_up G h0 _ = G1 at hB hm h9
  have hM := hM.stp hm (by decide)
  generalize hgn_g2 : upd g_h0 _ _ = g2 at h9
  have a_h0 := h9
  have e9_g2 : 0 = g2 3 := by rw [← hgn_g2]; simp [upd]
  exact iv_vret X hr hlocks hB hM dX12_forgets_5
theorem dX12_isTower_0 : decode cX12_isTower 0 = .ok (.iload_n 0, 1) := by decide +kernel
theorem dX12_isTower_1 : decode cX12_isTower 1 = .ok (.iconst 0, 1) := by decide +kernel
theorem dX12_isTower_2 : decode cX12_isTower 2 = .ok (.iconst 3, 1) := by decide +kernel
theorem dX12_isTower_3 : decode cX12_isTower 3 = .ok (.invokestatic 56, 3) := by decide +kernel
theorem dX12_isTower_6 : decode cX12_isTower 6 = .ok (.ireturn, 1) := by decide +kernel
set_option maxHeartbeats 4000000 in
set_option maxRecDepth 100000 in
theorem c_X12_isTower (l : Launch) (D : va_G) (tys : List (ClassId × FieldType)) (base : Nat) (G : iv_G) (x_0 : Int32) (i_x_0 : iv_R (-2147483648) 2147483647 x_0) : Met l yX12_isTower (Cond.code yX12_isTower cX12_isTower 1 (some .boolean) :: iv_W0) ({ frames := 1, cells := 0, slots := 0, locals := 22 }) (iv_Pc iv_sh D classes tys base G [.int x_0]) (iv_Qi iv_sh D classes tys base (fun v G' => G = G' ∧ iv_R 0 1 v ∧ (¬ v = 0 → iv_R 0 3 x_0))) 0 0 (iv_A base) := by
  refine iv_head (by decide) (Nat.le_of_ble_eq_true rfl) ?_
  intro p e s m args below meth c ls X hr hlocks hname hB hl
  have X := X
  have hx := X.1.1
  have hb := X.1.2.1
  have hl : lv_has ls 1 [(0, .int x_0)] := hl
  refine lv_iload_n hx hb dX12_isTower_0 rfl (lv_at hl 0 rfl) ?_
  refine lv_iconst (v := 0) hx hb dX12_isTower_1 (by decide) ?_
  refine lv_iconst (v := 3) hx hb dX12_isTower_2 (by decide) ?_
  refine iv_cSi X k_good k_mf_X12_isIn k_st_X12_isIn k_ml_X12_56 hB (As := [.int x_0, .int 0, .int 3]) (c_X12_isIn l D tys base G x_0 i_x_0 0 (q_0.wk (by decide)) 3 (q_3.wk (by decide))) ⟨rfl, rfl⟩ ⟨Nat.le_of_ble_eq_true rfl, Nat.le_of_ble_eq_true rfl⟩ ⟨Nat.le_of_ble_eq_true rfl, Nat.le_of_ble_eq_true rfl⟩ rfl rfl hl.1 (Nat.le_of_ble_eq_true rfl) dX12_isTower_3 (fun x1 G9 H locs hq hB => ?_)
  obtain ⟨rfl, i_x1, hp2⟩ := hq
  have k3 : ¬ x1 = 0 → iv_R 0 3 x_0 := fun h => ⟨iv_max i_x_0.1 (Int.le_trans q_0.1 (hp2.1 h).1) (by decide), iv_min i_x_0.2 (Int.le_trans (hp2.1 h).2 q_3.2) (by decide)⟩
  exact iv_zret X hr hlocks hB i_x1 ⟨rfl, i_x1, fun h => (k3 h).wk (by decide)⟩ dX12_isTower_6
theorem dX12_far_0 : decode cX12_far 0 = .ok (.iload_n 1, 1) := by decide +kernel
theorem dX12_far_1 : decode cX12_far 1 = .ok (.invokestatic 68, 3) := by decide +kernel
theorem dX12_far_4 : decode cX12_far 4 = .ok (.ifCond .eq 25, 3) := by decide +kernel
theorem dX12_far_7 : decode cX12_far 7 = .ok (.iload_n 2, 1) := by decide +kernel
theorem dX12_far_8 : decode cX12_far 8 = .ok (.invokestatic 68, 3) := by decide +kernel
theorem dX12_far_11 : decode cX12_far 11 = .ok (.ifCond .eq 18, 3) := by decide +kernel
theorem dX12_far_14 : decode cX12_far 14 = .ok (.iload_n 1, 1) := by decide +kernel
theorem dX12_far_15 : decode cX12_far 15 = .ok (.iload_n 2, 1) := by decide +kernel
theorem dX12_far_16 : decode cX12_far 16 = .ok (.if_icmp .eq 13, 3) := by decide +kernel
theorem dX12_far_19 : decode cX12_far 19 = .ok (.iload_n 3, 1) := by decide +kernel
theorem dX12_far_20 : decode cX12_far 20 = .ok (.iconst 0, 1) := by decide +kernel
theorem dX12_far_21 : decode cX12_far 21 = .ok (.bipush 99, 2) := by decide +kernel
theorem dX12_far_23 : decode cX12_far 23 = .ok (.invokestatic 56, 3) := by decide +kernel
theorem dX12_far_26 : decode cX12_far 26 = .ok (.ifCond .ne 5, 3) := by decide +kernel
theorem dX12_far_29 : decode cX12_far 29 = .ok (.iconst 0, 1) := by decide +kernel
theorem dX12_far_30 : decode cX12_far 30 = .ok (.ireturn, 1) := by decide +kernel
theorem dX12_far_31 : decode cX12_far 31 = .ok (.aload_n 0, 1) := by decide +kernel
theorem dX12_far_32 : decode cX12_far 32 = .ok (.getfield 7, 3) := by decide +kernel
theorem dX12_far_35 : decode cX12_far 35 = .ok (.sipush 190, 3) := by decide +kernel
theorem dX12_far_38 : decode cX12_far 38 = .ok (.iconst 4, 1) := by decide +kernel
theorem dX12_far_39 : decode cX12_far 39 = .ok (.iload_n 1, 1) := by decide +kernel
theorem dX12_far_40 : decode cX12_far 40 = .ok (.imul, 1) := by decide +kernel
theorem dX12_far_41 : decode cX12_far 41 = .ok (.iadd, 1) := by decide +kernel
theorem dX12_far_42 : decode cX12_far 42 = .ok (.iload_n 2, 1) := by decide +kernel
theorem dX12_far_43 : decode cX12_far 43 = .ok (.iadd, 1) := by decide +kernel
theorem dX12_far_44 : decode cX12_far 44 = .ok (.iload_n 3, 1) := by decide +kernel
theorem dX12_far_45 : decode cX12_far 45 = .ok (.iastore, 1) := by decide +kernel
theorem dX12_far_46 : decode cX12_far 46 = .ok (.aload_n 0, 1) := by decide +kernel
theorem dX12_far_47 : decode cX12_far 47 = .ok (.getfield 7, 3) := by decide +kernel
theorem dX12_far_50 : decode cX12_far 50 = .ok (.sipush 190, 3) := by decide +kernel
theorem dX12_far_53 : decode cX12_far 53 = .ok (.iconst 4, 1) := by decide +kernel
theorem dX12_far_54 : decode cX12_far 54 = .ok (.iload_n 2, 1) := by decide +kernel
theorem dX12_far_55 : decode cX12_far 55 = .ok (.imul, 1) := by decide +kernel
theorem dX12_far_56 : decode cX12_far 56 = .ok (.iadd, 1) := by decide +kernel
theorem dX12_far_57 : decode cX12_far 57 = .ok (.iload_n 1, 1) := by decide +kernel
theorem dX12_far_58 : decode cX12_far 58 = .ok (.iadd, 1) := by decide +kernel
theorem dX12_far_59 : decode cX12_far 59 = .ok (.iload_n 3, 1) := by decide +kernel
theorem dX12_far_60 : decode cX12_far 60 = .ok (.iastore, 1) := by decide +kernel
theorem dX12_far_61 : decode cX12_far 61 = .ok (.aload_n 0, 1) := by decide +kernel
theorem dX12_far_62 : decode cX12_far 62 = .ok (.invokevirtual 63, 3) := by decide +kernel
theorem dX12_far_65 : decode cX12_far 65 = .ok (.iconst 1, 1) := by decide +kernel
theorem dX12_far_66 : decode cX12_far 66 = .ok (.ireturn, 1) := by decide +kernel
set_option maxHeartbeats 4000000 in
set_option maxRecDepth 100000 in
theorem c_X12_far (l : Launch) (D : va_G) (tys : List (ClassId × FieldType)) (base : Nat) (G : iv_G) (h0 : Nat) (g_h0 : Nat → Int32) (r_h0 : Nat → Nat) (a_h0 : G h0 = some (12, g_h0, r_h0)) (x_0 : Int32) (i_x_0 : iv_R (-2147483648) 2147483647 x_0) (x_1 : Int32) (i_x_1 : iv_R (-2147483648) 2147483647 x_1) (x_2 : Int32) (i_x_2 : iv_R (-2147483648) 2147483647 x_2) : Met l yX12_far (Cond.code yX12_far cX12_far 4 (some .boolean) :: iv_W0) ({ frames := 2, cells := 0, slots := 0, locals := 42 }) (iv_Pc iv_sh D classes tys base G [.ref h0, .int x_0, .int x_1, .int x_2]) (iv_Qi iv_sh D classes tys base (fun v G' => iv_Md [12, 60] G G' ∧ iv_R 0 1 v ∧ (¬ v = 0 → iv_R 0 3 x_0) ∧ (¬ v = 0 → iv_R 0 3 x_1) ∧ (¬ v = 0 → iv_R 0 99 x_2))) 0 0 (iv_A base) := by
  refine iv_head (by decide) (Nat.le_of_ble_eq_true rfl) ?_
  intro p e s m args below meth c ls X hr hlocks hname hB hl
  have X := X
  have hx := X.1.1
  have hb := X.1.2.1
  have hM : iv_Md [12, 60] G G := iv_Md.rf
  have hl : lv_has ls 4 [(0, .ref h0), (1, .int x_0), (2, .int x_1), (3, .int x_2)] := hl
  refine lv_iload_n hx hb dX12_far_0 rfl (lv_at hl 1 rfl) ?_
  refine iv_cSi X k_good k_mf_X12_isTower k_st_X12_isTower k_ml_X12_68 hB (As := [.int x_0]) (c_X12_isTower l D tys base G x_0 i_x_0) ⟨rfl, rfl⟩ ⟨Nat.le_of_ble_eq_true rfl, Nat.le_of_ble_eq_true rfl⟩ ⟨Nat.le_of_ble_eq_true rfl, Nat.le_of_ble_eq_true rfl⟩ rfl rfl hl.1 (Nat.le_of_ble_eq_true rfl) dX12_far_1 (fun x1 G9 H locs hq hB => ?_)
  obtain ⟨rfl, i_x1, hp2⟩ := hq
  refine lv_if_eq (tgt := 29) hx hb dX12_far_4 (by decide) (fun c3 => ?_) (fun c3 => ?_)
  · skip
    have i3_x1 : iv_R 0 0 x1 := (i_x1.cutHi (n := 0) (iv_eq_r c3 q_0).2)
    refine lv_iconst (v := 0) hx hb dX12_far_29 (by decide) ?_
    exact iv_zret X hr hlocks hB (q_0.wk (by decide)) ⟨hM, (q_0.wk (by decide)), fun h => absurd (iv_z q_0) h, fun h => absurd (iv_z q_0) h, fun h => absurd (iv_z q_0) h⟩ dX12_far_30
  · skip
    have i4_x1 : iv_R 1 1 x1 := iv_ne_lo c3 i_x1 q_0 (by decide)
    have i5_x_0 : iv_R 0 3 x_0 := ((i_x_0.cutLo (n := 0) (hp2 c3).1).cutHi (n := 3) (hp2 c3).2)
    refine lv_iload_n hx hb dX12_far_7 rfl (lv_at hl 2 rfl) ?_
    refine iv_cSi X k_good k_mf_X12_isTower k_st_X12_isTower k_ml_X12_68 hB (As := [.int x_1]) (c_X12_isTower l D tys base G x_1 i_x_1) ⟨rfl, rfl⟩ ⟨Nat.le_of_ble_eq_true rfl, Nat.le_of_ble_eq_true rfl⟩ ⟨Nat.le_of_ble_eq_true rfl, Nat.le_of_ble_eq_true rfl⟩ rfl rfl hl.1 (Nat.le_of_ble_eq_true rfl) dX12_far_8 (fun x7 G9 H locs hq hB => ?_)
    obtain ⟨rfl, i_x7, hp8⟩ := hq
    refine lv_if_eq (tgt := 29) hx hb dX12_far_11 (by decide) (fun c9 => ?_) (fun c9 => ?_)
    · skip
      have i9_x7 : iv_R 0 0 x7 := (i_x7.cutHi (n := 0) (iv_eq_r c9 q_0).2)
      refine lv_iconst (v := 0) hx hb dX12_far_29 (by decide) ?_
      exact iv_zret X hr hlocks hB (q_0.wk (by decide)) ⟨hM, (q_0.wk (by decide)), fun _ => i5_x_0, fun h => absurd (iv_z q_0) h, fun h => absurd (iv_z q_0) h⟩ dX12_far_30
    · skip
      have i10_x7 : iv_R 1 1 x7 := iv_ne_lo c9 i_x7 q_0 (by decide)
      have i11_x_1 : iv_R 0 3 x_1 := ((i_x_1.cutLo (n := 0) (hp8 c9).1).cutHi (n := 3) (hp8 c9).2)
      refine lv_iload_n hx hb dX12_far_14 rfl (lv_at hl 1 rfl) ?_
      refine lv_iload_n hx hb dX12_far_15 rfl (lv_at hl 2 rfl) ?_
      refine lv_icmp_eq (tgt := 29) hx hb dX12_far_16 (by decide) (fun c13 => ?_) (fun c13 => ?_)
      · skip
        refine lv_iconst (v := 0) hx hb dX12_far_29 (by decide) ?_
        exact iv_zret X hr hlocks hB (q_0.wk (by decide)) ⟨hM, (q_0.wk (by decide)), fun _ => i5_x_0, fun _ => i11_x_1, fun h => absurd (iv_z q_0) h⟩ dX12_far_30
      · skip
        refine lv_iload_n hx hb dX12_far_19 rfl (lv_at hl 3 rfl) ?_
        refine lv_iconst (v := 0) hx hb dX12_far_20 (by decide) ?_
        refine lv_bipush (v := 99) hx hb dX12_far_21 (by decide) ?_
        refine iv_cSi X k_good k_mf_X12_isIn k_st_X12_isIn k_ml_X12_56 hB (As := [.int x_2, .int 0, .int 99]) (c_X12_isIn l D tys base G x_2 i_x_2 0 (q_0.wk (by decide)) 99 (q_99.wk (by decide))) ⟨rfl, rfl⟩ ⟨Nat.le_of_ble_eq_true rfl, Nat.le_of_ble_eq_true rfl⟩ ⟨Nat.le_of_ble_eq_true rfl, Nat.le_of_ble_eq_true rfl⟩ rfl rfl hl.1 (Nat.le_of_ble_eq_true rfl) dX12_far_23 (fun x14 G9 H locs hq hB => ?_)
        obtain ⟨rfl, i_x14, hp15⟩ := hq
        have k16 : ¬ x14 = 0 → iv_R 0 99 x_2 := fun h => ⟨iv_max i_x_2.1 (Int.le_trans q_0.1 (hp15.1 h).1) (by decide), iv_min i_x_2.2 (Int.le_trans (hp15.1 h).2 q_99.2) (by decide)⟩
        refine lv_if_ne (tgt := 31) hx hb dX12_far_26 (by decide) (fun c17 => ?_) (fun c17 => ?_)
        · skip
          have i17_x14 : iv_R 1 1 x14 := iv_ne_lo c17 i_x14 q_0 (by decide)
          have i18_x_2 : iv_R 0 99 x_2 := ((i_x_2.cutLo (n := 0) (k16 c17).1).cutHi (n := 99) (k16 c17).2)
          refine lv_aload_n hx hb dX12_far_31 rfl (lv_at hl 0 rfl) ?_
          refine iv_getr X ft_X12 hB a_h0 sh_12 0 (by decide) rfl k_fl_X12_7 dX12_far_32 (fun b20 g_b20 r_b20 e_b20 a_b20 => ?_)
          refine lv_sipush (v := 190) hx hb dX12_far_35 (by decide) ?_
          refine lv_iconst (v := 4) hx hb dX12_far_38 (by decide) ?_
          refine lv_iload_n hx hb dX12_far_39 rfl (lv_at hl 1 rfl) ?_
          refine iv_imul hx hb q_4 i5_x_0 (lo := 0) (hi := 12) (by decide) dX12_far_40 (fun x21 e_x21 i_x21 => ?_)
          refine iv_iadd hx hb q_190 i_x21 (lo := 190) (hi := 202) (by decide) dX12_far_41 (fun x22 e_x22 i_x22 => ?_)
          refine lv_iload_n hx hb dX12_far_42 rfl (lv_at hl 2 rfl) ?_
          refine iv_iadd hx hb i_x22 i11_x_1 (lo := 190) (hi := 205) (by decide) dX12_far_43 (fun x23 e_x23 i_x23 => ?_)
          refine lv_iload_n hx hb dX12_far_44 rfl (lv_at hl 3 rfl) ?_
          refine iv_wast_f X hB a_b20 i_x23 (by decide) dX12_far_45 (fun H locs hB => ?_)
          have hm := iv_Md.put (x := x_2) a_b20 (j := x23.toNatClampNeg) (iv_n146 i_x23 (by decide)) (fun h => absurd h (by decide))
          have h9 := iv_up_eq (G := G) (a := b20) (k := (60, upd g_b20 x23.toNatClampNeg x_2, r_b20))
          generalize iv_up G b20 _ = G24 at hB hm h9
          have hM := hM.stp hm (by decide)
          generalize hgn_g25 : upd g_b20 _ _ = g25 at h9
          have a_h0 := hm.at a_h0 (by decide)
          have a_b20 := h9
          refine lv_aload_n hx hb dX12_far_46 rfl (lv_at hl 0 rfl) ?_
          refine iv_getr0 X ft_X12 hB a_h0 sh_12 0 (by decide) rfl k_fl_X12_7 dX12_far_47 e_b20 ?_
          refine lv_sipush (v := 190) hx hb dX12_far_50 (by decide) ?_
          refine lv_iconst (v := 4) hx hb dX12_far_53 (by decide) ?_
          refine lv_iload_n hx hb dX12_far_54 rfl (lv_at hl 2 rfl) ?_
          refine iv_imul hx hb q_4 i11_x_1 (lo := 0) (hi := 12) (by decide) dX12_far_55 (fun x26 e_x26 i_x26 => ?_)
          refine iv_iadd hx hb q_190 i_x26 (lo := 190) (hi := 202) (by decide) dX12_far_56 (fun x27 e_x27 i_x27 => ?_)
          refine lv_iload_n hx hb dX12_far_57 rfl (lv_at hl 1 rfl) ?_
          refine iv_iadd hx hb i_x27 i5_x_0 (lo := 190) (hi := 205) (by decide) dX12_far_58 (fun x28 e_x28 i_x28 => ?_)
          refine lv_iload_n hx hb dX12_far_59 rfl (lv_at hl 3 rfl) ?_
          refine iv_wast_f X hB a_b20 i_x28 (by decide) dX12_far_60 (fun H locs hB => ?_)
          have hm := iv_Md.put (x := x_2) a_b20 (j := x28.toNatClampNeg) (iv_n146 i_x28 (by decide)) (fun h => absurd h (by decide))
          have h9 := iv_up_eq (G := G24) (a := b20) (k := (60, upd g25 x28.toNatClampNeg x_2, r_b20))
          generalize iv_up G24 b20 _ = G29 at hB hm h9
          have hM := hM.stp hm (by decide)
          generalize hgn_g30 : upd g25 _ _ = g30 at h9
          have a_h0 := hm.at a_h0 (by decide)
          have a_b20 := h9
          refine lv_aload_n hx hb dX12_far_61 rfl (lv_at hl 0 rfl) ?_
          refine iv_cVv X k_good k_mf_X12_forgets k_im_X12_forgets k_sel_X12_forgets k_ml_X12_63 ft_X12 hB a_h0 sh_12 (As := []) (c_X12_forgets l D tys base G29 h0 g_h0 r_h0 a_h0) ⟨rfl, rfl⟩ ⟨Nat.le_of_ble_eq_true rfl, Nat.le_of_ble_eq_true rfl⟩ ⟨Nat.le_of_ble_eq_true rfl, Nat.le_of_ble_eq_true rfl⟩ rfl rfl hl.1 (Nat.le_of_ble_eq_true rfl) dX12_far_62 (fun G9 H locs hq hB => ?_)
          have hm := hq
          obtain ⟨G31, hG9⟩ : ∃ g, g = G9 := ⟨_, rfl⟩
          rw [← hG9] at hm hB
          have hM := hM.stp hm (by decide)
          obtain ⟨g32, r33, a_h0, f_g32⟩ := hm.ex a_h0
          have e34 : b20 = r33 0 := e_b20.trans (f_g32.1 0 (fun h => absurd (show (12 : Nat) = 5 from h) (by decide))).symm
          have a_b20 := hm.at a_b20 (by decide)
          refine lv_iconst (v := 1) hx hb dX12_far_65 (by decide) ?_
          exact iv_zret X hr hlocks hB (q_1.wk (by decide)) ⟨hM, (q_1.wk (by decide)), fun _ => i5_x_0, fun _ => i11_x_1, fun _ => i18_x_2⟩ dX12_far_66
        · skip
          have i34_x14 : iv_R 0 0 x14 := (i_x14.cutHi (n := 0) (iv_eq_r c17 q_0).2)
          refine lv_iconst (v := 0) hx hb dX12_far_29 (by decide) ?_
          exact iv_zret X hr hlocks hB (q_0.wk (by decide)) ⟨hM, (q_0.wk (by decide)), fun _ => i5_x_0, fun _ => i11_x_1, fun h => absurd (iv_z q_0) h⟩ dX12_far_30
