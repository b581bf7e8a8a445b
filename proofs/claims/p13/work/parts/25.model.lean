theorem dX12_swaps_0 : decode cX12_swaps 0 = .ok (.aload_n 0, 1) := by decide +kernel
theorem dX12_swaps_1 : decode cX12_swaps 1 = .ok (.iload_n 1, 1) := by decide +kernel
theorem dX12_swaps_2 : decode cX12_swaps 2 = .ok (.iconst 1, 1) := by decide +kernel
theorem dX12_swaps_3 : decode cX12_swaps 3 = .ok (.invokevirtual 335, 3) := by decide +kernel
theorem dX12_swaps_6 : decode cX12_swaps 6 = .ok (.istore_n 3, 1) := by decide +kernel
theorem dX12_swaps_7 : decode cX12_swaps 7 = .ok (.aload_n 0, 1) := by decide +kernel
theorem dX12_swaps_8 : decode cX12_swaps 8 = .ok (.getfield 7, 3) := by decide +kernel
theorem dX12_swaps_11 : decode cX12_swaps 11 = .ok (.iconst 5, 1) := by decide +kernel
theorem dX12_swaps_12 : decode cX12_swaps 12 = .ok (.iconst 3, 1) := by decide +kernel
theorem dX12_swaps_13 : decode cX12_swaps 13 = .ok (.iload_n 1, 1) := by decide +kernel
theorem dX12_swaps_14 : decode cX12_swaps 14 = .ok (.imul, 1) := by decide +kernel
theorem dX12_swaps_15 : decode cX12_swaps 15 = .ok (.iadd, 1) := by decide +kernel
theorem dX12_swaps_16 : decode cX12_swaps 16 = .ok (.iconst 1, 1) := by decide +kernel
theorem dX12_swaps_17 : decode cX12_swaps 17 = .ok (.iadd, 1) := by decide +kernel
theorem dX12_swaps_18 : decode cX12_swaps 18 = .ok (.aload_n 0, 1) := by decide +kernel
theorem dX12_swaps_19 : decode cX12_swaps 19 = .ok (.iload_n 2, 1) := by decide +kernel
theorem dX12_swaps_20 : decode cX12_swaps 20 = .ok (.iconst 1, 1) := by decide +kernel
theorem dX12_swaps_21 : decode cX12_swaps 21 = .ok (.invokevirtual 335, 3) := by decide +kernel
theorem dX12_swaps_24 : decode cX12_swaps 24 = .ok (.iastore, 1) := by decide +kernel
theorem dX12_swaps_25 : decode cX12_swaps 25 = .ok (.aload_n 0, 1) := by decide +kernel
theorem dX12_swaps_26 : decode cX12_swaps 26 = .ok (.getfield 7, 3) := by decide +kernel
theorem dX12_swaps_29 : decode cX12_swaps 29 = .ok (.iconst 5, 1) := by decide +kernel
theorem dX12_swaps_30 : decode cX12_swaps 30 = .ok (.iconst 3, 1) := by decide +kernel
theorem dX12_swaps_31 : decode cX12_swaps 31 = .ok (.iload_n 2, 1) := by decide +kernel
theorem dX12_swaps_32 : decode cX12_swaps 32 = .ok (.imul, 1) := by decide +kernel
theorem dX12_swaps_33 : decode cX12_swaps 33 = .ok (.iadd, 1) := by decide +kernel
theorem dX12_swaps_34 : decode cX12_swaps 34 = .ok (.iconst 1, 1) := by decide +kernel
theorem dX12_swaps_35 : decode cX12_swaps 35 = .ok (.iadd, 1) := by decide +kernel
theorem dX12_swaps_36 : decode cX12_swaps 36 = .ok (.iload_n 3, 1) := by decide +kernel
theorem dX12_swaps_37 : decode cX12_swaps 37 = .ok (.iastore, 1) := by decide +kernel
theorem dX12_swaps_38 : decode cX12_swaps 38 = .ok (.return_, 1) := by decide +kernel
set_option maxHeartbeats 4000000 in
set_option maxRecDepth 100000 in
theorem c_X12_swaps (l : Launch) (D : va_G) (tys : List (ClassId × FieldType)) (base : Nat) (G : iv_G) (h0 : Nat) (g_h0 : Nat → Int32) (r_h0 : Nat → Nat) (a_h0 : G h0 = some (12, g_h0, r_h0)) (x_0 : Int32) (i_x_0 : iv_R 0 19 x_0) (x_1 : Int32) (i_x_1 : iv_R 0 19 x_1) : Met l yX12_swaps (Cond.code yX12_swaps cX12_swaps 4 none :: iv_W0) ({ frames := 1, cells := 0, slots := 0, locals := 22 }) (iv_Pc iv_sh D classes tys base G [.ref h0, .int x_0, .int x_1]) (iv_Qv iv_sh D classes tys base (fun G' => iv_Md [60] G G')) 0 0 (iv_A base) := by
  refine iv_head (by decide) (Nat.le_of_ble_eq_true rfl) ?_
  intro p e s m args below meth c ls X hr hlocks hname hB hl
  have X := X
  have hx := X.1.1
  have hb := X.1.2.1
  have hM : iv_Md [60] G G := iv_Md.rf
  have hl : lv_has ls 4 [(0, .ref h0), (1, .int x_0), (2, .int x_1)] := hl
  refine lv_aload_n hx hb dX12_swaps_0 rfl (lv_at hl 0 rfl) ?_
  refine lv_iload_n hx hb dX12_swaps_1 rfl (lv_at hl 1 rfl) ?_
  refine lv_iconst (v := 1) hx hb dX12_swaps_2 (by decide) ?_
  refine iv_cVi X k_good k_mf_X12_ofChild k_im_X12_ofChild k_sel_X12_ofChild k_ml_X12_335 ft_X12 hB a_h0 sh_12 (As := [.int x_0, .int 1]) (c_X12_ofChild l D tys base G h0 g_h0 r_h0 a_h0 x_0 i_x_0 1 (q_1.wk (by decide))) ⟨rfl, rfl⟩ ⟨Nat.le_of_ble_eq_true rfl, Nat.le_of_ble_eq_true rfl⟩ ⟨Nat.le_of_ble_eq_true rfl, Nat.le_of_ble_eq_true rfl⟩ rfl rfl hl.1 (Nat.le_of_ble_eq_true rfl) dX12_swaps_3 (fun x1 G9 H locs hq hB => ?_)
  obtain ⟨rfl, i_x1⟩ := hq
  refine lv_istore_n (lv' := [(3, .int x1), (0, .ref h0), (1, .int x_0), (2, .int x_1)]) hx hb dX12_swaps_6 rfl hl (by decide) rfl (fun ls hl => ?_)
  refine lv_aload_n hx hb dX12_swaps_7 rfl (lv_at hl 1 rfl) ?_
  refine iv_getr X ft_X12 hB a_h0 sh_12 0 (by decide) rfl k_fl_X12_7 dX12_swaps_8 (fun b2 g_b2 r_b2 e_b2 a_b2 => ?_)
  refine lv_iconst (v := 5) hx hb dX12_swaps_11 (by decide) ?_
  refine lv_iconst (v := 3) hx hb dX12_swaps_12 (by decide) ?_
  refine lv_iload_n hx hb dX12_swaps_13 rfl (lv_at hl 2 rfl) ?_
  refine iv_imul hx hb q_3 i_x_0 (lo := 0) (hi := 57) (by decide) dX12_swaps_14 (fun x3 e_x3 i_x3 => ?_)
  refine iv_iadd hx hb q_5 i_x3 (lo := 5) (hi := 62) (by decide) dX12_swaps_15 (fun x4 e_x4 i_x4 => ?_)
  refine lv_iconst (v := 1) hx hb dX12_swaps_16 (by decide) ?_
  refine iv_iadd hx hb i_x4 q_1 (lo := 6) (hi := 63) (by decide) dX12_swaps_17 (fun x5 e_x5 i_x5 => ?_)
  refine lv_aload_n hx hb dX12_swaps_18 rfl (lv_at hl 1 rfl) ?_
  refine lv_iload_n hx hb dX12_swaps_19 rfl (lv_at hl 3 rfl) ?_
  refine lv_iconst (v := 1) hx hb dX12_swaps_20 (by decide) ?_
  refine iv_cVi X k_good k_mf_X12_ofChild k_im_X12_ofChild k_sel_X12_ofChild k_ml_X12_335 ft_X12 hB a_h0 sh_12 (As := [.int x_1, .int 1]) (c_X12_ofChild l D tys base G h0 g_h0 r_h0 a_h0 x_1 i_x_1 1 (q_1.wk (by decide))) ⟨rfl, rfl⟩ ⟨Nat.le_of_ble_eq_true rfl, Nat.le_of_ble_eq_true rfl⟩ ⟨Nat.le_of_ble_eq_true rfl, Nat.le_of_ble_eq_true rfl⟩ rfl rfl hl.1 (Nat.le_of_ble_eq_true rfl) dX12_swaps_21 (fun x6 G9 H locs hq hB => ?_)
  obtain ⟨rfl, i_x6⟩ := hq
  refine iv_wast_f X hB a_b2 i_x5 (by decide) dX12_swaps_24 (fun H locs hB => ?_)
  have hm := iv_Md.put (x := x6) a_b2 (j := x5.toNatClampNeg) (iv_n146 i_x5 (by decide)) (fun h => absurd h (by decide))
  have h9 := iv_up_eq (G := G) (a := b2) (k := (60, upd g_b2 x5.toNatClampNeg x6, r_b2))
  generalize iv_up G b2 _ = G7 at hB hm h9
  have hM := hM.stp hm (by decide)
  generalize hgn_g8 : upd g_b2 _ _ = g8 at h9
  have a_h0 := hm.at a_h0 (by decide)
  have a_b2 := h9
  refine lv_aload_n hx hb dX12_swaps_25 rfl (lv_at hl 1 rfl) ?_
  refine iv_getr0 X ft_X12 hB a_h0 sh_12 0 (by decide) rfl k_fl_X12_7 dX12_swaps_26 e_b2 ?_
  refine lv_iconst (v := 5) hx hb dX12_swaps_29 (by decide) ?_
  refine lv_iconst (v := 3) hx hb dX12_swaps_30 (by decide) ?_
  refine lv_iload_n hx hb dX12_swaps_31 rfl (lv_at hl 3 rfl) ?_
  refine iv_imul hx hb q_3 i_x_1 (lo := 0) (hi := 57) (by decide) dX12_swaps_32 (fun x9 e_x9 i_x9 => ?_)
  refine iv_iadd hx hb q_5 i_x9 (lo := 5) (hi := 62) (by decide) dX12_swaps_33 (fun x10 e_x10 i_x10 => ?_)
  refine lv_iconst (v := 1) hx hb dX12_swaps_34 (by decide) ?_
  refine iv_iadd hx hb i_x10 q_1 (lo := 6) (hi := 63) (by decide) dX12_swaps_35 (fun x11 e_x11 i_x11 => ?_)
  refine lv_iload_n hx hb dX12_swaps_36 rfl (lv_at hl 0 rfl) ?_
  refine iv_wast_f X hB a_b2 i_x11 (by decide) dX12_swaps_37 (fun H locs hB => ?_)
  have hm := iv_Md.put (x := x1) a_b2 (j := x11.toNatClampNeg) (iv_n146 i_x11 (by decide)) (fun h => absurd h (by decide))
  have h9 := iv_up_eq (G := G7) (a := b2) (k := (60, upd g8 x11.toNatClampNeg x1, r_b2))
  generalize iv_up G7 b2 _ = G12 at hB hm h9
  have hM := hM.stp hm (by decide)
  generalize hgn_g13 : upd g8 _ _ = g13 at h9
  have a_h0 := hm.at a_h0 (by decide)
  have a_b2 := h9
  exact iv_vret X hr hlocks hB hM dX12_swaps_38
theorem dX12_swap_0 : decode cX12_swap 0 = .ok (.aload_n 0, 1) := by decide +kernel
theorem dX12_swap_1 : decode cX12_swap 1 = .ok (.iload_n 1, 1) := by decide +kernel
theorem dX12_swap_2 : decode cX12_swap 2 = .ok (.invokevirtual 338, 3) := by decide +kernel
theorem dX12_swap_5 : decode cX12_swap 5 = .ok (.ifCond .eq 16, 3) := by decide +kernel
theorem dX12_swap_8 : decode cX12_swap 8 = .ok (.aload_n 0, 1) := by decide +kernel
theorem dX12_swap_9 : decode cX12_swap 9 = .ok (.iload_n 2, 1) := by decide +kernel
theorem dX12_swap_10 : decode cX12_swap 10 = .ok (.invokevirtual 338, 3) := by decide +kernel
theorem dX12_swap_13 : decode cX12_swap 13 = .ok (.ifCond .eq 8, 3) := by decide +kernel
theorem dX12_swap_16 : decode cX12_swap 16 = .ok (.iload_n 1, 1) := by decide +kernel
theorem dX12_swap_17 : decode cX12_swap 17 = .ok (.iload_n 2, 1) := by decide +kernel
theorem dX12_swap_18 : decode cX12_swap 18 = .ok (.if_icmp .ne 5, 3) := by decide +kernel
theorem dX12_swap_21 : decode cX12_swap 21 = .ok (.iconst 0, 1) := by decide +kernel
theorem dX12_swap_22 : decode cX12_swap 22 = .ok (.ireturn, 1) := by decide +kernel
theorem dX12_swap_23 : decode cX12_swap 23 = .ok (.aload_n 0, 1) := by decide +kernel
theorem dX12_swap_24 : decode cX12_swap 24 = .ok (.invokevirtual 329, 3) := by decide +kernel
theorem dX12_swap_27 : decode cX12_swap 27 = .ok (.aload_n 0, 1) := by decide +kernel
theorem dX12_swap_28 : decode cX12_swap 28 = .ok (.iload_n 1, 1) := by decide +kernel
theorem dX12_swap_29 : decode cX12_swap 29 = .ok (.iload_n 2, 1) := by decide +kernel
theorem dX12_swap_30 : decode cX12_swap 30 = .ok (.invokevirtual 341, 3) := by decide +kernel
theorem dX12_swap_33 : decode cX12_swap 33 = .ok (.aload_n 0, 1) := by decide +kernel
theorem dX12_swap_34 : decode cX12_swap 34 = .ok (.iconst 2, 1) := by decide +kernel
theorem dX12_swap_35 : decode cX12_swap 35 = .ok (.iload_n 1, 1) := by decide +kernel
theorem dX12_swap_36 : decode cX12_swap 36 = .ok (.iload_n 2, 1) := by decide +kernel
theorem dX12_swap_37 : decode cX12_swap 37 = .ok (.invokevirtual 332, 3) := by decide +kernel
theorem dX12_swap_40 : decode cX12_swap 40 = .ok (.iconst 1, 1) := by decide +kernel
theorem dX12_swap_41 : decode cX12_swap 41 = .ok (.ireturn, 1) := by decide +kernel
set_option maxHeartbeats 4000000 in
set_option maxRecDepth 100000 in
theorem c_X12_swap (l : Launch) (D : va_G) (tys : List (ClassId × FieldType)) (base : Nat) (G : iv_G) (h0 : Nat) (g_h0 : Nat → Int32) (r_h0 : Nat → Nat) (a_h0 : G h0 = some (12, g_h0, r_h0)) (x_0 : Int32) (i_x_0 : iv_R (-2147483648) 2147483647 x_0) (x_1 : Int32) (i_x_1 : iv_R (-2147483648) 2147483647 x_1) : Met l yX12_swap (Cond.code yX12_swap cX12_swap 3 (some .boolean) :: iv_W0) ({ frames := 2, cells := 0, slots := 0, locals := 45 }) (iv_Pc iv_sh D classes tys base G [.ref h0, .int x_0, .int x_1]) (iv_Qi iv_sh D classes tys base (fun v G' => iv_Md [12, 60, 62] G G' ∧ iv_R 0 1 v ∧ ((¬ v = 0 → iv_R 0 19 x_0) ∧ (¬ v = 0 → iv_R 0 19 x_1)))) 0 0 (iv_A base) := by
  refine iv_head (by decide) (Nat.le_of_ble_eq_true rfl) ?_
  intro p e s m args below meth c ls X hr hlocks hname hB hl
  have X := X
  have hx := X.1.1
  have hb := X.1.2.1
  have hM : iv_Md [12, 60, 62] G G := iv_Md.rf
  have hl : lv_has ls 3 [(0, .ref h0), (1, .int x_0), (2, .int x_1)] := hl
  refine lv_aload_n hx hb dX12_swap_0 rfl (lv_at hl 0 rfl) ?_
  refine lv_iload_n hx hb dX12_swap_1 rfl (lv_at hl 1 rfl) ?_
  refine iv_cVi X k_good k_mf_X12_isChild k_im_X12_isChild k_sel_X12_isChild k_ml_X12_338 ft_X12 hB a_h0 sh_12 (As := [.int x_0]) (c_X12_isChild l D tys base G h0 g_h0 r_h0 a_h0 x_0 i_x_0) ⟨rfl, rfl⟩ ⟨Nat.le_of_ble_eq_true rfl, Nat.le_of_ble_eq_true rfl⟩ ⟨Nat.le_of_ble_eq_true rfl, Nat.le_of_ble_eq_true rfl⟩ rfl rfl hl.1 (Nat.le_of_ble_eq_true rfl) dX12_swap_2 (fun x1 G9 H locs hq hB => ?_)
  obtain ⟨rfl, i_x1, hp2⟩ := hq
  refine lv_if_eq (tgt := 21) hx hb dX12_swap_5 (by decide) (fun c3 => ?_) (fun c3 => ?_)
  · skip
    have i3_x1 : iv_R 0 0 x1 := (i_x1.cutHi (n := 0) (iv_eq_r c3 q_0).2)
    refine lv_iconst (v := 0) hx hb dX12_swap_21 (by decide) ?_
    exact iv_zret X hr hlocks hB (q_0.wk (by decide)) ⟨hM, (q_0.wk (by decide)), ⟨fun h => absurd (iv_z q_0) h, fun h => absurd (iv_z q_0) h⟩⟩ dX12_swap_22
  · skip
    have i4_x1 : iv_R 1 1 x1 := iv_ne_lo c3 i_x1 q_0 (by decide)
    have i5_x_0 : iv_R 0 19 x_0 := ((i_x_0.cutLo (n := 0) (hp2 c3).1).cutHi (n := 19) (hp2 c3).2)
    refine lv_aload_n hx hb dX12_swap_8 rfl (lv_at hl 0 rfl) ?_
    refine lv_iload_n hx hb dX12_swap_9 rfl (lv_at hl 2 rfl) ?_
    refine iv_cVi X k_good k_mf_X12_isChild k_im_X12_isChild k_sel_X12_isChild k_ml_X12_338 ft_X12 hB a_h0 sh_12 (As := [.int x_1]) (c_X12_isChild l D tys base G h0 g_h0 r_h0 a_h0 x_1 i_x_1) ⟨rfl, rfl⟩ ⟨Nat.le_of_ble_eq_true rfl, Nat.le_of_ble_eq_true rfl⟩ ⟨Nat.le_of_ble_eq_true rfl, Nat.le_of_ble_eq_true rfl⟩ rfl rfl hl.1 (Nat.le_of_ble_eq_true rfl) dX12_swap_10 (fun x7 G9 H locs hq hB => ?_)
    obtain ⟨rfl, i_x7, hp8⟩ := hq
    refine lv_if_eq (tgt := 21) hx hb dX12_swap_13 (by decide) (fun c9 => ?_) (fun c9 => ?_)
    · skip
      have i9_x7 : iv_R 0 0 x7 := (i_x7.cutHi (n := 0) (iv_eq_r c9 q_0).2)
      refine lv_iconst (v := 0) hx hb dX12_swap_21 (by decide) ?_
      exact iv_zret X hr hlocks hB (q_0.wk (by decide)) ⟨hM, (q_0.wk (by decide)), ⟨fun _ => i5_x_0, fun h => absurd (iv_z q_0) h⟩⟩ dX12_swap_22
    · skip
      have i10_x7 : iv_R 1 1 x7 := iv_ne_lo c9 i_x7 q_0 (by decide)
      have i11_x_1 : iv_R 0 19 x_1 := ((i_x_1.cutLo (n := 0) (hp8 c9).1).cutHi (n := 19) (hp8 c9).2)
      refine lv_iload_n hx hb dX12_swap_16 rfl (lv_at hl 1 rfl) ?_
      refine lv_iload_n hx hb dX12_swap_17 rfl (lv_at hl 2 rfl) ?_
      refine lv_icmp_ne (tgt := 23) hx hb dX12_swap_18 (by decide) (fun c13 => ?_) (fun c13 => ?_)
      · skip
        refine lv_aload_n hx hb dX12_swap_23 rfl (lv_at hl 0 rfl) ?_
        refine iv_cVv X k_good k_mf_X12_keeps k_im_X12_keeps k_sel_X12_keeps k_ml_X12_329 ft_X12 hB a_h0 sh_12 (As := []) (c_X12_keeps l D tys base G h0 g_h0 r_h0 a_h0) ⟨rfl, rfl⟩ ⟨Nat.le_of_ble_eq_true rfl, Nat.le_of_ble_eq_true rfl⟩ ⟨Nat.le_of_ble_eq_true rfl, Nat.le_of_ble_eq_true rfl⟩ rfl rfl hl.1 (Nat.le_of_ble_eq_true rfl) dX12_swap_24 (fun G9 H locs hq hB => ?_)
        have hm := hq
        obtain ⟨G14, hG9⟩ : ∃ g, g = G9 := ⟨_, rfl⟩
        rw [← hG9] at hm hB
        have hM := hM.stp hm (by decide)
        obtain ⟨g15, r16, a_h0, f_g15⟩ := hm.ex a_h0
        refine lv_aload_n hx hb dX12_swap_27 rfl (lv_at hl 0 rfl) ?_
        refine lv_iload_n hx hb dX12_swap_28 rfl (lv_at hl 1 rfl) ?_
        refine lv_iload_n hx hb dX12_swap_29 rfl (lv_at hl 2 rfl) ?_
        refine iv_cVv X k_good k_mf_X12_swaps k_im_X12_swaps k_sel_X12_swaps k_ml_X12_341 ft_X12 hB a_h0 sh_12 (As := [.int x_0, .int x_1]) (c_X12_swaps l D tys base G14 h0 g15 r16 a_h0 x_0 i5_x_0 x_1 i11_x_1) ⟨rfl, rfl⟩ ⟨Nat.le_of_ble_eq_true rfl, Nat.le_of_ble_eq_true rfl⟩ ⟨Nat.le_of_ble_eq_true rfl, Nat.le_of_ble_eq_true rfl⟩ rfl rfl hl.1 (Nat.le_of_ble_eq_true rfl) dX12_swap_30 (fun G9 H locs hq hB => ?_)
        have hm := hq
        obtain ⟨G17, hG9⟩ : ∃ g, g = G9 := ⟨_, rfl⟩
        rw [← hG9] at hm hB
        have hM := hM.stp hm (by decide)
        have a_h0 := hm.at a_h0 (by decide)
        refine lv_aload_n hx hb dX12_swap_33 rfl (lv_at hl 0 rfl) ?_
        refine lv_iconst (v := 2) hx hb dX12_swap_34 (by decide) ?_
        refine lv_iload_n hx hb dX12_swap_35 rfl (lv_at hl 1 rfl) ?_
        refine lv_iload_n hx hb dX12_swap_36 rfl (lv_at hl 2 rfl) ?_
        refine iv_cVv X k_good k_mf_X12_notes k_im_X12_notes k_sel_X12_notes k_ml_X12_332 ft_X12 hB a_h0 sh_12 (As := [.int 2, .int x_0, .int x_1]) (c_X12_notes l D tys base G17 h0 g15 r16 a_h0 2 (q_2.wk (by decide)) x_0 i5_x_0 x_1 (i11_x_1.wk (by decide))) ⟨rfl, rfl⟩ ⟨Nat.le_of_ble_eq_true rfl, Nat.le_of_ble_eq_true rfl⟩ ⟨Nat.le_of_ble_eq_true rfl, Nat.le_of_ble_eq_true rfl⟩ rfl rfl hl.1 (Nat.le_of_ble_eq_true rfl) dX12_swap_37 (fun G9 H locs hq hB => ?_)
        have hm := hq
        obtain ⟨G18, hG9⟩ : ∃ g, g = G9 := ⟨_, rfl⟩
        rw [← hG9] at hm hB
        have hM := hM.stp hm (by decide)
        have a_h0 := hm.at a_h0 (by decide)
        refine lv_iconst (v := 1) hx hb dX12_swap_40 (by decide) ?_
        exact iv_zret X hr hlocks hB (q_1.wk (by decide)) ⟨hM, (q_1.wk (by decide)), ⟨fun _ => i5_x_0, fun _ => i11_x_1⟩⟩ dX12_swap_41
      · skip
        refine lv_iconst (v := 0) hx hb dX12_swap_21 (by decide) ?_
        exact iv_zret X hr hlocks hB (q_0.wk (by decide)) ⟨hM, (q_0.wk (by decide)), ⟨fun _ => i5_x_0, fun _ => i11_x_1⟩⟩ dX12_swap_22
theorem dX12_turn_0 : decode cX12_turn 0 = .ok (.iload_n 1, 1) := by decide +kernel
theorem dX12_turn_1 : decode cX12_turn 1 = .ok (.iconst (-1), 1) := by decide +kernel
theorem dX12_turn_2 : decode cX12_turn 2 = .ok (.if_icmp .ne 18, 3) := by decide +kernel
theorem dX12_turn_5 : decode cX12_turn 5 = .ok (.aload_n 0, 1) := by decide +kernel
theorem dX12_turn_6 : decode cX12_turn 6 = .ok (.getfield 7, 3) := by decide +kernel
theorem dX12_turn_9 : decode cX12_turn 9 = .ok (.sipush 152, 3) := by decide +kernel
theorem dX12_turn_12 : decode cX12_turn 12 = .ok (.iconst 0, 1) := by decide +kernel
theorem dX12_turn_13 : decode cX12_turn 13 = .ok (.iastore, 1) := by decide +kernel
theorem dX12_turn_14 : decode cX12_turn 14 = .ok (.aload_n 0, 1) := by decide +kernel
theorem dX12_turn_15 : decode cX12_turn 15 = .ok (.invokevirtual 63, 3) := by decide +kernel
theorem dX12_turn_18 : decode cX12_turn 18 = .ok (.iconst 0, 1) := by decide +kernel
theorem dX12_turn_19 : decode cX12_turn 19 = .ok (.ireturn, 1) := by decide +kernel
theorem dX12_turn_20 : decode cX12_turn 20 = .ok (.aload_n 0, 1) := by decide +kernel
theorem dX12_turn_21 : decode cX12_turn 21 = .ok (.iload_n 1, 1) := by decide +kernel
theorem dX12_turn_22 : decode cX12_turn 22 = .ok (.invokevirtual 338, 3) := by decide +kernel
theorem dX12_turn_25 : decode cX12_turn 25 = .ok (.ifCond .eq 30, 3) := by decide +kernel
theorem dX12_turn_28 : decode cX12_turn 28 = .ok (.iload_n 2, 1) := by decide +kernel
theorem dX12_turn_29 : decode cX12_turn 29 = .ok (.invokestatic 371, 3) := by decide +kernel
theorem dX12_turn_32 : decode cX12_turn 32 = .ok (.ifCond .eq 23, 3) := by decide +kernel
theorem dX12_turn_35 : decode cX12_turn 35 = .ok (.iload_n 3, 1) := by decide +kernel
theorem dX12_turn_36 : decode cX12_turn 36 = .ok (.invokestatic 68, 3) := by decide +kernel
theorem dX12_turn_39 : decode cX12_turn 39 = .ok (.ifCond .eq 16, 3) := by decide +kernel
theorem dX12_turn_42 : decode cX12_turn 42 = .ok (.aload_n 0, 1) := by decide +kernel
theorem dX12_turn_43 : decode cX12_turn 43 = .ok (.getfield 7, 3) := by decide +kernel
theorem dX12_turn_46 : decode cX12_turn 46 = .ok (.sipush 152, 3) := by decide +kernel
theorem dX12_turn_49 : decode cX12_turn 49 = .ok (.iaload, 1) := by decide +kernel
theorem dX12_turn_50 : decode cX12_turn 50 = .ok (.bipush 12, 2) := by decide +kernel
theorem dX12_turn_52 : decode cX12_turn 52 = .ok (.if_icmp .ne 5, 3) := by decide +kernel
theorem dX12_turn_55 : decode cX12_turn 55 = .ok (.iconst (-1), 1) := by decide +kernel
theorem dX12_turn_56 : decode cX12_turn 56 = .ok (.ireturn, 1) := by decide +kernel
theorem dX12_turn_57 : decode cX12_turn 57 = .ok (.sipush 153, 3) := by decide +kernel
theorem dX12_turn_60 : decode cX12_turn 60 = .ok (.iconst 3, 1) := by decide +kernel
theorem dX12_turn_61 : decode cX12_turn 61 = .ok (.aload_n 0, 1) := by decide +kernel
theorem dX12_turn_62 : decode cX12_turn 62 = .ok (.getfield 7, 3) := by decide +kernel
theorem dX12_turn_65 : decode cX12_turn 65 = .ok (.sipush 152, 3) := by decide +kernel
theorem dX12_turn_68 : decode cX12_turn 68 = .ok (.iaload, 1) := by decide +kernel
theorem dX12_turn_69 : decode cX12_turn 69 = .ok (.imul, 1) := by decide +kernel
theorem dX12_turn_70 : decode cX12_turn 70 = .ok (.iadd, 1) := by decide +kernel
theorem dX12_turn_71 : decode cX12_turn 71 = .ok (.istore 4, 2) := by decide +kernel
theorem dX12_turn_73 : decode cX12_turn 73 = .ok (.aload_n 0, 1) := by decide +kernel
theorem dX12_turn_74 : decode cX12_turn 74 = .ok (.getfield 7, 3) := by decide +kernel
theorem dX12_turn_77 : decode cX12_turn 77 = .ok (.iload 4, 2) := by decide +kernel
theorem dX12_turn_79 : decode cX12_turn 79 = .ok (.iload_n 1, 1) := by decide +kernel
theorem dX12_turn_80 : decode cX12_turn 80 = .ok (.iastore, 1) := by decide +kernel
theorem dX12_turn_81 : decode cX12_turn 81 = .ok (.aload_n 0, 1) := by decide +kernel
theorem dX12_turn_82 : decode cX12_turn 82 = .ok (.getfield 7, 3) := by decide +kernel
theorem dX12_turn_85 : decode cX12_turn 85 = .ok (.iload 4, 2) := by decide +kernel
theorem dX12_turn_87 : decode cX12_turn 87 = .ok (.iconst 1, 1) := by decide +kernel
theorem dX12_turn_88 : decode cX12_turn 88 = .ok (.iadd, 1) := by decide +kernel
theorem dX12_turn_89 : decode cX12_turn 89 = .ok (.iload_n 2, 1) := by decide +kernel
theorem dX12_turn_90 : decode cX12_turn 90 = .ok (.iastore, 1) := by decide +kernel
theorem dX12_turn_91 : decode cX12_turn 91 = .ok (.aload_n 0, 1) := by decide +kernel
theorem dX12_turn_92 : decode cX12_turn 92 = .ok (.getfield 7, 3) := by decide +kernel
theorem dX12_turn_95 : decode cX12_turn 95 = .ok (.iload 4, 2) := by decide +kernel
theorem dX12_turn_97 : decode cX12_turn 97 = .ok (.iconst 2, 1) := by decide +kernel
theorem dX12_turn_98 : decode cX12_turn 98 = .ok (.iadd, 1) := by decide +kernel
theorem dX12_turn_99 : decode cX12_turn 99 = .ok (.iload_n 3, 1) := by decide +kernel
theorem dX12_turn_100 : decode cX12_turn 100 = .ok (.iastore, 1) := by decide +kernel
theorem dX12_turn_101 : decode cX12_turn 101 = .ok (.aload_n 0, 1) := by decide +kernel
theorem dX12_turn_102 : decode cX12_turn 102 = .ok (.getfield 7, 3) := by decide +kernel
theorem dX12_turn_105 : decode cX12_turn 105 = .ok (.sipush 152, 3) := by decide +kernel
theorem dX12_turn_108 : decode cX12_turn 108 = .ok (.dup2, 1) := by decide +kernel
theorem dX12_turn_109 : decode cX12_turn 109 = .ok (.iaload, 1) := by decide +kernel
theorem dX12_turn_110 : decode cX12_turn 110 = .ok (.iconst 1, 1) := by decide +kernel
theorem dX12_turn_111 : decode cX12_turn 111 = .ok (.iadd, 1) := by decide +kernel
theorem dX12_turn_112 : decode cX12_turn 112 = .ok (.iastore, 1) := by decide +kernel
theorem dX12_turn_113 : decode cX12_turn 113 = .ok (.aload_n 0, 1) := by decide +kernel
theorem dX12_turn_114 : decode cX12_turn 114 = .ok (.invokevirtual 63, 3) := by decide +kernel
theorem dX12_turn_117 : decode cX12_turn 117 = .ok (.aload_n 0, 1) := by decide +kernel
theorem dX12_turn_118 : decode cX12_turn 118 = .ok (.getfield 7, 3) := by decide +kernel
theorem dX12_turn_121 : decode cX12_turn 121 = .ok (.sipush 152, 3) := by decide +kernel
theorem dX12_turn_124 : decode cX12_turn 124 = .ok (.iaload, 1) := by decide +kernel
theorem dX12_turn_125 : decode cX12_turn 125 = .ok (.ireturn, 1) := by decide +kernel
set_option maxHeartbeats 4000000 in
set_option maxRecDepth 100000 in
theorem c_X12_turn (l : Launch) (D : va_G) (tys : List (ClassId × FieldType)) (base : Nat) (G : iv_G) (h0 : Nat) (g_h0 : Nat → Int32) (r_h0 : Nat → Nat) (a_h0 : G h0 = some (12, g_h0, r_h0)) (x_0 : Int32) (i_x_0 : iv_R (-2147483648) 2147483647 x_0) (x_1 : Int32) (i_x_1 : iv_R (-2147483648) 2147483647 x_1) (x_2 : Int32) (i_x_2 : iv_R (-2147483648) 2147483647 x_2) : Met l yX12_turn (Cond.code yX12_turn cX12_turn 5 (some .int) :: iv_W0) ({ frames := 2, cells := 0, slots := 0, locals := 43 }) (iv_Pc iv_sh D classes tys base G [.ref h0, .int x_0, .int x_1, .int x_2]) (iv_Qi iv_sh D classes tys base (fun v G' => iv_Md [12, 60] G G' ∧ iv_R (-1) 12 v)) 0 0 (iv_A base) := by
  refine iv_head (by decide) (Nat.le_of_ble_eq_true rfl) ?_
  intro p e s m args below meth c ls X hr hlocks hname hB hl
  have X := X
  have hx := X.1.1
  have hb := X.1.2.1
  have hM : iv_Md [12, 60] G G := iv_Md.rf
  have hl : lv_has ls 5 [(0, .ref h0), (1, .int x_0), (2, .int x_1), (3, .int x_2)] := hl
  refine lv_iload_n hx hb dX12_turn_0 rfl (lv_at hl 1 rfl) ?_
  refine lv_iconst (v := (-1)) hx hb dX12_turn_1 (by decide) ?_
  refine lv_icmp_ne (tgt := 20) hx hb dX12_turn_2 (by decide) (fun c1 => ?_) (fun c1 => ?_)
  · skip
    refine lv_aload_n hx hb dX12_turn_20 rfl (lv_at hl 0 rfl) ?_
    refine lv_iload_n hx hb dX12_turn_21 rfl (lv_at hl 1 rfl) ?_
    refine iv_cVi X k_good k_mf_X12_isChild k_im_X12_isChild k_sel_X12_isChild k_ml_X12_338 ft_X12 hB a_h0 sh_12 (As := [.int x_0]) (c_X12_isChild l D tys base G h0 g_h0 r_h0 a_h0 x_0 i_x_0) ⟨rfl, rfl⟩ ⟨Nat.le_of_ble_eq_true rfl, Nat.le_of_ble_eq_true rfl⟩ ⟨Nat.le_of_ble_eq_true rfl, Nat.le_of_ble_eq_true rfl⟩ rfl rfl hl.1 (Nat.le_of_ble_eq_true rfl) dX12_turn_22 (fun x2 G9 H locs hq hB => ?_)
    obtain ⟨rfl, i_x2, hp3⟩ := hq
    refine lv_if_eq (tgt := 55) hx hb dX12_turn_25 (by decide) (fun c4 => ?_) (fun c4 => ?_)
    · skip
      have i4_x2 : iv_R 0 0 x2 := (i_x2.cutHi (n := 0) (iv_eq_r c4 q_0).2)
      refine lv_iconst (v := (-1)) hx hb dX12_turn_55 (by decide) ?_
      exact iv_iret X hr hlocks hB ⟨hM, (q_n1.wk (by decide))⟩ dX12_turn_56
    · skip
      have i5_x2 : iv_R 1 1 x2 := iv_ne_lo c4 i_x2 q_0 (by decide)
      have i6_x_0 : iv_R 0 19 x_0 := ((i_x_0.cutLo (n := 0) (hp3 c4).1).cutHi (n := 19) (hp3 c4).2)
      refine lv_iload_n hx hb dX12_turn_28 rfl (lv_at hl 2 rfl) ?_
      refine iv_cSi X k_good k_mf_X12_isHour k_st_X12_isHour k_ml_X12_371 hB (As := [.int x_1]) (c_X12_isHour l D tys base G x_1 i_x_1) ⟨rfl, rfl⟩ ⟨Nat.le_of_ble_eq_true rfl, Nat.le_of_ble_eq_true rfl⟩ ⟨Nat.le_of_ble_eq_true rfl, Nat.le_of_ble_eq_true rfl⟩ rfl rfl hl.1 (Nat.le_of_ble_eq_true rfl) dX12_turn_29 (fun x8 G9 H locs hq hB => ?_)
      obtain ⟨rfl, i_x8, hp9⟩ := hq
      refine lv_if_eq (tgt := 55) hx hb dX12_turn_32 (by decide) (fun c10 => ?_) (fun c10 => ?_)
      · skip
        have i10_x8 : iv_R 0 0 x8 := (i_x8.cutHi (n := 0) (iv_eq_r c10 q_0).2)
        refine lv_iconst (v := (-1)) hx hb dX12_turn_55 (by decide) ?_
        exact iv_iret X hr hlocks hB ⟨hM, (q_n1.wk (by decide))⟩ dX12_turn_56
      · skip
        have i11_x8 : iv_R 1 1 x8 := iv_ne_lo c10 i_x8 q_0 (by decide)
        have i12_x_1 : iv_R 0 23 x_1 := ((i_x_1.cutLo (n := 0) (hp9 c10).1).cutHi (n := 23) (hp9 c10).2)
        refine lv_iload_n hx hb dX12_turn_35 rfl (lv_at hl 3 rfl) ?_
        refine iv_cSi X k_good k_mf_X12_isTower k_st_X12_isTower k_ml_X12_68 hB (As := [.int x_2]) (c_X12_isTower l D tys base G x_2 i_x_2) ⟨rfl, rfl⟩ ⟨Nat.le_of_ble_eq_true rfl, Nat.le_of_ble_eq_true rfl⟩ ⟨Nat.le_of_ble_eq_true rfl, Nat.le_of_ble_eq_true rfl⟩ rfl rfl hl.1 (Nat.le_of_ble_eq_true rfl) dX12_turn_36 (fun x14 G9 H locs hq hB => ?_)
        obtain ⟨rfl, i_x14, hp15⟩ := hq
        refine lv_if_eq (tgt := 55) hx hb dX12_turn_39 (by decide) (fun c16 => ?_) (fun c16 => ?_)
        · skip
          have i16_x14 : iv_R 0 0 x14 := (i_x14.cutHi (n := 0) (iv_eq_r c16 q_0).2)
          refine lv_iconst (v := (-1)) hx hb dX12_turn_55 (by decide) ?_
          exact iv_iret X hr hlocks hB ⟨hM, (q_n1.wk (by decide))⟩ dX12_turn_56
        · skip
          have i17_x14 : iv_R 1 1 x14 := iv_ne_lo c16 i_x14 q_0 (by decide)
          have i18_x_2 : iv_R 0 3 x_2 := ((i_x_2.cutLo (n := 0) (hp15 c16).1).cutHi (n := 3) (hp15 c16).2)
          refine lv_aload_n hx hb dX12_turn_42 rfl (lv_at hl 0 rfl) ?_
          refine iv_getr X ft_X12 hB a_h0 sh_12 0 (by decide) rfl k_fl_X12_7 dX12_turn_43 (fun b20 g_b20 r_b20 e_b20 a_b20 => ?_)
          refine lv_sipush (v := 152) hx hb dX12_turn_46 (by decide) ?_
          refine iv_wald_c X hB a_b20 q_152 (by decide) (lo := 0) (hi' := 12) (by decide) dX12_turn_49 (fun x21 e_x21 i_x21 => ?_)
          refine lv_bipush (v := 12) hx hb dX12_turn_50 (by decide) ?_
          refine lv_icmp_ne (tgt := 57) hx hb dX12_turn_52 (by decide) (fun c22 => ?_) (fun c22 => ?_)
          · skip
            have i22_x21 : iv_R 0 11 x21 := iv_ne_hi c22 i_x21 q_12 (by decide)
            refine lv_sipush (v := 153) hx hb dX12_turn_57 (by decide) ?_
            refine lv_iconst (v := 3) hx hb dX12_turn_60 (by decide) ?_
            refine lv_aload_n hx hb dX12_turn_61 rfl (lv_at hl 0 rfl) ?_
            refine iv_getr0 X ft_X12 hB a_h0 sh_12 0 (by decide) rfl k_fl_X12_7 dX12_turn_62 e_b20 ?_
            refine lv_sipush (v := 152) hx hb dX12_turn_65 (by decide) ?_
            refine iv_wald_c X hB a_b20 q_152 (by decide) (lo := 0) (hi' := 12) (by decide) dX12_turn_68 (fun x24 e_x24 k_x24 => ?_)
            obtain rfl : x21 = x24 := e_x21.trans e_x24.symm
            refine iv_imul hx hb q_3 i22_x21 (lo := 0) (hi := 33) (by decide) dX12_turn_69 (fun x25 e_x25 i_x25 => ?_)
            refine iv_iadd hx hb q_153 i_x25 (lo := 153) (hi := 186) (by decide) dX12_turn_70 (fun x26 e_x26 i_x26 => ?_)
            refine lv_istore (lv' := [(4, .int x26), (0, .ref h0), (1, .int x_0), (2, .int x_1), (3, .int x_2)]) hx hb dX12_turn_71 hl (by decide) rfl (fun ls hl => ?_)
            refine lv_aload_n hx hb dX12_turn_73 rfl (lv_at hl 1 rfl) ?_
            refine iv_getr0 X ft_X12 hB a_h0 sh_12 0 (by decide) rfl k_fl_X12_7 dX12_turn_74 e_b20 ?_
            refine lv_iload hx hb dX12_turn_77 (lv_at hl 0 rfl) ?_
            refine lv_iload_n hx hb dX12_turn_79 rfl (lv_at hl 2 rfl) ?_
            refine iv_wast_f X hB a_b20 i_x26 (by decide) dX12_turn_80 (fun H locs hB => ?_)
            have hm := iv_Md.put (x := x_0) a_b20 (j := x26.toNatClampNeg) (iv_n146 i_x26 (by decide)) (fun h => absurd h (by decide))
            have h9 := iv_up_eq (G := G) (a := b20) (k := (60, upd g_b20 x26.toNatClampNeg x_0, r_b20))
            generalize iv_up G b20 _ = G27 at hB hm h9
            have hM := hM.stp hm (by decide)
            generalize hgn_g28 : upd g_b20 _ _ = g28 at h9
            have a_h0 := hm.at a_h0 (by decide)
            have a_b20 := h9
            have e29 : x21 = g28 152 := by rw [← hgn_g28]; exact e_x21.trans (iv_updne (iv_neN i_x26 (by decide)))
            refine lv_aload_n hx hb dX12_turn_81 rfl (lv_at hl 1 rfl) ?_
            refine iv_getr0 X ft_X12 hB a_h0 sh_12 0 (by decide) rfl k_fl_X12_7 dX12_turn_82 e_b20 ?_
            refine lv_iload hx hb dX12_turn_85 (lv_at hl 0 rfl) ?_
            refine lv_iconst (v := 1) hx hb dX12_turn_87 (by decide) ?_
            refine iv_iadd hx hb i_x26 q_1 (lo := 154) (hi := 187) (by decide) dX12_turn_88 (fun x30 e_x30 i_x30 => ?_)
            refine lv_iload_n hx hb dX12_turn_89 rfl (lv_at hl 3 rfl) ?_
            refine iv_wast_f X hB a_b20 i_x30 (by decide) dX12_turn_90 (fun H locs hB => ?_)
            have hm := iv_Md.put (x := x_1) a_b20 (j := x30.toNatClampNeg) (iv_n146 i_x30 (by decide)) (fun h => absurd h (by decide))
            have h9 := iv_up_eq (G := G27) (a := b20) (k := (60, upd g28 x30.toNatClampNeg x_1, r_b20))
            generalize iv_up G27 b20 _ = G31 at hB hm h9
            have hM := hM.stp hm (by decide)
            generalize hgn_g32 : upd g28 _ _ = g32 at h9
            have a_h0 := hm.at a_h0 (by decide)
            have a_b20 := h9
            have e33 : x21 = g32 152 := by rw [← hgn_g32]; exact e29.trans (iv_updne (iv_neN i_x30 (by decide)))
            refine lv_aload_n hx hb dX12_turn_91 rfl (lv_at hl 1 rfl) ?_
            refine iv_getr0 X ft_X12 hB a_h0 sh_12 0 (by decide) rfl k_fl_X12_7 dX12_turn_92 e_b20 ?_
            refine lv_iload hx hb dX12_turn_95 (lv_at hl 0 rfl) ?_
            refine lv_iconst (v := 2) hx hb dX12_turn_97 (by decide) ?_
            refine iv_iadd hx hb i_x26 q_2 (lo := 155) (hi := 188) (by decide) dX12_turn_98 (fun x34 e_x34 i_x34 => ?_)
            refine lv_iload_n hx hb dX12_turn_99 rfl (lv_at hl 4 rfl) ?_
            refine iv_wast_f X hB a_b20 i_x34 (by decide) dX12_turn_100 (fun H locs hB => ?_)
            have hm := iv_Md.put (x := x_2) a_b20 (j := x34.toNatClampNeg) (iv_n146 i_x34 (by decide)) (fun h => absurd h (by decide))
            have h9 := iv_up_eq (G := G31) (a := b20) (k := (60, upd g32 x34.toNatClampNeg x_2, r_b20))
            generalize iv_up G31 b20 _ = G35 at hB hm h9
            have hM := hM.stp hm (by decide)
            generalize hgn_g36 : upd g32 _ _ = g36 at h9
            have a_h0 := hm.at a_h0 (by decide)
            have a_b20 := h9
            have e37 : x21 = g36 152 := by rw [← hgn_g36]; exact e33.trans (iv_updne (iv_neN i_x34 (by decide)))
            refine lv_aload_n hx hb dX12_turn_101 rfl (lv_at hl 1 rfl) ?_
            refine iv_getr0 X ft_X12 hB a_h0 sh_12 0 (by decide) rfl k_fl_X12_7 dX12_turn_102 e_b20 ?_
            refine lv_sipush (v := 152) hx hb dX12_turn_105 (by decide) ?_
            refine lv_dup2_11 hx hb dX12_turn_108 rfl rfl ?_
            refine iv_wald_c X hB a_b20 q_152 (by decide) (lo := 0) (hi' := 12) (by decide) dX12_turn_109 (fun x38 e_x38 k_x38 => ?_)
            obtain rfl : x21 = x38 := e37.trans e_x38.symm
            refine lv_iconst (v := 1) hx hb dX12_turn_110 (by decide) ?_
            refine iv_iadd hx hb i22_x21 q_1 (lo := 1) (hi := 12) (by decide) dX12_turn_111 (fun x39 e_x39 i_x39 => ?_)
            refine iv_wast_c X hB a_b20 q_152 (by decide) (lo := 0) (hi' := 12) (by decide) (i_x39.wk (by decide)) dX12_turn_112 (fun H locs hB => ?_)
            have hB : iv_B iv_sh D classes tys base (iv_up G35 b20 (60, upd g36 152 x39, r_b20)) s.heap H locs := hB
            have hm := iv_Md.put (x := x39) a_b20 (j := 152) (by decide) (fun h => absurd h (by decide))
            have h9 := iv_up_eq (G := G35) (a := b20) (k := (60, upd g36 152 x39, r_b20))
            generalize iv_up G35 b20 _ = G40 at hB hm h9
            have hM := hM.stp hm (by decide)
            generalize hgn_g41 : upd g36 _ _ = g41 at h9
            have a_h0 := hm.at a_h0 (by decide)
            have a_b20 := h9
            have e42 : x39 = g41 152 := by rw [← hgn_g41]; simp [upd]
            refine lv_aload_n hx hb dX12_turn_113 rfl (lv_at hl 1 rfl) ?_
            refine iv_cVv X k_good k_mf_X12_forgets k_im_X12_forgets k_sel_X12_forgets k_ml_X12_63 ft_X12 hB a_h0 sh_12 (As := []) (c_X12_forgets l D tys base G40 h0 g_h0 r_h0 a_h0) ⟨rfl, rfl⟩ ⟨Nat.le_of_ble_eq_true rfl, Nat.le_of_ble_eq_true rfl⟩ ⟨Nat.le_of_ble_eq_true rfl, Nat.le_of_ble_eq_true rfl⟩ rfl rfl hl.1 (Nat.le_of_ble_eq_true rfl) dX12_turn_114 (fun G9 H locs hq hB => ?_)
            have hm := hq
            obtain ⟨G43, hG9⟩ : ∃ g, g = G9 := ⟨_, rfl⟩
            rw [← hG9] at hm hB
            have hM := hM.stp hm (by decide)
            obtain ⟨g44, r45, a_h0, f_g44⟩ := hm.ex a_h0
            have e46 : b20 = r45 0 := e_b20.trans (f_g44.1 0 (fun h => absurd (show (12 : Nat) = 5 from h) (by decide))).symm
            have a_b20 := hm.at a_b20 (by decide)
            refine lv_aload_n hx hb dX12_turn_117 rfl (lv_at hl 1 rfl) ?_
            refine iv_getr0 X ft_X12 hB a_h0 sh_12 0 (by decide) rfl k_fl_X12_7 dX12_turn_118 e46 ?_
            refine lv_sipush (v := 152) hx hb dX12_turn_121 (by decide) ?_
            refine iv_wald_c X hB a_b20 q_152 (by decide) (lo := 0) (hi' := 12) (by decide) dX12_turn_124 (fun x47 e_x47 k_x47 => ?_)
            obtain rfl : x39 = x47 := e42.trans e_x47.symm
            exact iv_iret X hr hlocks hB ⟨hM, (i_x39.wk (by decide))⟩ dX12_turn_125
          · skip
            have i47_x21 : iv_R 12 12 x21 := (i_x21.cutLo (n := 12) (iv_eq_r c22 q_12).1)
            refine lv_iconst (v := (-1)) hx hb dX12_turn_55 (by decide) ?_
            exact iv_iret X hr hlocks hB ⟨hM, (q_n1.wk (by decide))⟩ dX12_turn_56
  · skip
    have i48_x_0 : iv_R (-1) (-1) x_0 := ((i_x_0.cutLo (n := (-1)) (iv_eq_r c1 q_n1).1).cutHi (n := (-1)) (iv_eq_r c1 q_n1).2)
    refine lv_aload_n hx hb dX12_turn_5 rfl (lv_at hl 0 rfl) ?_
    refine iv_getr X ft_X12 hB a_h0 sh_12 0 (by decide) rfl k_fl_X12_7 dX12_turn_6 (fun b50 g_b50 r_b50 e_b50 a_b50 => ?_)
    refine lv_sipush (v := 152) hx hb dX12_turn_9 (by decide) ?_
    refine lv_iconst (v := 0) hx hb dX12_turn_12 (by decide) ?_
    refine iv_wast_c X hB a_b50 q_152 (by decide) (lo := 0) (hi' := 12) (by decide) (q_0.wk (by decide)) dX12_turn_13 (fun H locs hB => ?_)
    have hB : iv_B iv_sh D classes tys base (iv_up G b50 (60, upd g_b50 152 0, r_b50)) s.heap H locs := hB
    have hm := iv_Md.put (x := 0) a_b50 (j := 152) (by decide) (fun h => absurd h (by decide))
    have h9 := iv_up_eq (G := G) (a := b50) (k := (60, upd g_b50 152 0, r_b50))
    generalize iv_up G b50 _ = G51 at hB hm h9
    have hM := hM.stp hm (by decide)
    generalize hgn_g52 : upd g_b50 _ _ = g52 at h9
    have a_h0 := hm.at a_h0 (by decide)
    have a_b50 := h9
    have e53 : 0 = g52 152 := by rw [← hgn_g52]; simp [upd]
    refine lv_aload_n hx hb dX12_turn_14 rfl (lv_at hl 0 rfl) ?_
    refine iv_cVv X k_good k_mf_X12_forgets k_im_X12_forgets k_sel_X12_forgets k_ml_X12_63 ft_X12 hB a_h0 sh_12 (As := []) (c_X12_forgets l D tys base G51 h0 g_h0 r_h0 a_h0) ⟨rfl, rfl⟩ ⟨Nat.le_of_ble_eq_true rfl, Nat.le_of_ble_eq_true rfl⟩ ⟨Nat.le_of_ble_eq_true rfl, Nat.le_of_ble_eq_true rfl⟩ rfl rfl hl.1 (Nat.le_of_ble_eq_true rfl) dX12_turn_15 (fun G9 H locs hq hB => ?_)
    have hm := hq
    obtain ⟨G54, hG9⟩ : ∃ g, g = G9 := ⟨_, rfl⟩
    rw [← hG9] at hm hB
    have hM := hM.stp hm (by decide)
    obtain ⟨g55, r56, a_h0, f_g55⟩ := hm.ex a_h0
    have e57 : b50 = r56 0 := e_b50.trans (f_g55.1 0 (fun h => absurd (show (12 : Nat) = 5 from h) (by decide))).symm
    have a_b50 := hm.at a_b50 (by decide)
    refine lv_iconst (v := 0) hx hb dX12_turn_18 (by decide) ?_
    exact iv_iret X hr hlocks hB ⟨hM, (q_0.wk (by decide))⟩ dX12_turn_19
theorem dX12_undo_0 : decode cX12_undo 0 = .ok (.aload_n 0, 1) := by decide +kernel
theorem dX12_undo_1 : decode cX12_undo 1 = .ok (.getfield 60, 3) := by decide +kernel
theorem dX12_undo_4 : decode cX12_undo 4 = .ok (.ifCond .ne 5, 3) := by decide +kernel
theorem dX12_undo_7 : decode cX12_undo 7 = .ok (.iconst 0, 1) := by decide +kernel
theorem dX12_undo_8 : decode cX12_undo 8 = .ok (.ireturn, 1) := by decide +kernel
theorem dX12_undo_9 : decode cX12_undo 9 = .ok (.aload_n 0, 1) := by decide +kernel
theorem dX12_undo_10 : decode cX12_undo 10 = .ok (.dup, 1) := by decide +kernel
theorem dX12_undo_11 : decode cX12_undo 11 = .ok (.getfield 60, 3) := by decide +kernel
theorem dX12_undo_14 : decode cX12_undo 14 = .ok (.iconst 1, 1) := by decide +kernel
theorem dX12_undo_15 : decode cX12_undo 15 = .ok (.isub, 1) := by decide +kernel
theorem dX12_undo_16 : decode cX12_undo 16 = .ok (.putfield 60, 3) := by decide +kernel
theorem dX12_undo_19 : decode cX12_undo 19 = .ok (.iconst 0, 1) := by decide +kernel
theorem dX12_undo_20 : decode cX12_undo 20 = .ok (.istore_n 1, 1) := by decide +kernel
theorem dX12_undo_21 : decode cX12_undo 21 = .ok (.iload_n 1, 1) := by decide +kernel
theorem dX12_undo_22 : decode cX12_undo 22 = .ok (.sipush 146, 3) := by decide +kernel
theorem dX12_undo_25 : decode cX12_undo 25 = .ok (.if_icmp .ge 30, 3) := by decide +kernel
theorem dX12_undo_28 : decode cX12_undo 28 = .ok (.aload_n 0, 1) := by decide +kernel
theorem dX12_undo_29 : decode cX12_undo 29 = .ok (.getfield 7, 3) := by decide +kernel
theorem dX12_undo_32 : decode cX12_undo 32 = .ok (.iload_n 1, 1) := by decide +kernel
theorem dX12_undo_33 : decode cX12_undo 33 = .ok (.aload_n 0, 1) := by decide +kernel
theorem dX12_undo_34 : decode cX12_undo 34 = .ok (.getfield 16, 3) := by decide +kernel
theorem dX12_undo_37 : decode cX12_undo 37 = .ok (.sipush 146, 3) := by decide +kernel
theorem dX12_undo_40 : decode cX12_undo 40 = .ok (.aload_n 0, 1) := by decide +kernel
theorem dX12_undo_41 : decode cX12_undo 41 = .ok (.getfield 60, 3) := by decide +kernel
theorem dX12_undo_44 : decode cX12_undo 44 = .ok (.imul, 1) := by decide +kernel
theorem dX12_undo_45 : decode cX12_undo 45 = .ok (.iload_n 1, 1) := by decide +kernel
theorem dX12_undo_46 : decode cX12_undo 46 = .ok (.iadd, 1) := by decide +kernel
theorem dX12_undo_47 : decode cX12_undo 47 = .ok (.iaload, 1) := by decide +kernel
theorem dX12_undo_48 : decode cX12_undo 48 = .ok (.iastore, 1) := by decide +kernel
theorem dX12_undo_49 : decode cX12_undo 49 = .ok (.iinc 1 1, 3) := by decide +kernel
theorem dX12_undo_52 : decode cX12_undo 52 = .ok (.goto (-31), 3) := by decide +kernel
theorem dX12_undo_55 : decode cX12_undo 55 = .ok (.iconst 1, 1) := by decide +kernel
theorem dX12_undo_56 : decode cX12_undo 56 = .ok (.ireturn, 1) := by decide +kernel
set_option maxHeartbeats 4000000 in
set_option maxRecDepth 100000 in
theorem c_X12_undo (l : Launch) (D : va_G) (tys : List (ClassId × FieldType)) (base : Nat) (G : iv_G) (h0 : Nat) (g_h0 : Nat → Int32) (r_h0 : Nat → Nat) (a_h0 : G h0 = some (12, g_h0, r_h0)) : Met l yX12_undo (Cond.code yX12_undo cX12_undo 2 (some .boolean) :: iv_W0) ({ frames := 0, cells := 0, slots := 0, locals := 0 }) (iv_Pc iv_sh D classes tys base G [.ref h0]) (iv_Qi iv_sh D classes tys base (fun v G' => iv_Md [12, 60] G G' ∧ iv_R 0 1 v)) 0 0 (iv_A base) := by
  refine iv_head (by decide) (Nat.le_of_ble_eq_true rfl) ?_
  intro p e s m args below meth c ls X hr hlocks hname hB hl
  have X := X
  have hx := X.1.1
  have hb := X.1.2.1
  have hM : iv_Md [12, 60] G G := iv_Md.rf
  have hl : lv_has ls 2 [(0, .ref h0)] := hl
  refine lv_aload_n hx hb dX12_undo_0 rfl (lv_at hl 0 rfl) ?_
  refine iv_geti X ft_X12 hB a_h0 sh_12 3 (by decide) rfl k_fl_X12_60 dX12_undo_1 (fun x1 e_x1 i_x1 => ?_)
  refine lv_if_ne (tgt := 9) hx hb dX12_undo_4 (by decide) (fun c2 => ?_) (fun c2 => ?_)
  · skip
    have i2_x1 : iv_R 1 6 x1 := iv_ne_lo c2 i_x1 q_0 (by decide)
    refine lv_aload_n hx hb dX12_undo_9 rfl (lv_at hl 0 rfl) ?_
    refine lv_dup hx hb dX12_undo_10 rfl ?_
    refine iv_geti0 X ft_X12 hB a_h0 sh_12 3 (by decide) rfl k_fl_X12_60 dX12_undo_11 e_x1 ?_
    refine lv_iconst (v := 1) hx hb dX12_undo_14 (by decide) ?_
    refine iv_isub hx hb i2_x1 q_1 (lo := 0) (hi := 5) (by decide) dX12_undo_15 (fun x4 e_x4 i_x4 => ?_)
    have e_x4 : x4.toInt = x1.toInt - 1 := e_x4
    refine iv_puti X ft_X12 hB a_h0 sh_12 3 (by decide) rfl rfl k_fl_X12_60 rfl (i_x4.wk (by decide)) rfl rfl dX12_undo_16 (fun H locs hB => ?_)
    have hm := iv_Md.put (x := x4) a_h0 (j := 3) (by decide) (by decide)
    have h9 := iv_up_eq (G := G) (a := h0) (k := (12, upd g_h0 3 x4, r_h0))
    generalize iv_up G h0 _ = G5 at hB hm h9
    have hM := hM.stp hm (by decide)
    generalize hgn_g6 : upd g_h0 _ _ = g6 at h9
    have a_h0 := h9
    have e9_g6 : x4 = g6 3 := by rw [← hgn_g6]; simp [upd]
    refine lv_iconst (v := 0) hx hb dX12_undo_19 (by decide) ?_
    refine lv_istore_n (lv' := [(1, .int 0), (0, .ref h0)]) hx hb dX12_undo_20 rfl hl (by decide) rfl (fun ls hl => ?_)
    have L_21 : ∀ (n_21 : Nat) (G10 : iv_G) (hM : iv_Md [12, 60] G G10) (H : Heap) (locs : List Loc) (hB : iv_B iv_sh D classes tys base G10 s.heap H locs) (g8 : Nat → Int32) (r9 : Nat → Nat) (a_h0 : G10 h0 = some (12, g8, r9)) (m_g8 : iv_R 0 5 (g8 3)) (x7 : Int32) (i_x7 : iv_R 0 255 x7) (hn_21 : (256 - x7.toInt).toNat < n_21) (ls : Array Slot) (hl : lv_has ls 2 [(1, .int x7), (0, .ref h0)]), W p l e ({ frames := 0, cells := 0, slots := 0, locals := 0 } : Room) s m args below meth c H locs 0 0 (MQ below (iv_Qi iv_sh D classes tys base (fun v G' => iv_Md [12, 60] G G' ∧ iv_R 0 1 v)) args s 0 0 (iv_A base)) (F0 m 21 ls []) := by
      intro n_21
      induction n_21 with
      | zero => intro G10 hM H locs hB g8 r9 a_h0 m_g8 x7 i_x7 hn_21 ls hl; exact absurd hn_21 (Nat.not_lt_zero _)
      | succ n_21 ih_21 =>
        intro G10 hM H locs hB g8 r9 a_h0 m_g8 x7 i_x7 hn_21 ls hl
        refine lv_iload_n hx hb dX12_undo_21 rfl (lv_at hl 0 rfl) ?_
        refine lv_sipush (v := 146) hx hb dX12_undo_22 (by decide) ?_
        refine lv_icmp_ge (tgt := 55) hx hb dX12_undo_25 (by decide) (fun c11 => ?_) (fun c11 => ?_)
        · skip
          have i11_x7 : iv_R 146 255 x7 := (i_x7.cutLo (n := 146) (iv_le_l c11 q_146))
          refine lv_iconst (v := 1) hx hb dX12_undo_55 (by decide) ?_
          exact iv_zret X hr hlocks hB (q_1.wk (by decide)) ⟨hM, (q_1.wk (by decide))⟩ dX12_undo_56
        · skip
          have i12_x7 : iv_R 0 145 x7 := (i_x7.cutHi (n := 145) (iv_lt_r (iv_nle c11) q_146 (by decide)))
          refine lv_aload_n hx hb dX12_undo_28 rfl (lv_at hl 1 rfl) ?_
          refine iv_getr X ft_X12 hB a_h0 sh_12 0 (by decide) rfl k_fl_X12_7 dX12_undo_29 (fun b14 g_b14 r_b14 e_b14 a_b14 => ?_)
          refine lv_iload_n hx hb dX12_undo_32 rfl (lv_at hl 0 rfl) ?_
          refine lv_aload_n hx hb dX12_undo_33 rfl (lv_at hl 1 rfl) ?_
          refine iv_getr X ft_X12 hB a_h0 sh_12 2 (by decide) rfl k_fl_X12_16 dX12_undo_34 (fun b15 g_b15 r_b15 e_b15 a_b15 => ?_)
          refine lv_sipush (v := 146) hx hb dX12_undo_37 (by decide) ?_
          refine lv_aload_n hx hb dX12_undo_40 rfl (lv_at hl 1 rfl) ?_
          refine iv_geti X ft_X12 hB a_h0 sh_12 3 (by decide) rfl k_fl_X12_60 dX12_undo_41 (fun x16 e_x16 i_x16 => ?_)
          have i16_x16 : iv_R 0 5 x16 := by rw [e_x16]; exact m_g8
          refine iv_imul hx hb q_146 i16_x16 (lo := 0) (hi := 730) (by decide) dX12_undo_44 (fun x18 e_x18 i_x18 => ?_)
          have e_x18 : x18.toInt = 146 * x16.toInt := e_x18
          refine lv_iload_n hx hb dX12_undo_45 rfl (lv_at hl 0 rfl) ?_
          refine iv_iadd hx hb i_x18 i12_x7 (lo := 0) (hi := 875) (by decide) dX12_undo_46 (fun x19 e_x19 i_x19 => ?_)
          refine iv_aldP X hB a_b15 sh_62 (iv_in i_x19 (by decide)) dX12_undo_47 (fun hP => ?_)
          refine lv_topi (fun x20 e_x20 => ?_)
          have i_x20 := iv_R.all x20
          have hb_x20 : iv_R (iv_wb (x19.toNatClampNeg % 146)).1 (iv_wb (x19.toNatClampNeg % 146)).2 x20 := by rw [e_x20]; exact hP _ (iv_inN (iv_in i_x19 (by decide)))
          refine iv_astP X hB a_b14 sh_60 (iv_in i12_x7 (by decide)) (fun h => iv_wP.up7 h i12_x7 (by decide) (by have q0 := i12_x7.1; have r0 := i12_x7.2; have q1 := i_x19.1; have r1 := i_x19.2; have q2 := i_x18.1; have r2 := i_x18.2; have q3 := i16_x16.1; have r3 := i16_x16.2; have q4 := i12_x7.1; have r4 := i12_x7.2; have w1 : x7.toNatClampNeg = x7.toInt.toNat := rfl; have w2 : x19.toNatClampNeg = x19.toInt.toNat := rfl; have w3 : x7.toNatClampNeg % 146 = x19.toNatClampNeg % 146 := (by omega); rw [w3]; exact hb_x20)) dX12_undo_48 (fun H locs hB => ?_)
          have hm := iv_Md.put (x := x20) a_b14 (j := x7.toNatClampNeg) (iv_n146 i12_x7 (by decide)) (fun h => absurd h (by decide))
          have h9 := iv_up_eq (G := G10) (a := b14) (k := (60, upd g_b14 x7.toNatClampNeg x20, r_b14))
          generalize iv_up G10 b14 _ = G21 at hB hm h9
          have hM := hM.stp hm (by decide)
          generalize hgn_g22 : upd g_b14 _ _ = g22 at h9
          have a_h0 := hm.at a_h0 (by decide)
          have a_b14 := h9
          refine iv_iinc hx hb i12_x7 (lo := 1) (hi := 146) (by decide) dX12_undo_49 hl (k := 0) rfl (by decide) (fun x23 ls e_x23 i_x23 hl => ?_)
          have hl : lv_has ls 2 [(1, .int x23), (0, .ref h0)] := hl
          refine lv_goto (tgt := 21) hx hb dX12_undo_52 (by decide) ?_
          exact ih_21 G21 hM _ _ hB g8 r9 a_h0 m_g8 x23 (i_x23.wk (by decide)) (iv_mup (c := 1) i_x7 (by decide) (by decide) (by omega) hn_21) _ (lv_sub hl [0, 1] rfl)
    exact L_21 _ G5 hM _ _ hB g6 r_h0 a_h0 (by rw [← e9_g6]; exact i_x4) 0 (q_0.wk (by decide)) (Nat.lt_succ_self _) _ (lv_sub hl [0, 1] rfl)
  · skip
    have i23_x1 : iv_R 0 0 x1 := (i_x1.cutHi (n := 0) (iv_eq_r c2 q_0).2)
    refine lv_iconst (v := 0) hx hb dX12_undo_7 (by decide) ?_
    exact iv_zret X hr hlocks hB (q_0.wk (by decide)) ⟨hM, (q_0.wk (by decide))⟩ dX12_undo_8
