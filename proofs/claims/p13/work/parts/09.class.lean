set_option maxHeartbeats 4000000 in
set_option maxRecDepth 100000 in
theorem c_X8_at_8 (l : Launch) (D : va_G) (tys : List (ClassId × FieldType)) (base : Nat) (G : iv_G) (h0 : Nat) (g_h0 : Nat → Int32) (r_h0 : Nat → Nat) (a_h0 : G h0 = some (8, g_h0, r_h0)) (x_0 : Int32) (i_x_0 : iv_R 0 19 x_0) (x_1 : Int32) (i_x_1 : iv_R 0 2 x_1) : Met l yX8_at (Cond.code yX8_at cX8_at 3 (some .int) :: iv_W0) ({ frames := 1, cells := 0, slots := 0, locals := 22 }) (iv_Pc iv_sh D classes tys base G [.ref h0, .int x_0, .int x_1]) (iv_Qi iv_sh D classes tys base (fun v G' => G = G' ∧ iv_R (-2147483648) 2147483647 v)) 0 0 (iv_A base) := by
  refine iv_head (by decide) (Nat.le_of_ble_eq_true rfl) ?_
  intro p e s m args below meth c ls X hr hlocks hname hB hl
  have X := X
  have hx := X.1.1
  have hb := X.1.2.1
  have hl : lv_has ls 3 [(0, .ref h0), (1, .int x_0), (2, .int x_1)] := hl
  refine lv_aload_n hx hb dX8_at_0 rfl (lv_at hl 0 rfl) ?_
  refine lv_iload_n hx hb dX8_at_1 rfl (lv_at hl 1 rfl) ?_
  refine iv_cVi X k_good k_mf_X8_has k_im_X8_has k_sel_X8_has k_ml_X8_22 ft_X8 hB a_h0 sh_8 (As := [.int x_0]) (c_X8_has_8 l D tys base G h0 g_h0 r_h0 a_h0 x_0 (i_x_0.wk (by decide))) ⟨rfl, rfl⟩ ⟨Nat.le_of_ble_eq_true rfl, Nat.le_of_ble_eq_true rfl⟩ ⟨Nat.le_of_ble_eq_true rfl, Nat.le_of_ble_eq_true rfl⟩ rfl rfl hl.1 (Nat.le_of_ble_eq_true rfl) dX8_at_2 (fun x1 G9 H locs hq hB => ?_)
  obtain ⟨rfl, i_x1, hp2⟩ := hq
  refine lv_if_eq (tgt := 38) hx hb dX8_at_5 (by decide) (fun c3 => ?_) (fun c3 => ?_)
  · skip
    have i3_x1 : iv_R 0 0 x1 := (i_x1.cutHi (n := 0) (iv_eq_r c3 q_0).2)
    refine lv_iconst (v := (-1)) hx hb dX8_at_38 (by decide) ?_
    exact iv_iret X hr hlocks hB ⟨rfl, (q_n1.wk (by decide))⟩ dX8_at_39
  · skip
    have i4_x1 : iv_R 1 1 x1 := iv_ne_lo c3 i_x1 q_0 (by decide)
    refine lv_iload_n hx hb dX8_at_8 rfl (lv_at hl 2 rfl) ?_
    refine lv_iconst (v := 0) hx hb dX8_at_9 (by decide) ?_
    refine lv_aload_n hx hb dX8_at_10 rfl (lv_at hl 0 rfl) ?_
    refine iv_geti X ft_X8 hB a_h0 sh_8 0 (by decide) rfl k_fl_X8_9 dX8_at_11 (fun x6 e_x6 i_x6 => ?_)
    refine lv_iconst (v := 1) hx hb dX8_at_14 (by decide) ?_
    refine iv_isub hx hb i_x6 q_1 (lo := 2) (hi := 2) (by decide) dX8_at_15 (fun x7 e_x7 i_x7 => ?_)
    refine iv_cSNi X k_good k_mf_X11_isWithin k_st_X11_isWithin (k_mn_X8_26 X.2.2) hB (As := [.int x_1, .int 0, .int x7]) (c_X11_isWithin l D tys base G x_1 (i_x_1.wk (by decide)) 0 (q_0.wk (by decide)) x7 (i_x7.wk (by decide))) ⟨rfl, rfl⟩ ⟨Nat.le_of_ble_eq_true rfl, Nat.le_of_ble_eq_true rfl⟩ ⟨Nat.le_of_ble_eq_true rfl, Nat.le_of_ble_eq_true rfl⟩ rfl rfl hl.1 (Nat.le_of_ble_eq_true rfl) dX8_at_16 (fun x8 G9 H locs hq hB => ?_)
    obtain ⟨rfl, i_x8, hp9⟩ := hq
    have k10 : ¬ x8 = 0 → iv_R 0 2 x_1 := fun h => ⟨iv_max i_x_1.1 (Int.le_trans q_0.1 (hp9.1 h).1) (by decide), iv_min i_x_1.2 (Int.le_trans (hp9.1 h).2 i_x7.2) (by decide)⟩
    refine lv_if_eq (tgt := 38) hx hb dX8_at_19 (by decide) (fun c11 => ?_) (fun c11 => ?_)
    · skip
      have i11_x8 : iv_R 0 0 x8 := (i_x8.cutHi (n := 0) (iv_eq_r c11 q_0).2)
      refine lv_iconst (v := (-1)) hx hb dX8_at_38 (by decide) ?_
      exact iv_iret X hr hlocks hB ⟨rfl, (q_n1.wk (by decide))⟩ dX8_at_39
    · skip
      have i12_x8 : iv_R 1 1 x8 := iv_ne_lo c11 i_x8 q_0 (by decide)
      refine lv_aload_n hx hb dX8_at_22 rfl (lv_at hl 0 rfl) ?_
      refine iv_getr X ft_X8 hB a_h0 sh_8 1 (by decide) rfl k_fl_X8_15 dX8_at_23 (fun b14 g_b14 r_b14 e_b14 a_b14 => ?_)
      refine lv_iload_n hx hb dX8_at_26 rfl (lv_at hl 1 rfl) ?_
      refine lv_aload_n hx hb dX8_at_27 rfl (lv_at hl 0 rfl) ?_
      refine iv_geti0 X ft_X8 hB a_h0 sh_8 0 (by decide) rfl k_fl_X8_9 dX8_at_28 e_x6 ?_
      refine iv_imul hx hb i_x_0 i_x6 (lo := 0) (hi := 57) (by decide) dX8_at_31 (fun x15 e_x15 i_x15 => ?_)
      refine lv_iload_n hx hb dX8_at_32 rfl (lv_at hl 2 rfl) ?_
      refine iv_iadd hx hb i_x15 i_x_1 (lo := 0) (hi := 59) (by decide) dX8_at_33 (fun x16 e_x16 i_x16 => ?_)
      refine iv_ald X hB a_b14 sh_22 (iv_in i_x16 (by decide)) dX8_at_34 (fun x17 e_x17 i_x17 => ?_)
      refine lv_goto (tgt := 39) hx hb dX8_at_35 (by decide) ?_
      exact iv_iret X hr hlocks hB ⟨rfl, i_x17⟩ dX8_at_39
theorem dX11_child_0 : decode cX11_child 0 = .ok (.aload_n 0, 1) := by decide +kernel
theorem dX11_child_1 : decode cX11_child 1 = .ok (.getfield 12, 3) := by decide +kernel
theorem dX11_child_4 : decode cX11_child 4 = .ok (.getfield 152, 3) := by decide +kernel
theorem dX11_child_7 : decode cX11_child 7 = .ok (.iload_n 1, 1) := by decide +kernel
theorem dX11_child_8 : decode cX11_child 8 = .ok (.invokevirtual 155, 3) := by decide +kernel
theorem dX11_child_11 : decode cX11_child 11 = .ok (.ifCond .eq 27, 3) := by decide +kernel
theorem dX11_child_14 : decode cX11_child 14 = .ok (.iload_n 2, 1) := by decide +kernel
theorem dX11_child_15 : decode cX11_child 15 = .ok (.iconst 0, 1) := by decide +kernel
theorem dX11_child_16 : decode cX11_child 16 = .ok (.iconst 2, 1) := by decide +kernel
theorem dX11_child_17 : decode cX11_child 17 = .ok (.invokestatic 83, 3) := by decide +kernel
theorem dX11_child_20 : decode cX11_child 20 = .ok (.ifCond .eq 18, 3) := by decide +kernel
theorem dX11_child_23 : decode cX11_child 23 = .ok (.aload_n 0, 1) := by decide +kernel
theorem dX11_child_24 : decode cX11_child 24 = .ok (.getfield 12, 3) := by decide +kernel
theorem dX11_child_27 : decode cX11_child 27 = .ok (.getfield 152, 3) := by decide +kernel
theorem dX11_child_30 : decode cX11_child 30 = .ok (.iload_n 1, 1) := by decide +kernel
theorem dX11_child_31 : decode cX11_child 31 = .ok (.iload_n 2, 1) := by decide +kernel
theorem dX11_child_32 : decode cX11_child 32 = .ok (.invokevirtual 158, 3) := by decide +kernel
theorem dX11_child_35 : decode cX11_child 35 = .ok (.goto 4, 3) := by decide +kernel
theorem dX11_child_38 : decode cX11_child 38 = .ok (.iconst (-1), 1) := by decide +kernel
theorem dX11_child_39 : decode cX11_child 39 = .ok (.ireturn, 1) := by decide +kernel
set_option maxHeartbeats 4000000 in
set_option maxRecDepth 100000 in
theorem c_X11_child (l : Launch) (D : va_G) (tys : List (ClassId × FieldType)) (base : Nat) (G : iv_G) (h0 : Nat) (g_h0 : Nat → Int32) (r_h0 : Nat → Nat) (a_h0 : G h0 = some (11, g_h0, r_h0)) (x_0 : Int32) (i_x_0 : iv_R (-2147483648) 2147483647 x_0) (x_1 : Int32) (i_x_1 : iv_R (-2147483648) 2147483647 x_1) : Met l yX11_child (Cond.code yX11_child cX11_child 3 (some .int) :: iv_W0) ({ frames := 2, cells := 0, slots := 0, locals := 44 }) (iv_Pc iv_sh D classes tys base G [.ref h0, .int x_0, .int x_1]) (iv_Qi iv_sh D classes tys base (fun v G' => G = G' ∧ iv_R (-2147483648) 2147483647 v)) 0 0 (iv_A base) := by
  refine iv_head (by decide) (Nat.le_of_ble_eq_true rfl) ?_
  intro p e s m args below meth c ls X hr hlocks hname hB hl
  have X := X
  have hx := X.1.1
  have hb := X.1.2.1
  have hl : lv_has ls 3 [(0, .ref h0), (1, .int x_0), (2, .int x_1)] := hl
  refine lv_aload_n hx hb dX11_child_0 rfl (lv_at hl 0 rfl) ?_
  refine iv_getr X ft_X11 hB a_h0 sh_11 0 (by decide) rfl k_fl_X11_12 dX11_child_1 (fun b1 g_b1 r_b1 e_b1 a_b1 => ?_)
  refine iv_getr X ft_X5 hB a_b1 sh_5 8 (by decide) rfl k_fl_X11_152 dX11_child_4 (fun b2 g_b2 r_b2 e_b2 a_b2 => ?_)
  refine lv_iload_n hx hb dX11_child_7 rfl (lv_at hl 1 rfl) ?_
  refine iv_cVi X k_good k_mf_X8_has k_im_X8_has k_sel_X8_has k_ml_X11_155 ft_X8 hB a_b2 sh_8 (As := [.int x_0]) (c_X8_has_8 l D tys base G b2 g_b2 r_b2 a_b2 x_0 i_x_0) ⟨rfl, rfl⟩ ⟨Nat.le_of_ble_eq_true rfl, Nat.le_of_ble_eq_true rfl⟩ ⟨Nat.le_of_ble_eq_true rfl, Nat.le_of_ble_eq_true rfl⟩ rfl rfl hl.1 (Nat.le_of_ble_eq_true rfl) dX11_child_8 (fun x3 G9 H locs hq hB => ?_)
  obtain ⟨rfl, i_x3, hp4⟩ := hq
  refine lv_if_eq (tgt := 38) hx hb dX11_child_11 (by decide) (fun c5 => ?_) (fun c5 => ?_)
  · skip
    have i5_x3 : iv_R 0 0 x3 := (i_x3.cutHi (n := 0) (iv_eq_r c5 q_0).2)
    refine lv_iconst (v := (-1)) hx hb dX11_child_38 (by decide) ?_
    exact iv_iret X hr hlocks hB ⟨rfl, (q_n1.wk (by decide))⟩ dX11_child_39
  · skip
    have i6_x3 : iv_R 1 1 x3 := iv_ne_lo c5 i_x3 q_0 (by decide)
    have i7_x_0 : iv_R 0 19 x_0 := ((i_x_0.cutLo (n := 0) (hp4 c5).1).cutHi (n := 19) (hp4 c5).2)
    refine lv_iload_n hx hb dX11_child_14 rfl (lv_at hl 2 rfl) ?_
    refine lv_iconst (v := 0) hx hb dX11_child_15 (by decide) ?_
    refine lv_iconst (v := 2) hx hb dX11_child_16 (by decide) ?_
    refine iv_cSi X k_good k_mf_X11_isWithin k_st_X11_isWithin k_ml_X11_83 hB (As := [.int x_1, .int 0, .int 2]) (c_X11_isWithin l D tys base G x_1 i_x_1 0 (q_0.wk (by decide)) 2 (q_2.wk (by decide))) ⟨rfl, rfl⟩ ⟨Nat.le_of_ble_eq_true rfl, Nat.le_of_ble_eq_true rfl⟩ ⟨Nat.le_of_ble_eq_true rfl, Nat.le_of_ble_eq_true rfl⟩ rfl rfl hl.1 (Nat.le_of_ble_eq_true rfl) dX11_child_17 (fun x9 G9 H locs hq hB => ?_)
    obtain ⟨rfl, i_x9, hp10⟩ := hq
    have k11 : ¬ x9 = 0 → iv_R 0 2 x_1 := fun h => ⟨iv_max i_x_1.1 (Int.le_trans q_0.1 (hp10.1 h).1) (by decide), iv_min i_x_1.2 (Int.le_trans (hp10.1 h).2 q_2.2) (by decide)⟩
    refine lv_if_eq (tgt := 38) hx hb dX11_child_20 (by decide) (fun c12 => ?_) (fun c12 => ?_)
    · skip
      have i12_x9 : iv_R 0 0 x9 := (i_x9.cutHi (n := 0) (iv_eq_r c12 q_0).2)
      refine lv_iconst (v := (-1)) hx hb dX11_child_38 (by decide) ?_
      exact iv_iret X hr hlocks hB ⟨rfl, (q_n1.wk (by decide))⟩ dX11_child_39
    · skip
      have i13_x9 : iv_R 1 1 x9 := iv_ne_lo c12 i_x9 q_0 (by decide)
      have i14_x_1 : iv_R 0 2 x_1 := ((i_x_1.cutLo (n := 0) (k11 c12).1).cutHi (n := 2) (k11 c12).2)
      refine lv_aload_n hx hb dX11_child_23 rfl (lv_at hl 0 rfl) ?_
      refine iv_getr0 X ft_X11 hB a_h0 sh_11 0 (by decide) rfl k_fl_X11_12 dX11_child_24 e_b1 ?_
      refine iv_getr0 X ft_X5 hB a_b1 sh_5 8 (by decide) rfl k_fl_X11_152 dX11_child_27 e_b2 ?_
      refine lv_iload_n hx hb dX11_child_30 rfl (lv_at hl 1 rfl) ?_
      refine lv_iload_n hx hb dX11_child_31 rfl (lv_at hl 2 rfl) ?_
      refine iv_cVi X k_good k_mf_X8_at k_im_X8_at k_sel_X8_at k_ml_X11_158 ft_X8 hB a_b2 sh_8 (As := [.int x_0, .int x_1]) (c_X8_at_8 l D tys base G b2 g_b2 r_b2 a_b2 x_0 i7_x_0 x_1 i14_x_1) ⟨rfl, rfl⟩ ⟨Nat.le_of_ble_eq_true rfl, Nat.le_of_ble_eq_true rfl⟩ ⟨Nat.le_of_ble_eq_true rfl, Nat.le_of_ble_eq_true rfl⟩ rfl rfl hl.1 (Nat.le_of_ble_eq_true rfl) dX11_child_32 (fun x16 G9 H locs hq hB => ?_)
      obtain ⟨rfl, i_x16⟩ := hq
      refine lv_goto (tgt := 39) hx hb dX11_child_35 (by decide) ?_
      exact iv_iret X hr hlocks hB ⟨rfl, i_x16⟩ dX11_child_39
theorem dX11_chosen_0 : decode cX11_chosen 0 = .ok (.iload_n 0, 1) := by decide +kernel
theorem dX11_chosen_1 : decode cX11_chosen 1 = .ok (.lookupswitch 31 #[(0, 27), (1, 29)], 27) := by decide +kernel
theorem dX11_chosen_28 : decode cX11_chosen 28 = .ok (.iload_n 1, 1) := by decide +kernel
theorem dX11_chosen_29 : decode cX11_chosen 29 = .ok (.ireturn, 1) := by decide +kernel
theorem dX11_chosen_30 : decode cX11_chosen 30 = .ok (.iload_n 2, 1) := by decide +kernel
theorem dX11_chosen_31 : decode cX11_chosen 31 = .ok (.ireturn, 1) := by decide +kernel
theorem dX11_chosen_32 : decode cX11_chosen 32 = .ok (.iconst (-1), 1) := by decide +kernel
theorem dX11_chosen_33 : decode cX11_chosen 33 = .ok (.ireturn, 1) := by decide +kernel
set_option maxHeartbeats 4000000 in
set_option maxRecDepth 100000 in
theorem c_X11_chosen (l : Launch) (D : va_G) (tys : List (ClassId × FieldType)) (base : Nat) (G : iv_G) (x_0 : Int32) (i_x_0 : iv_R (-2147483648) 2147483647 x_0) (x_1 : Int32) (i_x_1 : iv_R (-2147483648) 2147483647 x_1) (x_2 : Int32) (i_x_2 : iv_R (-1) 2147483647 x_2) : Met l yX11_chosen (Cond.code yX11_chosen cX11_chosen 3 (some .int) :: iv_W0) ({ frames := 0, cells := 0, slots := 0, locals := 0 }) (iv_Pc iv_sh D classes tys base G [.int x_0, .int x_1, .int x_2]) (iv_Qi iv_sh D classes tys base (fun v G' => G = G' ∧ iv_R (-2147483648) 2147483647 v)) 0 0 (iv_A base) := by
  refine iv_head (by decide) (Nat.le_of_ble_eq_true rfl) ?_
  intro p e s m args below meth c ls X hr hlocks hname hB hl
  have X := X
  have hx := X.1.1
  have hb := X.1.2.1
  have hl : lv_has ls 3 [(0, .int x_0), (1, .int x_1), (2, .int x_2)] := hl
  refine lv_iload_n hx hb dX11_chosen_0 rfl (lv_at hl 0 rfl) ?_
  by_cases w1 : x_0.toInt = 0
  · skip
    refine lv_lookup (off := 27) (tgt := 28) hx hb dX11_chosen_1 (by decide) (by rw [w1]; (try rfl)) (by decide) ?_
    have w1i : iv_R 0 0 x_0 := iv_lit w1
    refine lv_iload_n hx hb dX11_chosen_28 rfl (lv_at hl 1 rfl) ?_
    exact iv_iret X hr hlocks hB ⟨rfl, i_x_1⟩ dX11_chosen_29
  skip
  by_cases w2 : x_0.toInt = 1
  · skip
    refine lv_lookup (off := 29) (tgt := 30) hx hb dX11_chosen_1 (by decide) (by rw [w2]; (try rfl)) (by decide) ?_
    have w2i : iv_R 1 1 x_0 := iv_lit w2
    refine lv_iload_n hx hb dX11_chosen_30 rfl (lv_at hl 2 rfl) ?_
    exact iv_iret X hr hlocks hB ⟨rfl, (i_x_2.wk (by decide))⟩ dX11_chosen_31
  skip
  refine lv_lookup (off := 31) (tgt := 32) hx hb dX11_chosen_1 (by decide) (by simp [Op.lookupswitch.offset, List.find?, w1, Ne.symm w1, w2, Ne.symm w2]) (by decide) ?_
  refine lv_iconst (v := (-1)) hx hb dX11_chosen_32 (by decide) ?_
  exact iv_iret X hr hlocks hB ⟨rfl, (q_n1.wk (by decide))⟩ dX11_chosen_33
theorem dX2_heardBells_0 : decode cX2_heardBells 0 = .ok (.iconst 0, 1) := by decide +kernel
theorem dX2_heardBells_1 : decode cX2_heardBells 1 = .ok (.istore 4, 2) := by decide +kernel
theorem dX2_heardBells_3 : decode cX2_heardBells 3 = .ok (.iconst 0, 1) := by decide +kernel
theorem dX2_heardBells_4 : decode cX2_heardBells 4 = .ok (.istore 5, 2) := by decide +kernel
theorem dX2_heardBells_6 : decode cX2_heardBells 6 = .ok (.iload 5, 2) := by decide +kernel
theorem dX2_heardBells_8 : decode cX2_heardBells 8 = .ok (.aload_n 0, 1) := by decide +kernel
theorem dX2_heardBells_9 : decode cX2_heardBells 9 = .ok (.getfield 15, 3) := by decide +kernel
theorem dX2_heardBells_12 : decode cX2_heardBells 12 = .ok (.getfield 85, 3) := by decide +kernel
theorem dX2_heardBells_15 : decode cX2_heardBells 15 = .ok (.if_icmp .ge 43, 3) := by decide +kernel
theorem dX2_heardBells_18 : decode cX2_heardBells 18 = .ok (.aload_n 0, 1) := by decide +kernel
theorem dX2_heardBells_19 : decode cX2_heardBells 19 = .ok (.getfield 15, 3) := by decide +kernel
theorem dX2_heardBells_22 : decode cX2_heardBells 22 = .ok (.iload 5, 2) := by decide +kernel
theorem dX2_heardBells_24 : decode cX2_heardBells 24 = .ok (.iload_n 2, 1) := by decide +kernel
theorem dX2_heardBells_25 : decode cX2_heardBells 25 = .ok (.invokevirtual 100, 3) := by decide +kernel
theorem dX2_heardBells_28 : decode cX2_heardBells 28 = .ok (.ifCond .eq 24, 3) := by decide +kernel
theorem dX2_heardBells_31 : decode cX2_heardBells 31 = .ok (.aload_n 0, 1) := by decide +kernel
theorem dX2_heardBells_32 : decode cX2_heardBells 32 = .ok (.iload 5, 2) := by decide +kernel
theorem dX2_heardBells_34 : decode cX2_heardBells 34 = .ok (.iload_n 1, 1) := by decide +kernel
theorem dX2_heardBells_35 : decode cX2_heardBells 35 = .ok (.iload_n 2, 1) := by decide +kernel
theorem dX2_heardBells_36 : decode cX2_heardBells 36 = .ok (.invokevirtual 103, 3) := by decide +kernel
theorem dX2_heardBells_39 : decode cX2_heardBells 39 = .ok (.iload_n 3, 1) := by decide +kernel
theorem dX2_heardBells_40 : decode cX2_heardBells 40 = .ok (.if_icmp .lt 12, 3) := by decide +kernel
theorem dX2_heardBells_43 : decode cX2_heardBells 43 = .ok (.iload 4, 2) := by decide +kernel
theorem dX2_heardBells_45 : decode cX2_heardBells 45 = .ok (.iconst 1, 1) := by decide +kernel
theorem dX2_heardBells_46 : decode cX2_heardBells 46 = .ok (.iload 5, 2) := by decide +kernel
theorem dX2_heardBells_48 : decode cX2_heardBells 48 = .ok (.ishl, 1) := by decide +kernel
theorem dX2_heardBells_49 : decode cX2_heardBells 49 = .ok (.ior, 1) := by decide +kernel
theorem dX2_heardBells_50 : decode cX2_heardBells 50 = .ok (.istore 4, 2) := by decide +kernel
theorem dX2_heardBells_52 : decode cX2_heardBells 52 = .ok (.iinc 5 1, 3) := by decide +kernel
theorem dX2_heardBells_55 : decode cX2_heardBells 55 = .ok (.goto (-49), 3) := by decide +kernel
theorem dX2_heardBells_58 : decode cX2_heardBells 58 = .ok (.iload 4, 2) := by decide +kernel
theorem dX2_heardBells_60 : decode cX2_heardBells 60 = .ok (.ireturn, 1) := by decide +kernel
set_option maxHeartbeats 4000000 in
set_option maxRecDepth 100000 in
theorem c_X2_heardBells (l : Launch) (D : va_G) (tys : List (ClassId × FieldType)) (base : Nat) (G : iv_G) (h0 : Nat) (g_h0 : Nat → Int32) (r_h0 : Nat → Nat) (a_h0 : G h0 = some (2, g_h0, r_h0)) (x_0 : Int32) (i_x_0 : iv_R 0 3 x_0) (x_1 : Int32) (i_x_1 : iv_R 0 23 x_1) (x_2 : Int32) (i_x_2 : iv_R 1 999 x_2) : Met l yX2_heardBells (Cond.code yX2_heardBells cX2_heardBells 6 (some .int) :: iv_W0) ({ frames := 4, cells := 0, slots := 0, locals := 100 }) (iv_Pc iv_sh D classes tys base G [.ref h0, .int x_0, .int x_1, .int x_2]) (iv_Qi iv_sh D classes tys base (fun v G' => iv_Md [28, 30] G G' ∧ iv_R 0 2047 v)) 0 0 (iv_A base) := by
  refine iv_head (by decide) (Nat.le_of_ble_eq_true rfl) ?_
  intro p e s m args below meth c ls X hr hlocks hname hB hl
  have X := X
  have hx := X.1.1
  have hb := X.1.2.1
  have hM : iv_Md [28, 30] G G := iv_Md.rf
  have hl : lv_has ls 6 [(0, .ref h0), (1, .int x_0), (2, .int x_1), (3, .int x_2)] := hl
  refine lv_iconst (v := 0) hx hb dX2_heardBells_0 (by decide) ?_
  refine lv_istore (lv' := [(4, .int 0), (0, .ref h0), (1, .int x_0), (2, .int x_1), (3, .int x_2)]) hx hb dX2_heardBells_1 hl (by decide) rfl (fun ls hl => ?_)
  refine lv_iconst (v := 0) hx hb dX2_heardBells_3 (by decide) ?_
  refine lv_istore (lv' := [(5, .int 0), (4, .int 0), (0, .ref h0), (1, .int x_0), (2, .int x_1), (3, .int x_2)]) hx hb dX2_heardBells_4 hl (by decide) rfl (fun ls hl => ?_)
  have L_6 : ∀ (n_6 : Nat) (G3 : iv_G) (hM : iv_Md [28, 30] G G3) (H : Heap) (locs : List Loc) (hB : iv_B iv_sh D classes tys base G3 s.heap H locs) (a_h0 : G3 h0 = some (2, g_h0, r_h0)) (x1 : Int32) (i_x1 : iv_R 0 2047 x1) (x2 : Int32) (i_x2 : iv_R 0 10 x2) (hn_6 : (11 - x2.toInt).toNat < n_6) (ls : Array Slot) (hl : lv_has ls 6 [(5, .int x2), (4, .int x1), (0, .ref h0), (1, .int x_0), (2, .int x_1), (3, .int x_2)]), W p l e ({ frames := 4, cells := 0, slots := 0, locals := 100 } : Room) s m args below meth c H locs 0 0 (MQ below (iv_Qi iv_sh D classes tys base (fun v G' => iv_Md [28, 30] G G' ∧ iv_R 0 2047 v)) args s 0 0 (iv_A base)) (F0 m 6 ls []) := by
    intro n_6
    induction n_6 with
    | zero => intro G3 hM H locs hB a_h0 x1 i_x1 x2 i_x2 hn_6 ls hl; exact absurd hn_6 (Nat.not_lt_zero _)
    | succ n_6 ih_6 =>
      intro G3 hM H locs hB a_h0 x1 i_x1 x2 i_x2 hn_6 ls hl
      refine lv_iload hx hb dX2_heardBells_6 (lv_at hl 0 rfl) ?_
      refine lv_aload_n hx hb dX2_heardBells_8 rfl (lv_at hl 2 rfl) ?_
      refine iv_getr X ft_X2 hB a_h0 sh_2 0 (by decide) rfl k_fl_X2_15 dX2_heardBells_9 (fun b4 g_b4 r_b4 e_b4 a_b4 => ?_)
      refine iv_geti X ft_X5 hB a_b4 sh_5 1 (by decide) rfl k_fl_X2_85 dX2_heardBells_12 (fun x5 e_x5 i_x5 => ?_)
      refine lv_icmp_ge (tgt := 58) hx hb dX2_heardBells_15 (by decide) (fun c6 => ?_) (fun c6 => ?_)
      · skip
        refine lv_iload hx hb dX2_heardBells_58 (lv_at hl 1 rfl) ?_
        exact iv_iret X hr hlocks hB ⟨hM, i_x1⟩ dX2_heardBells_60
      · skip
        have i6_x2 : iv_R 0 9 x2 := (i_x2.cutHi (n := 9) (iv_lt_r (iv_nle c6) i_x5 (by decide)))
        have i7_x5 : iv_R 1 10 x5 := (i_x5.cutLo (n := 1) (iv_lt_l (iv_nle c6) i_x2 (by decide)))
        refine lv_aload_n hx hb dX2_heardBells_18 rfl (lv_at hl 2 rfl) ?_
        refine iv_getr0 X ft_X2 hB a_h0 sh_2 0 (by decide) rfl k_fl_X2_15 dX2_heardBells_19 e_b4 ?_
        refine lv_iload hx hb dX2_heardBells_22 (lv_at hl 0 rfl) ?_
        refine lv_iload_n hx hb dX2_heardBells_24 rfl (lv_at hl 4 rfl) ?_
        refine iv_cVi X k_good k_mf_X5_soundsAt k_im_X5_soundsAt k_sel_X5_soundsAt k_ml_X2_100 ft_X5 hB a_b4 sh_5 (As := [.int x2, .int x_1]) (c_X5_soundsAt l D tys base G3 b4 g_b4 r_b4 a_b4 x2 i6_x2 x_1 i_x_1) ⟨rfl, rfl⟩ ⟨Nat.le_of_ble_eq_true rfl, Nat.le_of_ble_eq_true rfl⟩ ⟨Nat.le_of_ble_eq_true rfl, Nat.le_of_ble_eq_true rfl⟩ rfl rfl hl.1 (Nat.le_of_ble_eq_true rfl) dX2_heardBells_25 (fun x9 G9 H locs hq hB => ?_)
        obtain ⟨rfl, i_x9⟩ := hq
        refine lv_if_eq (tgt := 52) hx hb dX2_heardBells_28 (by decide) (fun c10 => ?_) (fun c10 => ?_)
        · skip
          have i10_x9 : iv_R 0 0 x9 := (i_x9.cutHi (n := 0) (iv_eq_r c10 q_0).2)
          refine iv_iinc hx hb i6_x2 (lo := 1) (hi := 10) (by decide) dX2_heardBells_52 hl (k := 0) rfl (by decide) (fun x12 ls e_x12 i_x12 hl => ?_)
          have hl : lv_has ls 6 [(5, .int x12), (4, .int x1), (0, .ref h0), (1, .int x_0), (2, .int x_1), (3, .int x_2)] := hl
          refine lv_goto (tgt := 6) hx hb dX2_heardBells_55 (by decide) ?_
          exact ih_6 G3 hM _ _ hB a_h0 x1 i_x1 x12 (i_x12.wk (by decide)) (iv_mup (c := 1) i_x2 (by decide) (by decide) (by omega) hn_6) _ (lv_sub hl [0, 1, 2, 3, 4, 5] rfl)
        · skip
          have i12_x9 : iv_R 1 1 x9 := iv_ne_lo c10 i_x9 q_0 (by decide)
          refine lv_aload_n hx hb dX2_heardBells_31 rfl (lv_at hl 2 rfl) ?_
          refine lv_iload hx hb dX2_heardBells_32 (lv_at hl 0 rfl) ?_
          refine lv_iload_n hx hb dX2_heardBells_34 rfl (lv_at hl 3 rfl) ?_
          refine lv_iload_n hx hb dX2_heardBells_35 rfl (lv_at hl 4 rfl) ?_
          refine iv_cVi X k_good k_mf_X2_loudAt k_im_X2_loudAt k_sel_X2_loudAt k_ml_X2_103 ft_X2 hB a_h0 sh_2 (As := [.int x2, .int x_0, .int x_1]) (c_X2_loudAt l D tys base G3 h0 g_h0 r_h0 a_h0 x2 i6_x2 x_0 (i_x_0.wk (by decide)) x_1 i_x_1) ⟨rfl, rfl⟩ ⟨Nat.le_of_ble_eq_true rfl, Nat.le_of_ble_eq_true rfl⟩ ⟨Nat.le_of_ble_eq_true rfl, Nat.le_of_ble_eq_true rfl⟩ rfl rfl hl.1 (Nat.le_of_ble_eq_true rfl) dX2_heardBells_36 (fun x14 G9 H locs hq hB => ?_)
          obtain ⟨hm, i_x14⟩ := hq
          obtain ⟨G15, hG9⟩ : ∃ g, g = G9 := ⟨_, rfl⟩
          rw [← hG9] at hm hB
          have hM := hM.stp hm (by decide)
          have a_h0 := hm.at a_h0 (by decide)
          refine lv_iload_n hx hb dX2_heardBells_39 rfl (lv_at hl 5 rfl) ?_
          refine lv_icmp_lt (tgt := 52) hx hb dX2_heardBells_40 (by decide) (fun c16 => ?_) (fun c16 => ?_)
          · skip
            have i16_x14 : iv_R 0 998 x14 := (i_x14.cutHi (n := 998) (iv_lt_r c16 i_x_2 (by decide)))
            refine iv_iinc hx hb i6_x2 (lo := 1) (hi := 10) (by decide) dX2_heardBells_52 hl (k := 0) rfl (by decide) (fun x18 ls e_x18 i_x18 hl => ?_)
            have hl : lv_has ls 6 [(5, .int x18), (4, .int x1), (0, .ref h0), (1, .int x_0), (2, .int x_1), (3, .int x_2)] := hl
            refine lv_goto (tgt := 6) hx hb dX2_heardBells_55 (by decide) ?_
            exact ih_6 G15 hM _ _ hB a_h0 x1 i_x1 x18 (i_x18.wk (by decide)) (iv_mup (c := 1) i_x2 (by decide) (by decide) (by omega) hn_6) _ (lv_sub hl [0, 1, 2, 3, 4, 5] rfl)
          · skip
            have i18_x14 : iv_R 1 999 x14 := (i_x14.cutLo (n := 1) (iv_le_l (iv_nlt c16) i_x_2))
            refine lv_iload hx hb dX2_heardBells_43 (lv_at hl 1 rfl) ?_
            refine lv_iconst (v := 1) hx hb dX2_heardBells_45 (by decide) ?_
            refine lv_iload hx hb dX2_heardBells_46 (lv_at hl 0 rfl) ?_
            refine iv_shl1 hx hb i6_x2 (lo := 1) (hi := 512) (by decide) dX2_heardBells_48 (fun x20 e_x20 i_x20 => ?_)
            refine iv_ior hx hb i_x1 i_x20 (k := 11) (hi := 2047) (by decide) dX2_heardBells_49 (fun x21 e_x21 i_x21 => ?_)
            refine lv_istore (lv' := [(4, .int x21), (5, .int x2), (0, .ref h0), (1, .int x_0), (2, .int x_1), (3, .int x_2)]) hx hb dX2_heardBells_50 hl (by decide) rfl (fun ls hl => ?_)
            refine iv_iinc hx hb i6_x2 (lo := 1) (hi := 10) (by decide) dX2_heardBells_52 hl (k := 1) rfl (by decide) (fun x22 ls e_x22 i_x22 hl => ?_)
            have hl : lv_has ls 6 [(5, .int x22), (4, .int x21), (0, .ref h0), (1, .int x_0), (2, .int x_1), (3, .int x_2)] := hl
            refine lv_goto (tgt := 6) hx hb dX2_heardBells_55 (by decide) ?_
            exact ih_6 G15 hM _ _ hB a_h0 x21 i_x21 x22 (i_x22.wk (by decide)) (iv_mup (c := 1) i_x2 (by decide) (by decide) (by omega) hn_6) _ (lv_sub hl [0, 1, 2, 3, 4, 5] rfl)
  exact L_6 _ G hM _ _ hB a_h0 0 (q_0.wk (by decide)) 0 (q_0.wk (by decide)) (Nat.lt_succ_self _) _ (lv_sub hl [0, 1, 2, 3, 4, 5] rfl)
theorem dX11_chorus_0 : decode cX11_chorus 0 = .ok (.iload_n 1, 1) := by decide +kernel
theorem dX11_chorus_1 : decode cX11_chorus 1 = .ok (.invokestatic 79, 3) := by decide +kernel
theorem dX11_chorus_4 : decode cX11_chorus 4 = .ok (.ifCond .eq 14, 3) := by decide +kernel
theorem dX11_chorus_7 : decode cX11_chorus 7 = .ok (.iload_n 2, 1) := by decide +kernel
theorem dX11_chorus_8 : decode cX11_chorus 8 = .ok (.iconst 1, 1) := by decide +kernel
theorem dX11_chorus_9 : decode cX11_chorus 9 = .ok (.sipush 999, 3) := by decide +kernel
theorem dX11_chorus_12 : decode cX11_chorus 12 = .ok (.invokestatic 83, 3) := by decide +kernel
theorem dX11_chorus_15 : decode cX11_chorus 15 = .ok (.ifCond .ne 5, 3) := by decide +kernel
theorem dX11_chorus_18 : decode cX11_chorus 18 = .ok (.iconst (-1), 1) := by decide +kernel
theorem dX11_chorus_19 : decode cX11_chorus 19 = .ok (.ireturn, 1) := by decide +kernel
theorem dX11_chorus_20 : decode cX11_chorus 20 = .ok (.iconst 0, 1) := by decide +kernel
theorem dX11_chorus_21 : decode cX11_chorus 21 = .ok (.istore 4, 2) := by decide +kernel
theorem dX11_chorus_23 : decode cX11_chorus 23 = .ok (.iconst (-1), 1) := by decide +kernel
theorem dX11_chorus_24 : decode cX11_chorus 24 = .ok (.istore 5, 2) := by decide +kernel
theorem dX11_chorus_26 : decode cX11_chorus 26 = .ok (.iconst 0, 1) := by decide +kernel
theorem dX11_chorus_27 : decode cX11_chorus 27 = .ok (.istore 6, 2) := by decide +kernel
theorem dX11_chorus_29 : decode cX11_chorus 29 = .ok (.iload 6, 2) := by decide +kernel
theorem dX11_chorus_31 : decode cX11_chorus 31 = .ok (.bipush 24, 2) := by decide +kernel
theorem dX11_chorus_33 : decode cX11_chorus 33 = .ok (.if_icmp .ge 40, 3) := by decide +kernel
theorem dX11_chorus_36 : decode cX11_chorus 36 = .ok (.aload_n 0, 1) := by decide +kernel
theorem dX11_chorus_37 : decode cX11_chorus 37 = .ok (.getfield 42, 3) := by decide +kernel
theorem dX11_chorus_40 : decode cX11_chorus 40 = .ok (.iload_n 1, 1) := by decide +kernel
theorem dX11_chorus_41 : decode cX11_chorus 41 = .ok (.iload 6, 2) := by decide +kernel
theorem dX11_chorus_43 : decode cX11_chorus 43 = .ok (.iload_n 2, 1) := by decide +kernel
theorem dX11_chorus_44 : decode cX11_chorus 44 = .ok (.invokevirtual 276, 3) := by decide +kernel
theorem dX11_chorus_47 : decode cX11_chorus 47 = .ok (.invokestatic 288, 3) := by decide +kernel
theorem dX11_chorus_50 : decode cX11_chorus 50 = .ok (.istore 7, 2) := by decide +kernel
theorem dX11_chorus_52 : decode cX11_chorus 52 = .ok (.iload 7, 2) := by decide +kernel
theorem dX11_chorus_54 : decode cX11_chorus 54 = .ok (.iload 4, 2) := by decide +kernel
theorem dX11_chorus_56 : decode cX11_chorus 56 = .ok (.if_icmp .le 11, 3) := by decide +kernel
theorem dX11_chorus_59 : decode cX11_chorus 59 = .ok (.iload 7, 2) := by decide +kernel
theorem dX11_chorus_61 : decode cX11_chorus 61 = .ok (.istore 4, 2) := by decide +kernel
theorem dX11_chorus_63 : decode cX11_chorus 63 = .ok (.iload 6, 2) := by decide +kernel
theorem dX11_chorus_65 : decode cX11_chorus 65 = .ok (.istore 5, 2) := by decide +kernel
theorem dX11_chorus_67 : decode cX11_chorus 67 = .ok (.iinc 6 1, 3) := by decide +kernel
theorem dX11_chorus_70 : decode cX11_chorus 70 = .ok (.goto (-41), 3) := by decide +kernel
theorem dX11_chorus_73 : decode cX11_chorus 73 = .ok (.iload_n 3, 1) := by decide +kernel
theorem dX11_chorus_74 : decode cX11_chorus 74 = .ok (.iload 5, 2) := by decide +kernel
theorem dX11_chorus_76 : decode cX11_chorus 76 = .ok (.iload 4, 2) := by decide +kernel
theorem dX11_chorus_78 : decode cX11_chorus 78 = .ok (.invokestatic 282, 3) := by decide +kernel
theorem dX11_chorus_81 : decode cX11_chorus 81 = .ok (.ireturn, 1) := by decide +kernel
set_option maxHeartbeats 4000000 in
set_option maxRecDepth 100000 in
theorem c_X11_chorus (l : Launch) (D : va_G) (tys : List (ClassId × FieldType)) (base : Nat) (G : iv_G) (h0 : Nat) (g_h0 : Nat → Int32) (r_h0 : Nat → Nat) (a_h0 : G h0 = some (11, g_h0, r_h0)) (x_0 : Int32) (i_x_0 : iv_R (-2147483648) 2147483647 x_0) (x_1 : Int32) (i_x_1 : iv_R (-2147483648) 2147483647 x_1) (x_2 : Int32) (i_x_2 : iv_R (-2147483648) 2147483647 x_2) : Met l yX11_chorus (Cond.code yX11_chorus cX11_chorus 8 (some .int) :: iv_W0) ({ frames := 5, cells := 0, slots := 0, locals := 125 }) (iv_Pc iv_sh D classes tys base G [.ref h0, .int x_0, .int x_1, .int x_2]) (iv_Qi iv_sh D classes tys base (fun v G' => iv_Md [28, 30] G G' ∧ iv_R (-2147483648) 2147483647 v)) 0 0 (iv_A base) := by
  refine iv_head (by decide) (Nat.le_of_ble_eq_true rfl) ?_
  intro p e s m args below meth c ls X hr hlocks hname hB hl
  have X := X
  have hx := X.1.1
  have hb := X.1.2.1
  have hM : iv_Md [28, 30] G G := iv_Md.rf
  have hl : lv_has ls 8 [(0, .ref h0), (1, .int x_0), (2, .int x_1), (3, .int x_2)] := hl
  refine lv_iload_n hx hb dX11_chorus_0 rfl (lv_at hl 1 rfl) ?_
  refine iv_cSi X k_good k_mf_X11_isTower k_st_X11_isTower k_ml_X11_79 hB (As := [.int x_0]) (c_X11_isTower l D tys base G x_0 i_x_0) ⟨rfl, rfl⟩ ⟨Nat.le_of_ble_eq_true rfl, Nat.le_of_ble_eq_true rfl⟩ ⟨Nat.le_of_ble_eq_true rfl, Nat.le_of_ble_eq_true rfl⟩ rfl rfl hl.1 (Nat.le_of_ble_eq_true rfl) dX11_chorus_1 (fun x1 G9 H locs hq hB => ?_)
  obtain ⟨rfl, i_x1, hp2⟩ := hq
  refine lv_if_eq (tgt := 18) hx hb dX11_chorus_4 (by decide) (fun c3 => ?_) (fun c3 => ?_)
  · skip
    have i3_x1 : iv_R 0 0 x1 := (i_x1.cutHi (n := 0) (iv_eq_r c3 q_0).2)
    refine lv_iconst (v := (-1)) hx hb dX11_chorus_18 (by decide) ?_
    exact iv_iret X hr hlocks hB ⟨hM, (q_n1.wk (by decide))⟩ dX11_chorus_19
  · skip
    have i4_x1 : iv_R 1 1 x1 := iv_ne_lo c3 i_x1 q_0 (by decide)
    have i5_x_0 : iv_R 0 3 x_0 := ((i_x_0.cutLo (n := 0) (hp2 c3).1).cutHi (n := 3) (hp2 c3).2)
    refine lv_iload_n hx hb dX11_chorus_7 rfl (lv_at hl 2 rfl) ?_
    refine lv_iconst (v := 1) hx hb dX11_chorus_8 (by decide) ?_
    refine lv_sipush (v := 999) hx hb dX11_chorus_9 (by decide) ?_
    refine iv_cSi X k_good k_mf_X11_isWithin k_st_X11_isWithin k_ml_X11_83 hB (As := [.int x_1, .int 1, .int 999]) (c_X11_isWithin l D tys base G x_1 i_x_1 1 (q_1.wk (by decide)) 999 (q_999.wk (by decide))) ⟨rfl, rfl⟩ ⟨Nat.le_of_ble_eq_true rfl, Nat.le_of_ble_eq_true rfl⟩ ⟨Nat.le_of_ble_eq_true rfl, Nat.le_of_ble_eq_true rfl⟩ rfl rfl hl.1 (Nat.le_of_ble_eq_true rfl) dX11_chorus_12 (fun x7 G9 H locs hq hB => ?_)
    obtain ⟨rfl, i_x7, hp8⟩ := hq
    have k9 : ¬ x7 = 0 → iv_R 1 999 x_1 := fun h => ⟨iv_max i_x_1.1 (Int.le_trans q_1.1 (hp8.1 h).1) (by decide), iv_min i_x_1.2 (Int.le_trans (hp8.1 h).2 q_999.2) (by decide)⟩
    refine lv_if_ne (tgt := 20) hx hb dX11_chorus_15 (by decide) (fun c10 => ?_) (fun c10 => ?_)
    · skip
      have i10_x7 : iv_R 1 1 x7 := iv_ne_lo c10 i_x7 q_0 (by decide)
      have i11_x_1 : iv_R 1 999 x_1 := ((i_x_1.cutLo (n := 1) (k9 c10).1).cutHi (n := 999) (k9 c10).2)
      refine lv_iconst (v := 0) hx hb dX11_chorus_20 (by decide) ?_
      refine lv_istore (lv' := [(4, .int 0), (0, .ref h0), (1, .int x_0), (2, .int x_1), (3, .int x_2)]) hx hb dX11_chorus_21 hl (by decide) rfl (fun ls hl => ?_)
      refine lv_iconst (v := (-1)) hx hb dX11_chorus_23 (by decide) ?_
      refine lv_istore (lv' := [(5, .int (-1)), (4, .int 0), (0, .ref h0), (1, .int x_0), (2, .int x_1), (3, .int x_2)]) hx hb dX11_chorus_24 hl (by decide) rfl (fun ls hl => ?_)
      refine lv_iconst (v := 0) hx hb dX11_chorus_26 (by decide) ?_
      refine lv_istore (lv' := [(6, .int 0), (5, .int (-1)), (4, .int 0), (0, .ref h0), (1, .int x_0), (2, .int x_1), (3, .int x_2)]) hx hb dX11_chorus_27 hl (by decide) rfl (fun ls hl => ?_)
      have L_29 : ∀ (n_29 : Nat) (G16 : iv_G) (hM : iv_Md [28, 30] G G16) (H : Heap) (locs : List Loc) (hB : iv_B iv_sh D classes tys base G16 s.heap H locs) (a_h0 : G16 h0 = some (11, g_h0, r_h0)) (x13 : Int32) (i_x13 : iv_R 0 63 x13) (x14 : Int32) (i_x14 : iv_R (-1) 23 x14) (x15 : Int32) (i_x15 : iv_R 0 24 x15) (hn_29 : (25 - x15.toInt).toNat < n_29) (ls : Array Slot) (hl : lv_has ls 8 [(6, .int x15), (5, .int x14), (4, .int x13), (0, .ref h0), (1, .int x_0), (2, .int x_1), (3, .int x_2)]), W p l e ({ frames := 5, cells := 0, slots := 0, locals := 125 } : Room) s m args below meth c H locs 0 0 (MQ below (iv_Qi iv_sh D classes tys base (fun v G' => iv_Md [28, 30] G G' ∧ iv_R (-2147483648) 2147483647 v)) args s 0 0 (iv_A base)) (F0 m 29 ls []) := by
        intro n_29
        induction n_29 with
        | zero => intro G16 hM H locs hB a_h0 x13 i_x13 x14 i_x14 x15 i_x15 hn_29 ls hl; exact absurd hn_29 (Nat.not_lt_zero _)
        | succ n_29 ih_29 =>
          intro G16 hM H locs hB a_h0 x13 i_x13 x14 i_x14 x15 i_x15 hn_29 ls hl
          refine lv_iload hx hb dX11_chorus_29 (lv_at hl 0 rfl) ?_
          refine lv_bipush (v := 24) hx hb dX11_chorus_31 (by decide) ?_
          refine lv_icmp_ge (tgt := 73) hx hb dX11_chorus_33 (by decide) (fun c17 => ?_) (fun c17 => ?_)
          · skip
            have i17_x15 : iv_R 24 24 x15 := (i_x15.cutLo (n := 24) (iv_le_l c17 q_24))
            refine lv_iload_n hx hb dX11_chorus_73 rfl (lv_at hl 6 rfl) ?_
            refine lv_iload hx hb dX11_chorus_74 (lv_at hl 1 rfl) ?_
            refine lv_iload hx hb dX11_chorus_76 (lv_at hl 2 rfl) ?_
            refine iv_cSi X k_good k_mf_X11_chosen k_st_X11_chosen k_ml_X11_282 hB (As := [.int x_2, .int x14, .int x13]) (c_X11_chosen l D tys base G16 x_2 i_x_2 x14 (i_x14.wk (by decide)) x13 (i_x13.wk (by decide))) ⟨rfl, rfl⟩ ⟨Nat.le_of_ble_eq_true rfl, Nat.le_of_ble_eq_true rfl⟩ ⟨Nat.le_of_ble_eq_true rfl, Nat.le_of_ble_eq_true rfl⟩ rfl rfl hl.1 (Nat.le_of_ble_eq_true rfl) dX11_chorus_78 (fun x19 G9 H locs hq hB => ?_)
            obtain ⟨rfl, i_x19⟩ := hq
            exact iv_iret X hr hlocks hB ⟨hM, i_x19⟩ dX11_chorus_81
          · skip
            have i19_x15 : iv_R 0 23 x15 := (i_x15.cutHi (n := 23) (iv_lt_r (iv_nle c17) q_24 (by decide)))
            refine lv_aload_n hx hb dX11_chorus_36 rfl (lv_at hl 3 rfl) ?_
            refine iv_getr X ft_X11 hB a_h0 sh_11 7 (by decide) rfl k_fl_X11_42 dX11_chorus_37 (fun b21 g_b21 r_b21 e_b21 a_b21 => ?_)
            refine lv_iload_n hx hb dX11_chorus_40 rfl (lv_at hl 4 rfl) ?_
            refine lv_iload hx hb dX11_chorus_41 (lv_at hl 0 rfl) ?_
            refine lv_iload_n hx hb dX11_chorus_43 rfl (lv_at hl 5 rfl) ?_
            refine iv_cVi X k_good k_mf_X2_heardBells k_im_X2_heardBells k_sel_X2_heardBells k_ml_X11_276 ft_X2 hB a_b21 sh_2 (As := [.int x_0, .int x15, .int x_1]) (c_X2_heardBells l D tys base G16 b21 g_b21 r_b21 a_b21 x_0 i5_x_0 x15 i19_x15 x_1 i11_x_1) ⟨rfl, rfl⟩ ⟨Nat.le_of_ble_eq_true rfl, Nat.le_of_ble_eq_true rfl⟩ ⟨Nat.le_of_ble_eq_true rfl, Nat.le_of_ble_eq_true rfl⟩ rfl rfl hl.1 (Nat.le_of_ble_eq_true rfl) dX11_chorus_44 (fun x22 G9 H locs hq hB => ?_)
            obtain ⟨hm, i_x22⟩ := hq
            obtain ⟨G23, hG9⟩ : ∃ g, g = G9 := ⟨_, rfl⟩
            rw [← hG9] at hm hB
            have hM := hM.stp hm (by decide)
            have a_h0 := hm.at a_h0 (by decide)
            refine iv_cSi X k_good k_mf_J6_bitCount_0f7a4 k_st_J6_bitCount_0f7a4 k_ml_X11_288 hB (As := [.int x22]) (c_J6_bitCount_0f7a4 l D tys base G23 x22 (i_x22.wk (by decide))) ⟨rfl, rfl⟩ ⟨Nat.le_of_ble_eq_true rfl, Nat.le_of_ble_eq_true rfl⟩ ⟨Nat.le_of_ble_eq_true rfl, Nat.le_of_ble_eq_true rfl⟩ rfl rfl hl.1 (Nat.le_of_ble_eq_true rfl) dX11_chorus_47 (fun x24 G9 H locs hq hB => ?_)
            obtain ⟨rfl, i_x24⟩ := hq
            refine lv_istore (lv' := [(7, .int x24), (6, .int x15), (5, .int x14), (4, .int x13), (0, .ref h0), (1, .int x_0), (2, .int x_1), (3, .int x_2)]) hx hb dX11_chorus_50 hl (by decide) rfl (fun ls hl => ?_)
            refine lv_iload hx hb dX11_chorus_52 (lv_at hl 0 rfl) ?_
            refine lv_iload hx hb dX11_chorus_54 (lv_at hl 3 rfl) ?_
            refine lv_icmp_le (tgt := 67) hx hb dX11_chorus_56 (by decide) (fun c25 => ?_) (fun c25 => ?_)
            · skip
              refine iv_iinc hx hb i19_x15 (lo := 1) (hi := 24) (by decide) dX11_chorus_67 hl (k := 1) rfl (by decide) (fun x26 ls e_x26 i_x26 hl => ?_)
              have hl : lv_has ls 8 [(6, .int x26), (7, .int x24), (5, .int x14), (4, .int x13), (0, .ref h0), (1, .int x_0), (2, .int x_1), (3, .int x_2)] := hl
              refine lv_goto (tgt := 29) hx hb dX11_chorus_70 (by decide) ?_
              exact ih_29 G23 hM _ _ hB a_h0 x13 i_x13 x14 i_x14 x26 (i_x26.wk (by decide)) (iv_mup (c := 1) i_x15 (by decide) (by decide) (by omega) hn_29) _ (lv_sub hl [0, 2, 3, 4, 5, 6, 7] rfl)
            · skip
              have i26_x13 : iv_R 0 62 x13 := (i_x13.cutHi (n := 62) (iv_lt_r (iv_nle c25) i_x24 (by decide)))
              have i27_x24 : iv_R 1 63 x24 := (i_x24.cutLo (n := 1) (iv_lt_l (iv_nle c25) i_x13 (by decide)))
              refine lv_iload hx hb dX11_chorus_59 (lv_at hl 0 rfl) ?_
              refine lv_istore (lv' := [(4, .int x24), (7, .int x24), (6, .int x15), (5, .int x14), (0, .ref h0), (1, .int x_0), (2, .int x_1), (3, .int x_2)]) hx hb dX11_chorus_61 hl (by decide) rfl (fun ls hl => ?_)
              refine lv_iload hx hb dX11_chorus_63 (lv_at hl 2 rfl) ?_
              refine lv_istore (lv' := [(5, .int x15), (4, .int x24), (7, .int x24), (6, .int x15), (0, .ref h0), (1, .int x_0), (2, .int x_1), (3, .int x_2)]) hx hb dX11_chorus_65 hl (by decide) rfl (fun ls hl => ?_)
              refine iv_iinc hx hb i19_x15 (lo := 1) (hi := 24) (by decide) dX11_chorus_67 hl (k := 3) rfl (by decide) (fun x29 ls e_x29 i_x29 hl => ?_)
              have hl : lv_has ls 8 [(6, .int x29), (5, .int x15), (4, .int x24), (7, .int x24), (0, .ref h0), (1, .int x_0), (2, .int x_1), (3, .int x_2)] := hl
              refine lv_goto (tgt := 29) hx hb dX11_chorus_70 (by decide) ?_
              exact ih_29 G23 hM _ _ hB a_h0 x24 (i27_x24.wk (by decide)) x15 (i19_x15.wk (by decide)) x29 (i_x29.wk (by decide)) (iv_mup (c := 1) i_x15 (by decide) (by decide) (by omega) hn_29) _ (lv_sub hl [0, 1, 2, 4, 5, 6, 7] rfl)
      exact L_29 _ G hM _ _ hB a_h0 0 (q_0.wk (by decide)) (-1) (q_n1.wk (by decide)) 0 (q_0.wk (by decide)) (Nat.lt_succ_self _) _ (lv_sub hl [0, 1, 2, 3, 4, 5, 6] rfl)
    · skip
      have i29_x7 : iv_R 0 0 x7 := (i_x7.cutHi (n := 0) (iv_eq_r c10 q_0).2)
      refine lv_iconst (v := (-1)) hx hb dX11_chorus_18 (by decide) ?_
      exact iv_iret X hr hlocks hB ⟨hM, (q_n1.wk (by decide))⟩ dX11_chorus_19
theorem dX6_keep_0 : decode cX6_keep 0 = .ok (.aload_n 0, 1) := by decide +kernel
theorem dX6_keep_1 : decode cX6_keep 1 = .ok (.aload_n 0, 1) := by decide +kernel
theorem dX6_keep_2 : decode cX6_keep 2 = .ok (.getfield 20, 3) := by decide +kernel
theorem dX6_keep_5 : decode cX6_keep 5 = .ok (.iconst 1, 1) := by decide +kernel
theorem dX6_keep_6 : decode cX6_keep 6 = .ok (.iadd, 1) := by decide +kernel
theorem dX6_keep_7 : decode cX6_keep 7 = .ok (.bipush 6, 2) := by decide +kernel
theorem dX6_keep_9 : decode cX6_keep 9 = .ok (.irem, 1) := by decide +kernel
theorem dX6_keep_10 : decode cX6_keep 10 = .ok (.putfield 20, 3) := by decide +kernel
theorem dX6_keep_13 : decode cX6_keep 13 = .ok (.aload_n 0, 1) := by decide +kernel
theorem dX6_keep_14 : decode cX6_keep 14 = .ok (.bipush 6, 2) := by decide +kernel
theorem dX6_keep_16 : decode cX6_keep 16 = .ok (.aload_n 0, 1) := by decide +kernel
theorem dX6_keep_17 : decode cX6_keep 17 = .ok (.getfield 16, 3) := by decide +kernel
theorem dX6_keep_20 : decode cX6_keep 20 = .ok (.iconst 1, 1) := by decide +kernel
theorem dX6_keep_21 : decode cX6_keep 21 = .ok (.iadd, 1) := by decide +kernel
theorem dX6_keep_22 : decode cX6_keep 22 = .ok (.invokestatic 23, 3) := by decide +kernel
theorem dX6_keep_25 : decode cX6_keep 25 = .ok (.putfield 16, 3) := by decide +kernel
theorem dX6_keep_28 : decode cX6_keep 28 = .ok (.aload_n 0, 1) := by decide +kernel
theorem dX6_keep_29 : decode cX6_keep 29 = .ok (.getfield 13, 3) := by decide +kernel
theorem dX6_keep_32 : decode cX6_keep 32 = .ok (.aload_n 0, 1) := by decide +kernel
theorem dX6_keep_33 : decode cX6_keep 33 = .ok (.getfield 20, 3) := by decide +kernel
theorem dX6_keep_36 : decode cX6_keep 36 = .ok (.aaload, 1) := by decide +kernel
theorem dX6_keep_37 : decode cX6_keep 37 = .ok (.astore_n 2, 1) := by decide +kernel
theorem dX6_keep_38 : decode cX6_keep 38 = .ok (.iconst 0, 1) := by decide +kernel
theorem dX6_keep_39 : decode cX6_keep 39 = .ok (.istore_n 3, 1) := by decide +kernel
theorem dX6_keep_40 : decode cX6_keep 40 = .ok (.iload_n 3, 1) := by decide +kernel
theorem dX6_keep_41 : decode cX6_keep 41 = .ok (.bipush 10, 2) := by decide +kernel
theorem dX6_keep_43 : decode cX6_keep 43 = .ok (.if_icmp .ge 63, 3) := by decide +kernel
theorem dX6_keep_46 : decode cX6_keep 46 = .ok (.aload_n 1, 1) := by decide +kernel
theorem dX6_keep_47 : decode cX6_keep 47 = .ok (.getfield 29, 3) := by decide +kernel
theorem dX6_keep_50 : decode cX6_keep 50 = .ok (.iload_n 3, 1) := by decide +kernel
theorem dX6_keep_51 : decode cX6_keep 51 = .ok (.aaload, 1) := by decide +kernel
theorem dX6_keep_52 : decode cX6_keep 52 = .ok (.astore 4, 2) := by decide +kernel
theorem dX6_keep_54 : decode cX6_keep 54 = .ok (.aload_n 2, 1) := by decide +kernel
theorem dX6_keep_55 : decode cX6_keep 55 = .ok (.iload_n 3, 1) := by decide +kernel
theorem dX6_keep_56 : decode cX6_keep 56 = .ok (.iconst 4, 1) := by decide +kernel
theorem dX6_keep_57 : decode cX6_keep 57 = .ok (.imul, 1) := by decide +kernel
theorem dX6_keep_58 : decode cX6_keep 58 = .ok (.aload 4, 2) := by decide +kernel
theorem dX6_keep_60 : decode cX6_keep 60 = .ok (.getfield 35, 3) := by decide +kernel
theorem dX6_keep_63 : decode cX6_keep 63 = .ok (.iastore, 1) := by decide +kernel
theorem dX6_keep_64 : decode cX6_keep 64 = .ok (.aload_n 2, 1) := by decide +kernel
theorem dX6_keep_65 : decode cX6_keep 65 = .ok (.iload_n 3, 1) := by decide +kernel
theorem dX6_keep_66 : decode cX6_keep 66 = .ok (.iconst 4, 1) := by decide +kernel
theorem dX6_keep_67 : decode cX6_keep 67 = .ok (.imul, 1) := by decide +kernel
theorem dX6_keep_68 : decode cX6_keep 68 = .ok (.iconst 1, 1) := by decide +kernel
theorem dX6_keep_69 : decode cX6_keep 69 = .ok (.iadd, 1) := by decide +kernel
theorem dX6_keep_70 : decode cX6_keep 70 = .ok (.aload 4, 2) := by decide +kernel
theorem dX6_keep_72 : decode cX6_keep 72 = .ok (.getfield 40, 3) := by decide +kernel
theorem dX6_keep_75 : decode cX6_keep 75 = .ok (.iastore, 1) := by decide +kernel
theorem dX6_keep_76 : decode cX6_keep 76 = .ok (.aload_n 2, 1) := by decide +kernel
theorem dX6_keep_77 : decode cX6_keep 77 = .ok (.iload_n 3, 1) := by decide +kernel
theorem dX6_keep_78 : decode cX6_keep 78 = .ok (.iconst 4, 1) := by decide +kernel
theorem dX6_keep_79 : decode cX6_keep 79 = .ok (.imul, 1) := by decide +kernel
theorem dX6_keep_80 : decode cX6_keep 80 = .ok (.iconst 2, 1) := by decide +kernel
theorem dX6_keep_81 : decode cX6_keep 81 = .ok (.iadd, 1) := by decide +kernel
theorem dX6_keep_82 : decode cX6_keep 82 = .ok (.aload 4, 2) := by decide +kernel
theorem dX6_keep_84 : decode cX6_keep 84 = .ok (.getfield 43, 3) := by decide +kernel
theorem dX6_keep_87 : decode cX6_keep 87 = .ok (.iastore, 1) := by decide +kernel
theorem dX6_keep_88 : decode cX6_keep 88 = .ok (.aload_n 2, 1) := by decide +kernel
theorem dX6_keep_89 : decode cX6_keep 89 = .ok (.iload_n 3, 1) := by decide +kernel
theorem dX6_keep_90 : decode cX6_keep 90 = .ok (.iconst 4, 1) := by decide +kernel
theorem dX6_keep_91 : decode cX6_keep 91 = .ok (.imul, 1) := by decide +kernel
theorem dX6_keep_92 : decode cX6_keep 92 = .ok (.iconst 3, 1) := by decide +kernel
theorem dX6_keep_93 : decode cX6_keep 93 = .ok (.iadd, 1) := by decide +kernel
theorem dX6_keep_94 : decode cX6_keep 94 = .ok (.aload 4, 2) := by decide +kernel
theorem dX6_keep_96 : decode cX6_keep 96 = .ok (.getfield 46, 3) := by decide +kernel
theorem dX6_keep_99 : decode cX6_keep 99 = .ok (.iastore, 1) := by decide +kernel
theorem dX6_keep_100 : decode cX6_keep 100 = .ok (.iinc 3 1, 3) := by decide +kernel
theorem dX6_keep_103 : decode cX6_keep 103 = .ok (.goto (-63), 3) := by decide +kernel
theorem dX6_keep_106 : decode cX6_keep 106 = .ok (.iconst 0, 1) := by decide +kernel
theorem dX6_keep_107 : decode cX6_keep 107 = .ok (.istore_n 3, 1) := by decide +kernel
theorem dX6_keep_108 : decode cX6_keep 108 = .ok (.iload_n 3, 1) := by decide +kernel
theorem dX6_keep_109 : decode cX6_keep 109 = .ok (.bipush 20, 2) := by decide +kernel
theorem dX6_keep_111 : decode cX6_keep 111 = .ok (.if_icmp .ge 24, 3) := by decide +kernel
theorem dX6_keep_114 : decode cX6_keep 114 = .ok (.aload_n 2, 1) := by decide +kernel
theorem dX6_keep_115 : decode cX6_keep 115 = .ok (.bipush 40, 2) := by decide +kernel
theorem dX6_keep_117 : decode cX6_keep 117 = .ok (.iload_n 3, 1) := by decide +kernel
theorem dX6_keep_118 : decode cX6_keep 118 = .ok (.iadd, 1) := by decide +kernel
theorem dX6_keep_119 : decode cX6_keep 119 = .ok (.aload_n 1, 1) := by decide +kernel
theorem dX6_keep_120 : decode cX6_keep 120 = .ok (.getfield 49, 3) := by decide +kernel
theorem dX6_keep_123 : decode cX6_keep 123 = .ok (.iload_n 3, 1) := by decide +kernel
theorem dX6_keep_124 : decode cX6_keep 124 = .ok (.iconst 1, 1) := by decide +kernel
theorem dX6_keep_125 : decode cX6_keep 125 = .ok (.invokevirtual 53, 3) := by decide +kernel
theorem dX6_keep_128 : decode cX6_keep 128 = .ok (.iastore, 1) := by decide +kernel
theorem dX6_keep_129 : decode cX6_keep 129 = .ok (.iinc 3 1, 3) := by decide +kernel
theorem dX6_keep_132 : decode cX6_keep 132 = .ok (.goto (-24), 3) := by decide +kernel
theorem dX6_keep_135 : decode cX6_keep 135 = .ok (.aload_n 2, 1) := by decide +kernel
theorem dX6_keep_136 : decode cX6_keep 136 = .ok (.bipush 60, 2) := by decide +kernel
theorem dX6_keep_138 : decode cX6_keep 138 = .ok (.aload_n 1, 1) := by decide +kernel
theorem dX6_keep_139 : decode cX6_keep 139 = .ok (.getfield 49, 3) := by decide +kernel
theorem dX6_keep_142 : decode cX6_keep 142 = .ok (.getfield 58, 3) := by decide +kernel
theorem dX6_keep_145 : decode cX6_keep 145 = .ok (.iastore, 1) := by decide +kernel
theorem dX6_keep_146 : decode cX6_keep 146 = .ok (.aload_n 2, 1) := by decide +kernel
theorem dX6_keep_147 : decode cX6_keep 147 = .ok (.bipush 61, 2) := by decide +kernel
theorem dX6_keep_149 : decode cX6_keep 149 = .ok (.aload_n 1, 1) := by decide +kernel
theorem dX6_keep_150 : decode cX6_keep 150 = .ok (.getfield 61, 3) := by decide +kernel
theorem dX6_keep_153 : decode cX6_keep 153 = .ok (.getfield 58, 3) := by decide +kernel
theorem dX6_keep_156 : decode cX6_keep 156 = .ok (.iastore, 1) := by decide +kernel
theorem dX6_keep_157 : decode cX6_keep 157 = .ok (.aload_n 2, 1) := by decide +kernel
theorem dX6_keep_158 : decode cX6_keep 158 = .ok (.bipush 62, 2) := by decide +kernel
theorem dX6_keep_160 : decode cX6_keep 160 = .ok (.aload_n 1, 1) := by decide +kernel
theorem dX6_keep_161 : decode cX6_keep 161 = .ok (.getfield 64, 3) := by decide +kernel
theorem dX6_keep_164 : decode cX6_keep 164 = .ok (.iastore, 1) := by decide +kernel
theorem dX6_keep_165 : decode cX6_keep 165 = .ok (.aload_n 2, 1) := by decide +kernel
theorem dX6_keep_166 : decode cX6_keep 166 = .ok (.bipush 63, 2) := by decide +kernel
theorem dX6_keep_168 : decode cX6_keep 168 = .ok (.aload_n 1, 1) := by decide +kernel
theorem dX6_keep_169 : decode cX6_keep 169 = .ok (.getfield 67, 3) := by decide +kernel
theorem dX6_keep_172 : decode cX6_keep 172 = .ok (.iastore, 1) := by decide +kernel
theorem dX6_keep_173 : decode cX6_keep 173 = .ok (.aload_n 2, 1) := by decide +kernel
theorem dX6_keep_174 : decode cX6_keep 174 = .ok (.bipush 64, 2) := by decide +kernel
theorem dX6_keep_176 : decode cX6_keep 176 = .ok (.aload_n 1, 1) := by decide +kernel
theorem dX6_keep_177 : decode cX6_keep 177 = .ok (.getfield 70, 3) := by decide +kernel
theorem dX6_keep_180 : decode cX6_keep 180 = .ok (.iastore, 1) := by decide +kernel
theorem dX6_keep_181 : decode cX6_keep 181 = .ok (.return_, 1) := by decide +kernel
set_option maxHeartbeats 4000000 in
set_option maxRecDepth 100000 in
theorem c_X6_keep (l : Launch) (D : va_G) (tys : List (ClassId × FieldType)) (base : Nat) (G : iv_G) (h0 : Nat) (g_h0 : Nat → Int32) (r_h0 : Nat → Nat) (a_h0 : G h0 = some (6, g_h0, r_h0)) (h1 : Nat) (g_h1 : Nat → Int32) (r_h1 : Nat → Nat) (a_h1 : G h1 = some (5, g_h1, r_h1)) : Met l yX6_keep (Cond.code yX6_keep cX6_keep 5 none :: iv_W0) ({ frames := 2, cells := 0, slots := 0, locals := 44 }) (iv_Pc iv_sh D classes tys base G [.ref h0, .ref h1]) (iv_Qv iv_sh D classes tys base (fun G' => iv_Md [6, 27] G G')) 0 0 (iv_A base) := by
  refine iv_head (by decide) (Nat.le_of_ble_eq_true rfl) ?_
  intro p e s m args below meth c ls X hr hlocks hname hB hl
  have X := X
  have hx := X.1.1
  have hb := X.1.2.1
  have hM : iv_Md [6, 27] G G := iv_Md.rf
  have hl : lv_has ls 5 [(0, .ref h0), (1, .ref h1)] := hl
  refine lv_aload_n hx hb dX6_keep_0 rfl (lv_at hl 0 rfl) ?_
  refine lv_aload_n hx hb dX6_keep_1 rfl (lv_at hl 0 rfl) ?_
  refine iv_geti X ft_X6 hB a_h0 sh_6 1 (by decide) rfl k_fl_X6_20 dX6_keep_2 (fun x1 e_x1 i_x1 => ?_)
  refine lv_iconst (v := 1) hx hb dX6_keep_5 (by decide) ?_
  refine iv_iadd hx hb i_x1 q_1 (lo := 1) (hi := 6) (by decide) dX6_keep_6 (fun x2 e_x2 i_x2 => ?_)
  refine lv_bipush (v := 6) hx hb dX6_keep_7 (by decide) ?_
  refine iv_iremp hx hb i_x2 q_6 (lo := 0) (hi := 5) (by decide) dX6_keep_9 (fun x3 e_x3 i_x3 => ?_)
  refine iv_puti X ft_X6 hB a_h0 sh_6 1 (by decide) rfl rfl k_fl_X6_20 rfl i_x3 rfl rfl dX6_keep_10 (fun H locs hB => ?_)
  have hm := iv_Md.put (x := x3) a_h0 (j := 1) (by decide) (by decide)
  have h9 := iv_up_eq (G := G) (a := h0) (k := (6, upd g_h0 1 x3, r_h0))
  generalize iv_up G h0 _ = G4 at hB hm h9
  have hM := hM.stp hm (by decide)
  generalize hgn_g5 : upd g_h0 _ _ = g5 at h9
  have a_h1 := hm.at a_h1 (by decide)
  have a_h0 := h9
  have e9_g5 : x3 = g5 1 := by rw [← hgn_g5]; simp [upd]
  refine lv_aload_n hx hb dX6_keep_13 rfl (lv_at hl 0 rfl) ?_
  refine lv_bipush (v := 6) hx hb dX6_keep_14 (by decide) ?_
  refine lv_aload_n hx hb dX6_keep_16 rfl (lv_at hl 0 rfl) ?_
  refine iv_geti X ft_X6 hB a_h0 sh_6 2 (by decide) rfl k_fl_X6_16 dX6_keep_17 (fun x6 e_x6 i_x6 => ?_)
  refine lv_iconst (v := 1) hx hb dX6_keep_20 (by decide) ?_
  refine lv_iadd hx hb dX6_keep_21 ?_
  refine lv_topi (fun x7 e_x7 => ?_)
  have i_x7 := iv_R.all x7
  refine iv_mmin X hl.1 k_mm_X6_23 ⟨Nat.le_of_ble_eq_true rfl, Nat.le_of_ble_eq_true rfl⟩ ⟨Nat.le_of_ble_eq_true rfl, Nat.le_of_ble_eq_true rfl⟩ q_6 i_x7 (lo := (-2147483648)) (hi := 6) (by decide) dX6_keep_22 (fun x8 e_x8 i_x8 => ?_)
  refine iv_puti X ft_X6 hB a_h0 sh_6 2 (by decide) rfl rfl k_fl_X6_16 rfl (i_x8.wk (by decide)) rfl rfl dX6_keep_25 (fun H locs hB => ?_)
  have hm := iv_Md.put (x := x8) a_h0 (j := 2) (by decide) (by decide)
  have h9 := iv_up_eq (G := G4) (a := h0) (k := (6, upd g5 2 x8, r_h0))
  generalize iv_up G4 h0 _ = G9 at hB hm h9
  have hM := hM.stp hm (by decide)
  generalize hgn_g10 : upd g5 _ _ = g10 at h9
  have a_h1 := hm.at a_h1 (by decide)
  have a_h0 := h9
  have e11 : x3 = g10 1 := by rw [← hgn_g10]; exact e9_g5
  have e9_g10 : x8 = g10 2 := by rw [← hgn_g10]; simp [upd]
  refine lv_aload_n hx hb dX6_keep_28 rfl (lv_at hl 0 rfl) ?_
  refine iv_getr X ft_X6 hB a_h0 sh_6 0 (by decide) rfl k_fl_X6_13 dX6_keep_29 (fun b12 g_b12 r_b12 e_b12 a_b12 => ?_)
  refine lv_aload_n hx hb dX6_keep_32 rfl (lv_at hl 0 rfl) ?_
  refine iv_geti0 X ft_X6 hB a_h0 sh_6 1 (by decide) rfl k_fl_X6_20 dX6_keep_33 e11 ?_
  refine iv_aald X hB a_b12 sh_41 (iv_in i_x3 (by decide)) dX6_keep_36 (fun b13 g_b13 r_b13 e_b13 a_b13 => ?_)
  refine lv_astore_n (lv' := [(2, .ref b13), (0, .ref h0), (1, .ref h1)]) hx hb dX6_keep_37 rfl hl (by decide) rfl (fun ls hl => ?_)
  refine lv_iconst (v := 0) hx hb dX6_keep_38 (by decide) ?_
  refine lv_istore_n (lv' := [(3, .int 0), (2, .ref b13), (0, .ref h0), (1, .ref h1)]) hx hb dX6_keep_39 rfl hl (by decide) rfl (fun ls hl => ?_)
  have L_40 : ∀ (n_40 : Nat) (G17 : iv_G) (hM : iv_Md [6, 27] G G17) (H : Heap) (locs : List Loc) (hB : iv_B iv_sh D classes tys base G17 s.heap H locs) (a_h1 : G17 h1 = some (5, g_h1, r_h1)) (g15 : Nat → Int32) (r16 : Nat → Nat) (a_b13 : G17 b13 = some (27, g15, r16)) (x14 : Int32) (i_x14 : iv_R 0 10 x14) (hn_40 : (11 - x14.toInt).toNat < n_40) (ls : Array Slot) (hl : lv_has ls 5 [(3, .int x14), (2, .ref b13), (1, .ref h1)]), W p l e ({ frames := 2, cells := 0, slots := 0, locals := 44 } : Room) s m args below meth c H locs 0 0 (MQ below (iv_Qv iv_sh D classes tys base (fun G' => iv_Md [6, 27] G G')) args s 0 0 (iv_A base)) (F0 m 40 ls []) := by
    intro n_40
    induction n_40 with
    | zero => intro G17 hM H locs hB a_h1 g15 r16 a_b13 x14 i_x14 hn_40 ls hl; exact absurd hn_40 (Nat.not_lt_zero _)
    | succ n_40 ih_40 =>
      intro G17 hM H locs hB a_h1 g15 r16 a_b13 x14 i_x14 hn_40 ls hl
      refine lv_iload_n hx hb dX6_keep_40 rfl (lv_at hl 0 rfl) ?_
      refine lv_bipush (v := 10) hx hb dX6_keep_41 (by decide) ?_
      refine lv_icmp_ge (tgt := 106) hx hb dX6_keep_43 (by decide) (fun c18 => ?_) (fun c18 => ?_)
      · skip
        have i18_x14 : iv_R 10 10 x14 := (i_x14.cutLo (n := 10) (iv_le_l c18 q_10))
        refine lv_iconst (v := 0) hx hb dX6_keep_106 (by decide) ?_
        refine lv_istore_n (lv' := [(3, .int 0), (2, .ref b13), (1, .ref h1)]) hx hb dX6_keep_107 rfl hl (by decide) rfl (fun ls hl => ?_)
        have L_108 : ∀ (n_108 : Nat) (G23 : iv_G) (hM : iv_Md [6, 27] G G23) (H : Heap) (locs : List Loc) (hB : iv_B iv_sh D classes tys base G23 s.heap H locs) (a_h1 : G23 h1 = some (5, g_h1, r_h1)) (g21 : Nat → Int32) (r22 : Nat → Nat) (a_b13 : G23 b13 = some (27, g21, r22)) (x20 : Int32) (i_x20 : iv_R 0 20 x20) (hn_108 : (21 - x20.toInt).toNat < n_108) (ls : Array Slot) (hl : lv_has ls 5 [(3, .int x20), (2, .ref b13), (1, .ref h1)]), W p l e ({ frames := 2, cells := 0, slots := 0, locals := 44 } : Room) s m args below meth c H locs 0 0 (MQ below (iv_Qv iv_sh D classes tys base (fun G' => iv_Md [6, 27] G G')) args s 0 0 (iv_A base)) (F0 m 108 ls []) := by
          intro n_108
          induction n_108 with
          | zero => intro G23 hM H locs hB a_h1 g21 r22 a_b13 x20 i_x20 hn_108 ls hl; exact absurd hn_108 (Nat.not_lt_zero _)
          | succ n_108 ih_108 =>
            intro G23 hM H locs hB a_h1 g21 r22 a_b13 x20 i_x20 hn_108 ls hl
            refine lv_iload_n hx hb dX6_keep_108 rfl (lv_at hl 0 rfl) ?_
            refine lv_bipush (v := 20) hx hb dX6_keep_109 (by decide) ?_
            refine lv_icmp_ge (tgt := 135) hx hb dX6_keep_111 (by decide) (fun c24 => ?_) (fun c24 => ?_)
            · skip
              have i24_x20 : iv_R 20 20 x20 := (i_x20.cutLo (n := 20) (iv_le_l c24 q_20))
              refine lv_aload_n hx hb dX6_keep_135 rfl (lv_at hl 1 rfl) ?_
              refine lv_bipush (v := 60) hx hb dX6_keep_136 (by decide) ?_
              refine lv_aload_n hx hb dX6_keep_138 rfl (lv_at hl 2 rfl) ?_
              refine iv_getr X ft_X5 hB a_h1 sh_5 8 (by decide) rfl k_fl_X6_49 dX6_keep_139 (fun b26 g_b26 r_b26 e_b26 a_b26 => ?_)
              refine iv_geti X ft_X8 hB a_b26 sh_8 2 (by decide) rfl k_fl_X6_58 dX6_keep_142 (fun x27 e_x27 i_x27 => ?_)
              refine iv_ast X hB a_b13 sh_27 (iv_in q_60 (by decide)) (i_x27.wk (by decide)) dX6_keep_145 (fun H locs hB => ?_)
              have hm := iv_Md.ast (j := (60 : Int32).toNatClampNeg) (x := x27) a_b13 rfl (by decide)
              have h9 := iv_up_eq (G := G23) (a := b13) (k := (27, upd g21 (60 : Int32).toNatClampNeg x27, r22))
              generalize iv_up G23 b13 _ = G28 at hB hm h9
              have hM := hM.stp hm (by decide)
              generalize hgn_g29 : upd g21 _ _ = g29 at h9
              have a_h1 := hm.at a_h1 (by decide)
              have a_b13 := h9
              refine lv_aload_n hx hb dX6_keep_146 rfl (lv_at hl 1 rfl) ?_
              refine lv_bipush (v := 61) hx hb dX6_keep_147 (by decide) ?_
              refine lv_aload_n hx hb dX6_keep_149 rfl (lv_at hl 2 rfl) ?_
              refine iv_getr X ft_X5 hB a_h1 sh_5 9 (by decide) rfl k_fl_X6_61 dX6_keep_150 (fun b30 g_b30 r_b30 e_b30 a_b30 => ?_)
              refine iv_geti X ft_X8 hB a_b30 sh_13 2 (by decide) rfl k_fl_X6_58 dX6_keep_153 (fun x31 e_x31 i_x31 => ?_)
              refine iv_ast X hB a_b13 sh_27 (iv_in q_61 (by decide)) (i_x31.wk (by decide)) dX6_keep_156 (fun H locs hB => ?_)
              have hm := iv_Md.ast (j := (61 : Int32).toNatClampNeg) (x := x31) a_b13 rfl (by decide)
              have h9 := iv_up_eq (G := G28) (a := b13) (k := (27, upd g29 (61 : Int32).toNatClampNeg x31, r22))
              generalize iv_up G28 b13 _ = G32 at hB hm h9
              have hM := hM.stp hm (by decide)
              generalize hgn_g33 : upd g29 _ _ = g33 at h9
              have a_h1 := hm.at a_h1 (by decide)
              have a_b13 := h9
              refine lv_aload_n hx hb dX6_keep_157 rfl (lv_at hl 1 rfl) ?_
              refine lv_bipush (v := 62) hx hb dX6_keep_158 (by decide) ?_
              refine lv_aload_n hx hb dX6_keep_160 rfl (lv_at hl 2 rfl) ?_
              refine iv_geti X ft_X5 hB a_h1 sh_5 6 (by decide) rfl k_fl_X6_64 dX6_keep_161 (fun x34 e_x34 i_x34 => ?_)
              refine iv_ast X hB a_b13 sh_27 (iv_in q_62 (by decide)) i_x34 dX6_keep_164 (fun H locs hB => ?_)
              have hm := iv_Md.ast (j := (62 : Int32).toNatClampNeg) (x := x34) a_b13 rfl (by decide)
              have h9 := iv_up_eq (G := G32) (a := b13) (k := (27, upd g33 (62 : Int32).toNatClampNeg x34, r22))
              generalize iv_up G32 b13 _ = G35 at hB hm h9
              have hM := hM.stp hm (by decide)
              generalize hgn_g36 : upd g33 _ _ = g36 at h9
              have a_h1 := hm.at a_h1 (by decide)
              have a_b13 := h9
              refine lv_aload_n hx hb dX6_keep_165 rfl (lv_at hl 1 rfl) ?_
              refine lv_bipush (v := 63) hx hb dX6_keep_166 (by decide) ?_
              refine lv_aload_n hx hb dX6_keep_168 rfl (lv_at hl 2 rfl) ?_
              refine iv_geti X ft_X5 hB a_h1 sh_5 4 (by decide) rfl k_fl_X6_67 dX6_keep_169 (fun x37 e_x37 i_x37 => ?_)
              refine iv_ast X hB a_b13 sh_27 (iv_in q_63 (by decide)) i_x37 dX6_keep_172 (fun H locs hB => ?_)
              have hm := iv_Md.ast (j := (63 : Int32).toNatClampNeg) (x := x37) a_b13 rfl (by decide)
              have h9 := iv_up_eq (G := G35) (a := b13) (k := (27, upd g36 (63 : Int32).toNatClampNeg x37, r22))
              generalize iv_up G35 b13 _ = G38 at hB hm h9
              have hM := hM.stp hm (by decide)
              generalize hgn_g39 : upd g36 _ _ = g39 at h9
              have a_h1 := hm.at a_h1 (by decide)
              have a_b13 := h9
              refine lv_aload_n hx hb dX6_keep_173 rfl (lv_at hl 1 rfl) ?_
              refine lv_bipush (v := 64) hx hb dX6_keep_174 (by decide) ?_
              refine lv_aload_n hx hb dX6_keep_176 rfl (lv_at hl 2 rfl) ?_
              refine iv_geti X ft_X5 hB a_h1 sh_5 7 (by decide) rfl k_fl_X6_70 dX6_keep_177 (fun x40 e_x40 i_x40 => ?_)
              refine iv_ast X hB a_b13 sh_27 (iv_in q_64 (by decide)) i_x40 dX6_keep_180 (fun H locs hB => ?_)
              have hm := iv_Md.ast (j := (64 : Int32).toNatClampNeg) (x := x40) a_b13 rfl (by decide)
              have h9 := iv_up_eq (G := G38) (a := b13) (k := (27, upd g39 (64 : Int32).toNatClampNeg x40, r22))
              generalize iv_up G38 b13 _ = G41 at hB hm h9
              have hM := hM.stp hm (by decide)
              generalize hgn_g42 : upd g39 _ _ = g42 at h9
              have a_h1 := hm.at a_h1 (by decide)
              have a_b13 := h9
              exact iv_vret X hr hlocks hB hM dX6_keep_181
            · skip
              have i42_x20 : iv_R 0 19 x20 := (i_x20.cutHi (n := 19) (iv_lt_r (iv_nle c24) q_20 (by decide)))
              refine lv_aload_n hx hb dX6_keep_114 rfl (lv_at hl 1 rfl) ?_
              refine lv_bipush (v := 40) hx hb dX6_keep_115 (by decide) ?_
              refine lv_iload_n hx hb dX6_keep_117 rfl (lv_at hl 0 rfl) ?_
              refine iv_iadd hx hb q_40 i42_x20 (lo := 40) (hi := 59) (by decide) dX6_keep_118 (fun x44 e_x44 i_x44 => ?_)
              refine lv_aload_n hx hb dX6_keep_119 rfl (lv_at hl 2 rfl) ?_
              refine iv_getr X ft_X5 hB a_h1 sh_5 8 (by decide) rfl k_fl_X6_49 dX6_keep_120 (fun b45 g_b45 r_b45 e_b45 a_b45 => ?_)
              refine lv_iload_n hx hb dX6_keep_123 rfl (lv_at hl 0 rfl) ?_
              refine lv_iconst (v := 1) hx hb dX6_keep_124 (by decide) ?_
              refine iv_cVi X k_good k_mf_X8_at k_im_X8_at k_sel_X8_at k_ml_X6_53 ft_X8 hB a_b45 sh_8 (As := [.int x20, .int 1]) (c_X8_at_8 l D tys base G23 b45 g_b45 r_b45 a_b45 x20 i42_x20 1 (q_1.wk (by decide))) ⟨rfl, rfl⟩ ⟨Nat.le_of_ble_eq_true rfl, Nat.le_of_ble_eq_true rfl⟩ ⟨Nat.le_of_ble_eq_true rfl, Nat.le_of_ble_eq_true rfl⟩ rfl rfl hl.1 (Nat.le_of_ble_eq_true rfl) dX6_keep_125 (fun x46 G9 H locs hq hB => ?_)
              obtain ⟨rfl, i_x46⟩ := hq
              refine iv_ast X hB a_b13 sh_27 (iv_in i_x44 (by decide)) i_x46 dX6_keep_128 (fun H locs hB => ?_)
              have hm := iv_Md.ast (j := x44.toNatClampNeg) (x := x46) a_b13 rfl (by decide)
              have h9 := iv_up_eq (G := G23) (a := b13) (k := (27, upd g21 x44.toNatClampNeg x46, r22))
              generalize iv_up G23 b13 _ = G47 at hB hm h9
              have hM := hM.stp hm (by decide)
              generalize hgn_g48 : upd g21 _ _ = g48 at h9
              have a_h1 := hm.at a_h1 (by decide)
              have a_b13 := h9
              refine iv_iinc hx hb i42_x20 (lo := 1) (hi := 20) (by decide) dX6_keep_129 hl (k := 0) rfl (by decide) (fun x49 ls e_x49 i_x49 hl => ?_)
              have hl : lv_has ls 5 [(3, .int x49), (2, .ref b13), (1, .ref h1)] := hl
              refine lv_goto (tgt := 108) hx hb dX6_keep_132 (by decide) ?_
              exact ih_108 G47 hM _ _ hB a_h1 g48 r22 a_b13 x49 (i_x49.wk (by decide)) (iv_mup (c := 1) i_x20 (by decide) (by decide) (by omega) hn_108) _ (lv_sub hl [0, 1, 2] rfl)
        exact L_108 _ G17 hM _ _ hB a_h1 g15 r16 a_b13 0 (q_0.wk (by decide)) (Nat.lt_succ_self _) _ (lv_sub hl [0, 1, 2] rfl)
      · skip
        have i49_x14 : iv_R 0 9 x14 := (i_x14.cutHi (n := 9) (iv_lt_r (iv_nle c18) q_10 (by decide)))
        refine lv_aload_n hx hb dX6_keep_46 rfl (lv_at hl 2 rfl) ?_
        refine iv_getr X ft_X5 hB a_h1 sh_5 0 (by decide) rfl k_fl_X6_29 dX6_keep_47 (fun b51 g_b51 r_b51 e_b51 a_b51 => ?_)
        refine lv_iload_n hx hb dX6_keep_50 rfl (lv_at hl 0 rfl) ?_
        refine iv_aald X hB a_b51 sh_40 (iv_in i49_x14 (by decide)) dX6_keep_51 (fun b52 g_b52 r_b52 e_b52 a_b52 => ?_)
        refine lv_astore (lv' := [(4, .ref b52), (3, .int x14), (2, .ref b13), (1, .ref h1)]) hx hb dX6_keep_52 hl (by decide) rfl (fun ls hl => ?_)
        refine lv_aload_n hx hb dX6_keep_54 rfl (lv_at hl 2 rfl) ?_
        refine lv_iload_n hx hb dX6_keep_55 rfl (lv_at hl 1 rfl) ?_
        refine lv_iconst (v := 4) hx hb dX6_keep_56 (by decide) ?_
        refine iv_imul hx hb i49_x14 q_4 (lo := 0) (hi := 36) (by decide) dX6_keep_57 (fun x53 e_x53 i_x53 => ?_)
        refine lv_aload hx hb dX6_keep_58 (lv_at hl 0 rfl) ?_
        refine iv_geti X ft_X1 hB a_b52 sh_1 3 (by decide) rfl k_fl_X6_35 dX6_keep_60 (fun x54 e_x54 i_x54 => ?_)
        refine iv_ast X hB a_b13 sh_27 (iv_in i_x53 (by decide)) i_x54 dX6_keep_63 (fun H locs hB => ?_)
        have hm := iv_Md.ast (j := x53.toNatClampNeg) (x := x54) a_b13 rfl (by decide)
        have h9 := iv_up_eq (G := G17) (a := b13) (k := (27, upd g15 x53.toNatClampNeg x54, r16))
        generalize iv_up G17 b13 _ = G55 at hB hm h9
        have hM := hM.stp hm (by decide)
        generalize hgn_g56 : upd g15 _ _ = g56 at h9
        have a_h1 := hm.at a_h1 (by decide)
        have a_b52 := hm.at a_b52 (by decide)
        have a_b13 := h9
        refine lv_aload_n hx hb dX6_keep_64 rfl (lv_at hl 2 rfl) ?_
        refine lv_iload_n hx hb dX6_keep_65 rfl (lv_at hl 1 rfl) ?_
        refine lv_iconst (v := 4) hx hb dX6_keep_66 (by decide) ?_
        refine iv_imul hx hb i49_x14 q_4 (lo := 0) (hi := 36) (by decide) dX6_keep_67 (fun x57 e_x57 i_x57 => ?_)
        refine lv_iconst (v := 1) hx hb dX6_keep_68 (by decide) ?_
        refine iv_iadd hx hb i_x57 q_1 (lo := 1) (hi := 37) (by decide) dX6_keep_69 (fun x58 e_x58 i_x58 => ?_)
        refine lv_aload hx hb dX6_keep_70 (lv_at hl 0 rfl) ?_
        refine iv_geti X ft_X1 hB a_b52 sh_1 5 (by decide) rfl k_fl_X6_40 dX6_keep_72 (fun x59 e_x59 i_x59 => ?_)
        refine iv_ast X hB a_b13 sh_27 (iv_in i_x58 (by decide)) i_x59 dX6_keep_75 (fun H locs hB => ?_)
        have hm := iv_Md.ast (j := x58.toNatClampNeg) (x := x59) a_b13 rfl (by decide)
        have h9 := iv_up_eq (G := G55) (a := b13) (k := (27, upd g56 x58.toNatClampNeg x59, r16))
        generalize iv_up G55 b13 _ = G60 at hB hm h9
        have hM := hM.stp hm (by decide)
        generalize hgn_g61 : upd g56 _ _ = g61 at h9
        have a_h1 := hm.at a_h1 (by decide)
        have a_b52 := hm.at a_b52 (by decide)
        have a_b13 := h9
        refine lv_aload_n hx hb dX6_keep_76 rfl (lv_at hl 2 rfl) ?_
        refine lv_iload_n hx hb dX6_keep_77 rfl (lv_at hl 1 rfl) ?_
        refine lv_iconst (v := 4) hx hb dX6_keep_78 (by decide) ?_
        refine iv_imul hx hb i49_x14 q_4 (lo := 0) (hi := 36) (by decide) dX6_keep_79 (fun x62 e_x62 i_x62 => ?_)
        refine lv_iconst (v := 2) hx hb dX6_keep_80 (by decide) ?_
        refine iv_iadd hx hb i_x62 q_2 (lo := 2) (hi := 38) (by decide) dX6_keep_81 (fun x63 e_x63 i_x63 => ?_)
        refine lv_aload hx hb dX6_keep_82 (lv_at hl 0 rfl) ?_
        refine iv_geti X ft_X1 hB a_b52 sh_1 6 (by decide) rfl k_fl_X6_43 dX6_keep_84 (fun x64 e_x64 i_x64 => ?_)
        refine iv_ast X hB a_b13 sh_27 (iv_in i_x63 (by decide)) i_x64 dX6_keep_87 (fun H locs hB => ?_)
        have hm := iv_Md.ast (j := x63.toNatClampNeg) (x := x64) a_b13 rfl (by decide)
        have h9 := iv_up_eq (G := G60) (a := b13) (k := (27, upd g61 x63.toNatClampNeg x64, r16))
        generalize iv_up G60 b13 _ = G65 at hB hm h9
        have hM := hM.stp hm (by decide)
        generalize hgn_g66 : upd g61 _ _ = g66 at h9
        have a_h1 := hm.at a_h1 (by decide)
        have a_b52 := hm.at a_b52 (by decide)
        have a_b13 := h9
        refine lv_aload_n hx hb dX6_keep_88 rfl (lv_at hl 2 rfl) ?_
        refine lv_iload_n hx hb dX6_keep_89 rfl (lv_at hl 1 rfl) ?_
        refine lv_iconst (v := 4) hx hb dX6_keep_90 (by decide) ?_
        refine iv_imul hx hb i49_x14 q_4 (lo := 0) (hi := 36) (by decide) dX6_keep_91 (fun x67 e_x67 i_x67 => ?_)
        refine lv_iconst (v := 3) hx hb dX6_keep_92 (by decide) ?_
        refine iv_iadd hx hb i_x67 q_3 (lo := 3) (hi := 39) (by decide) dX6_keep_93 (fun x68 e_x68 i_x68 => ?_)
        refine lv_aload hx hb dX6_keep_94 (lv_at hl 0 rfl) ?_
        refine iv_geti X ft_X1 hB a_b52 sh_1 7 (by decide) rfl k_fl_X6_46 dX6_keep_96 (fun x69 e_x69 i_x69 => ?_)
        refine iv_ast X hB a_b13 sh_27 (iv_in i_x68 (by decide)) i_x69 dX6_keep_99 (fun H locs hB => ?_)
        have hm := iv_Md.ast (j := x68.toNatClampNeg) (x := x69) a_b13 rfl (by decide)
        have h9 := iv_up_eq (G := G65) (a := b13) (k := (27, upd g66 x68.toNatClampNeg x69, r16))
        generalize iv_up G65 b13 _ = G70 at hB hm h9
        have hM := hM.stp hm (by decide)
        generalize hgn_g71 : upd g66 _ _ = g71 at h9
        have a_h1 := hm.at a_h1 (by decide)
        have a_b52 := hm.at a_b52 (by decide)
        have a_b13 := h9
        refine iv_iinc hx hb i49_x14 (lo := 1) (hi := 10) (by decide) dX6_keep_100 hl (k := 1) rfl (by decide) (fun x72 ls e_x72 i_x72 hl => ?_)
        have hl : lv_has ls 5 [(3, .int x72), (4, .ref b52), (2, .ref b13), (1, .ref h1)] := hl
        refine lv_goto (tgt := 40) hx hb dX6_keep_103 (by decide) ?_
        exact ih_40 G70 hM _ _ hB a_h1 g71 r16 a_b13 x72 (i_x72.wk (by decide)) (iv_mup (c := 1) i_x14 (by decide) (by decide) (by omega) hn_40) _ (lv_sub hl [0, 2, 3] rfl)
  exact L_40 _ G9 hM _ _ hB a_h1 g_b13 r_b13 a_b13 0 (q_0.wk (by decide)) (Nat.lt_succ_self _) _ (lv_sub hl [0, 1, 3] rfl)
theorem dX11_days_0 : decode cX11_days 0 = .ok (.iload_n 1, 1) := by decide +kernel
theorem dX11_days_1 : decode cX11_days 1 = .ok (.iconst 1, 1) := by decide +kernel
theorem dX11_days_2 : decode cX11_days 2 = .ok (.bipush 60, 2) := by decide +kernel
theorem dX11_days_4 : decode cX11_days 4 = .ok (.invokestatic 83, 3) := by decide +kernel
theorem dX11_days_7 : decode cX11_days 7 = .ok (.ifCond .eq 18, 3) := by decide +kernel
theorem dX11_days_10 : decode cX11_days 10 = .ok (.aload_n 0, 1) := by decide +kernel
theorem dX11_days_11 : decode cX11_days 11 = .ok (.getfield 12, 3) := by decide +kernel
theorem dX11_days_14 : decode cX11_days 14 = .ok (.getfield 141, 3) := by decide +kernel
theorem dX11_days_17 : decode cX11_days 17 = .ok (.iload_n 1, 1) := by decide +kernel
theorem dX11_days_18 : decode cX11_days 18 = .ok (.iadd, 1) := by decide +kernel
theorem dX11_days_19 : decode cX11_days 19 = .ok (.sipush 9999, 3) := by decide +kernel
theorem dX11_days_22 : decode cX11_days 22 = .ok (.if_icmp .le 5, 3) := by decide +kernel
theorem dX11_days_25 : decode cX11_days 25 = .ok (.iconst (-1), 1) := by decide +kernel
theorem dX11_days_26 : decode cX11_days 26 = .ok (.ireturn, 1) := by decide +kernel
theorem dX11_days_27 : decode cX11_days 27 = .ok (.aload_n 0, 1) := by decide +kernel
theorem dX11_days_28 : decode cX11_days 28 = .ok (.getfield 12, 3) := by decide +kernel
theorem dX11_days_31 : decode cX11_days 31 = .ok (.getfield 152, 3) := by decide +kernel
theorem dX11_days_34 : decode cX11_days 34 = .ok (.getfield 166, 3) := by decide +kernel
theorem dX11_days_37 : decode cX11_days 37 = .ok (.istore_n 2, 1) := by decide +kernel
theorem dX11_days_38 : decode cX11_days 38 = .ok (.iconst 0, 1) := by decide +kernel
theorem dX11_days_39 : decode cX11_days 39 = .ok (.istore_n 3, 1) := by decide +kernel
theorem dX11_days_40 : decode cX11_days 40 = .ok (.iload_n 3, 1) := by decide +kernel
theorem dX11_days_41 : decode cX11_days 41 = .ok (.iload_n 1, 1) := by decide +kernel
theorem dX11_days_42 : decode cX11_days 42 = .ok (.if_icmp .ge 27, 3) := by decide +kernel
theorem dX11_days_45 : decode cX11_days 45 = .ok (.aload_n 0, 1) := by decide +kernel
theorem dX11_days_46 : decode cX11_days 46 = .ok (.getfield 22, 3) := by decide +kernel
theorem dX11_days_49 : decode cX11_days 49 = .ok (.aload_n 0, 1) := by decide +kernel
theorem dX11_days_50 : decode cX11_days 50 = .ok (.getfield 12, 3) := by decide +kernel
theorem dX11_days_53 : decode cX11_days 53 = .ok (.invokevirtual 134, 3) := by decide +kernel
theorem dX11_days_56 : decode cX11_days 56 = .ok (.aload_n 0, 1) := by decide +kernel
theorem dX11_days_57 : decode cX11_days 57 = .ok (.getfield 51, 3) := by decide +kernel
theorem dX11_days_60 : decode cX11_days 60 = .ok (.invokevirtual 169, 3) := by decide +kernel
theorem dX11_days_63 : decode cX11_days 63 = .ok (.iinc 3 1, 3) := by decide +kernel
theorem dX11_days_66 : decode cX11_days 66 = .ok (.goto (-26), 3) := by decide +kernel
theorem dX11_days_69 : decode cX11_days 69 = .ok (.aload_n 0, 1) := by decide +kernel
theorem dX11_days_70 : decode cX11_days 70 = .ok (.getfield 12, 3) := by decide +kernel
theorem dX11_days_73 : decode cX11_days 73 = .ok (.getfield 152, 3) := by decide +kernel
theorem dX11_days_76 : decode cX11_days 76 = .ok (.getfield 166, 3) := by decide +kernel
theorem dX11_days_79 : decode cX11_days 79 = .ok (.iload_n 2, 1) := by decide +kernel
theorem dX11_days_80 : decode cX11_days 80 = .ok (.isub, 1) := by decide +kernel
theorem dX11_days_81 : decode cX11_days 81 = .ok (.ireturn, 1) := by decide +kernel
set_option maxHeartbeats 4000000 in
set_option maxRecDepth 100000 in
theorem c_X11_days (l : Launch) (D : va_G) (tys : List (ClassId × FieldType)) (base : Nat) (G : iv_G) (h0 : Nat) (g_h0 : Nat → Int32) (r_h0 : Nat → Nat) (a_h0 : G h0 = some (11, g_h0, r_h0)) (x_0 : Int32) (i_x_0 : iv_R (-2147483648) 2147483647 x_0) : Met l yX11_days (Cond.code yX11_days cX11_days 4 (some .int) :: iv_W0) ({ frames := 7, cells := 0, slots := 0, locals := 179 }) (iv_Pc iv_sh D classes tys base G [.ref h0, .int x_0]) (iv_Qi iv_sh D classes tys base (fun v G' => iv_Md [1, 5, 6, 8, 13, 22, 23, 27, 28, 30] G G' ∧ iv_R (-20) 20 v)) 0 0 (iv_A base) := by
  refine iv_head (by decide) (Nat.le_of_ble_eq_true rfl) ?_
  intro p e s m args below meth c ls X hr hlocks hname hB hl
  have X := X
  have hx := X.1.1
  have hb := X.1.2.1
  have hM : iv_Md [1, 5, 6, 8, 13, 22, 23, 27, 28, 30] G G := iv_Md.rf
  have hl : lv_has ls 4 [(0, .ref h0), (1, .int x_0)] := hl
  refine lv_iload_n hx hb dX11_days_0 rfl (lv_at hl 1 rfl) ?_
  refine lv_iconst (v := 1) hx hb dX11_days_1 (by decide) ?_
  refine lv_bipush (v := 60) hx hb dX11_days_2 (by decide) ?_
  refine iv_cSi X k_good k_mf_X11_isWithin k_st_X11_isWithin k_ml_X11_83 hB (As := [.int x_0, .int 1, .int 60]) (c_X11_isWithin l D tys base G x_0 i_x_0 1 (q_1.wk (by decide)) 60 (q_60.wk (by decide))) ⟨rfl, rfl⟩ ⟨Nat.le_of_ble_eq_true rfl, Nat.le_of_ble_eq_true rfl⟩ ⟨Nat.le_of_ble_eq_true rfl, Nat.le_of_ble_eq_true rfl⟩ rfl rfl hl.1 (Nat.le_of_ble_eq_true rfl) dX11_days_4 (fun x1 G9 H locs hq hB => ?_)
  obtain ⟨rfl, i_x1, hp2⟩ := hq
  have k3 : ¬ x1 = 0 → iv_R 1 60 x_0 := fun h => ⟨iv_max i_x_0.1 (Int.le_trans q_1.1 (hp2.1 h).1) (by decide), iv_min i_x_0.2 (Int.le_trans (hp2.1 h).2 q_60.2) (by decide)⟩
  refine lv_if_eq (tgt := 25) hx hb dX11_days_7 (by decide) (fun c4 => ?_) (fun c4 => ?_)
  · skip
    have i4_x1 : iv_R 0 0 x1 := (i_x1.cutHi (n := 0) (iv_eq_r c4 q_0).2)
    refine lv_iconst (v := (-1)) hx hb dX11_days_25 (by decide) ?_
    exact iv_iret X hr hlocks hB ⟨hM, (q_n1.wk (by decide))⟩ dX11_days_26
  · skip
    have i5_x1 : iv_R 1 1 x1 := iv_ne_lo c4 i_x1 q_0 (by decide)
    have i6_x_0 : iv_R 1 60 x_0 := ((i_x_0.cutLo (n := 1) (k3 c4).1).cutHi (n := 60) (k3 c4).2)
    refine lv_aload_n hx hb dX11_days_10 rfl (lv_at hl 0 rfl) ?_
    refine iv_getr X ft_X11 hB a_h0 sh_11 0 (by decide) rfl k_fl_X11_12 dX11_days_11 (fun b8 g_b8 r_b8 e_b8 a_b8 => ?_)
    refine iv_geti X ft_X5 hB a_b8 sh_5 6 (by decide) rfl k_fl_X11_141 dX11_days_14 (fun x9 e_x9 i_x9 => ?_)
    refine lv_iload_n hx hb dX11_days_17 rfl (lv_at hl 1 rfl) ?_
    refine lv_iadd hx hb dX11_days_18 ?_
    refine lv_topi (fun x10 e_x10 => ?_)
    have i_x10 := iv_R.all x10
    refine lv_sipush (v := 9999) hx hb dX11_days_19 (by decide) ?_
    refine lv_icmp_le (tgt := 27) hx hb dX11_days_22 (by decide) (fun c11 => ?_) (fun c11 => ?_)
    · skip
      have i11_x10 : iv_R (-2147483648) 9999 x10 := (i_x10.cutHi (n := 9999) (iv_le_r c11 q_9999))
      refine lv_aload_n hx hb dX11_days_27 rfl (lv_at hl 0 rfl) ?_
      refine iv_getr0 X ft_X11 hB a_h0 sh_11 0 (by decide) rfl k_fl_X11_12 dX11_days_28 e_b8 ?_
      refine iv_getr X ft_X5 hB a_b8 sh_5 8 (by decide) rfl k_fl_X11_152 dX11_days_31 (fun b13 g_b13 r_b13 e_b13 a_b13 => ?_)
      refine iv_geti X ft_X8 hB a_b13 sh_8 2 (by decide) rfl k_fl_X11_166 dX11_days_34 (fun x14 e_x14 i_x14 => ?_)
      refine lv_istore_n (lv' := [(2, .int x14), (0, .ref h0), (1, .int x_0)]) hx hb dX11_days_37 rfl hl (by decide) rfl (fun ls hl => ?_)
      refine lv_iconst (v := 0) hx hb dX11_days_38 (by decide) ?_
      refine lv_istore_n (lv' := [(3, .int 0), (2, .int x14), (0, .ref h0), (1, .int x_0)]) hx hb dX11_days_39 rfl hl (by decide) rfl (fun ls hl => ?_)
      have L_40 : ∀ (n_40 : Nat) (G16 : iv_G) (hM : iv_Md [1, 5, 6, 8, 13, 22, 23, 27, 28, 30] G G16) (H : Heap) (locs : List Loc) (hB : iv_B iv_sh D classes tys base G16 s.heap H locs) (a_h0 : G16 h0 = some (11, g_h0, r_h0)) (x15 : Int32) (i_x15 : iv_R 0 60 x15) (hn_40 : (61 - x15.toInt).toNat < n_40) (ls : Array Slot) (hl : lv_has ls 4 [(3, .int x15), (2, .int x14), (0, .ref h0), (1, .int x_0)]), W p l e ({ frames := 7, cells := 0, slots := 0, locals := 179 } : Room) s m args below meth c H locs 0 0 (MQ below (iv_Qi iv_sh D classes tys base (fun v G' => iv_Md [1, 5, 6, 8, 13, 22, 23, 27, 28, 30] G G' ∧ iv_R (-20) 20 v)) args s 0 0 (iv_A base)) (F0 m 40 ls []) := by
        intro n_40
        induction n_40 with
        | zero => intro G16 hM H locs hB a_h0 x15 i_x15 hn_40 ls hl; exact absurd hn_40 (Nat.not_lt_zero _)
        | succ n_40 ih_40 =>
          intro G16 hM H locs hB a_h0 x15 i_x15 hn_40 ls hl
          refine lv_iload_n hx hb dX11_days_40 rfl (lv_at hl 0 rfl) ?_
          refine lv_iload_n hx hb dX11_days_41 rfl (lv_at hl 3 rfl) ?_
          refine lv_icmp_ge (tgt := 69) hx hb dX11_days_42 (by decide) (fun c17 => ?_) (fun c17 => ?_)
          · skip
            have i17_x15 : iv_R 1 60 x15 := (i_x15.cutLo (n := 1) (iv_le_l c17 i6_x_0))
            refine lv_aload_n hx hb dX11_days_69 rfl (lv_at hl 2 rfl) ?_
            refine iv_getr X ft_X11 hB a_h0 sh_11 0 (by decide) rfl k_fl_X11_12 dX11_days_70 (fun b19 g_b19 r_b19 e_b19 a_b19 => ?_)
            refine iv_getr X ft_X5 hB a_b19 sh_5 8 (by decide) rfl k_fl_X11_152 dX11_days_73 (fun b20 g_b20 r_b20 e_b20 a_b20 => ?_)
            refine iv_geti X ft_X8 hB a_b20 sh_8 2 (by decide) rfl k_fl_X11_166 dX11_days_76 (fun x21 e_x21 i_x21 => ?_)
            refine lv_iload_n hx hb dX11_days_79 rfl (lv_at hl 1 rfl) ?_
            refine iv_isub hx hb i_x21 i_x14 (lo := (-20)) (hi := 20) (by decide) dX11_days_80 (fun x22 e_x22 i_x22 => ?_)
            exact iv_iret X hr hlocks hB ⟨hM, i_x22⟩ dX11_days_81
          · skip
            have i22_x15 : iv_R 0 59 x15 := (i_x15.cutHi (n := 59) (iv_lt_r (iv_nle c17) i6_x_0 (by decide)))
            refine lv_aload_n hx hb dX11_days_45 rfl (lv_at hl 2 rfl) ?_
            refine iv_getr X ft_X11 hB a_h0 sh_11 3 (by decide) rfl k_fl_X11_22 dX11_days_46 (fun b24 g_b24 r_b24 e_b24 a_b24 => ?_)
            refine lv_aload_n hx hb dX11_days_49 rfl (lv_at hl 2 rfl) ?_
            refine iv_getr X ft_X11 hB a_h0 sh_11 0 (by decide) rfl k_fl_X11_12 dX11_days_50 (fun b25 g_b25 r_b25 e_b25 a_b25 => ?_)
            refine iv_cVv X k_good k_mf_X6_keep k_im_X6_keep k_sel_X6_keep k_ml_X11_134 ft_X6 hB a_b24 sh_6 (As := [.ref b25]) (c_X6_keep l D tys base G16 b24 g_b24 r_b24 a_b24 b25 g_b25 r_b25 a_b25) ⟨rfl, rfl⟩ ⟨Nat.le_of_ble_eq_true rfl, Nat.le_of_ble_eq_true rfl⟩ ⟨Nat.le_of_ble_eq_true rfl, Nat.le_of_ble_eq_true rfl⟩ rfl rfl hl.1 (Nat.le_of_ble_eq_true rfl) dX11_days_53 (fun G9 H locs hq hB => ?_)
            have hm := hq
            obtain ⟨G26, hG9⟩ : ∃ g, g = G9 := ⟨_, rfl⟩
            rw [← hG9] at hm hB
            have hM := hM.stp hm (by decide)
            have a_h0 := hm.at a_h0 (by decide)
            refine lv_aload_n hx hb dX11_days_56 rfl (lv_at hl 2 rfl) ?_
            refine iv_getr X ft_X11 hB a_h0 sh_11 8 (by decide) rfl k_fl_X11_51 dX11_days_57 (fun b27 g_b27 r_b27 e_b27 a_b27 => ?_)
            refine iv_cVv X k_good k_mf_X0_passDay k_im_X0_passDay k_sel_X0_passDay k_ml_X11_169 ft_X0 hB a_b27 sh_0 (As := []) (c_X0_passDay l D tys base G26 b27 g_b27 r_b27 a_b27) ⟨rfl, rfl⟩ ⟨Nat.le_of_ble_eq_true rfl, Nat.le_of_ble_eq_true rfl⟩ ⟨Nat.le_of_ble_eq_true rfl, Nat.le_of_ble_eq_true rfl⟩ rfl rfl hl.1 (Nat.le_of_ble_eq_true rfl) dX11_days_60 (fun G9 H locs hq hB => ?_)
            have hm := hq
            obtain ⟨G28, hG9⟩ : ∃ g, g = G9 := ⟨_, rfl⟩
            rw [← hG9] at hm hB
            have hM := hM.stp hm (by decide)
            have a_h0 := hm.at a_h0 (by decide)
            refine iv_iinc hx hb i22_x15 (lo := 1) (hi := 60) (by decide) dX11_days_63 hl (k := 0) rfl (by decide) (fun x29 ls e_x29 i_x29 hl => ?_)
            have hl : lv_has ls 4 [(3, .int x29), (2, .int x14), (0, .ref h0), (1, .int x_0)] := hl
            refine lv_goto (tgt := 40) hx hb dX11_days_66 (by decide) ?_
            exact ih_40 G28 hM _ _ hB a_h0 x29 (i_x29.wk (by decide)) (iv_mup (c := 1) i_x15 (by decide) (by decide) (by omega) hn_40) _ (lv_sub hl [0, 1, 2, 3] rfl)
      exact L_40 _ G hM _ _ hB a_h0 0 (q_0.wk (by decide)) (Nat.lt_succ_self _) _ (lv_sub hl [0, 1, 2, 3] rfl)
    · skip
      have i29_x10 : iv_R 10000 2147483647 x10 := (i_x10.cutLo (n := 10000) (iv_lt_l (iv_nle c11) q_9999 (by decide)))
      refine lv_iconst (v := (-1)) hx hb dX11_days_25 (by decide) ?_
      exact iv_iret X hr hlocks hB ⟨hM, (q_n1.wk (by decide))⟩ dX11_days_26
theorem dX11_eldest_0 : decode cX11_eldest 0 = .ok (.aload_n 0, 1) := by decide +kernel
theorem dX11_eldest_1 : decode cX11_eldest 1 = .ok (.getfield 12, 3) := by decide +kernel
theorem dX11_eldest_4 : decode cX11_eldest 4 = .ok (.iload_n 1, 1) := by decide +kernel
theorem dX11_eldest_5 : decode cX11_eldest 5 = .ok (.invokevirtual 119, 3) := by decide +kernel
theorem dX11_eldest_8 : decode cX11_eldest 8 = .ok (.ifCond .eq 12, 3) := by decide +kernel
theorem dX11_eldest_11 : decode cX11_eldest 11 = .ok (.iload_n 2, 1) := by decide +kernel
theorem dX11_eldest_12 : decode cX11_eldest 12 = .ok (.ifCond .eq 10, 3) := by decide +kernel
theorem dX11_eldest_15 : decode cX11_eldest 15 = .ok (.iload_n 2, 1) := by decide +kernel
theorem dX11_eldest_16 : decode cX11_eldest 16 = .ok (.iconst 1, 1) := by decide +kernel
theorem dX11_eldest_17 : decode cX11_eldest 17 = .ok (.if_icmp .eq 5, 3) := by decide +kernel
theorem dX11_eldest_20 : decode cX11_eldest 20 = .ok (.iconst (-1), 1) := by decide +kernel
theorem dX11_eldest_21 : decode cX11_eldest 21 = .ok (.ireturn, 1) := by decide +kernel
theorem dX11_eldest_22 : decode cX11_eldest 22 = .ok (.iconst 0, 1) := by decide +kernel
theorem dX11_eldest_23 : decode cX11_eldest 23 = .ok (.istore_n 3, 1) := by decide +kernel
theorem dX11_eldest_24 : decode cX11_eldest 24 = .ok (.iload_n 3, 1) := by decide +kernel
theorem dX11_eldest_25 : decode cX11_eldest 25 = .ok (.aload_n 0, 1) := by decide +kernel
theorem dX11_eldest_26 : decode cX11_eldest 26 = .ok (.getfield 12, 3) := by decide +kernel
theorem dX11_eldest_29 : decode cX11_eldest 29 = .ok (.getfield 152, 3) := by decide +kernel
theorem dX11_eldest_32 : decode cX11_eldest 32 = .ok (.getfield 166, 3) := by decide +kernel
theorem dX11_eldest_35 : decode cX11_eldest 35 = .ok (.if_icmp .ge 27, 3) := by decide +kernel
theorem dX11_eldest_38 : decode cX11_eldest 38 = .ok (.aload_n 0, 1) := by decide +kernel
theorem dX11_eldest_39 : decode cX11_eldest 39 = .ok (.getfield 12, 3) := by decide +kernel
theorem dX11_eldest_42 : decode cX11_eldest 42 = .ok (.getfield 152, 3) := by decide +kernel
theorem dX11_eldest_45 : decode cX11_eldest 45 = .ok (.iload_n 3, 1) := by decide +kernel
theorem dX11_eldest_46 : decode cX11_eldest 46 = .ok (.iload_n 2, 1) := by decide +kernel
theorem dX11_eldest_47 : decode cX11_eldest 47 = .ok (.invokevirtual 158, 3) := by decide +kernel
theorem dX11_eldest_50 : decode cX11_eldest 50 = .ok (.iload_n 1, 1) := by decide +kernel
theorem dX11_eldest_51 : decode cX11_eldest 51 = .ok (.if_icmp .ne 5, 3) := by decide +kernel
theorem dX11_eldest_54 : decode cX11_eldest 54 = .ok (.iload_n 3, 1) := by decide +kernel
theorem dX11_eldest_55 : decode cX11_eldest 55 = .ok (.ireturn, 1) := by decide +kernel
theorem dX11_eldest_56 : decode cX11_eldest 56 = .ok (.iinc 3 1, 3) := by decide +kernel
theorem dX11_eldest_59 : decode cX11_eldest 59 = .ok (.goto (-35), 3) := by decide +kernel
theorem dX11_eldest_62 : decode cX11_eldest 62 = .ok (.iconst (-1), 1) := by decide +kernel
theorem dX11_eldest_63 : decode cX11_eldest 63 = .ok (.ireturn, 1) := by decide +kernel
set_option maxHeartbeats 4000000 in
set_option maxRecDepth 100000 in
theorem c_X11_eldest (l : Launch) (D : va_G) (tys : List (ClassId × FieldType)) (base : Nat) (G : iv_G) (h0 : Nat) (g_h0 : Nat → Int32) (r_h0 : Nat → Nat) (a_h0 : G h0 = some (11, g_h0, r_h0)) (x_0 : Int32) (i_x_0 : iv_R (-2147483648) 2147483647 x_0) (x_1 : Int32) (i_x_1 : iv_R (-2147483648) 2147483647 x_1) : Met l yX11_eldest (Cond.code yX11_eldest cX11_eldest 4 (some .int) :: iv_W0) ({ frames := 2, cells := 0, slots := 0, locals := 44 }) (iv_Pc iv_sh D classes tys base G [.ref h0, .int x_0, .int x_1]) (iv_Qi iv_sh D classes tys base (fun v G' => G = G' ∧ iv_R (-1) 19 v)) 0 0 (iv_A base) := by
  refine iv_head (by decide) (Nat.le_of_ble_eq_true rfl) ?_
  intro p e s m args below meth c ls X hr hlocks hname hB hl
  have X := X
  have hx := X.1.1
  have hb := X.1.2.1
  have hl : lv_has ls 4 [(0, .ref h0), (1, .int x_0), (2, .int x_1)] := hl
  refine lv_aload_n hx hb dX11_eldest_0 rfl (lv_at hl 0 rfl) ?_
  refine iv_getr X ft_X11 hB a_h0 sh_11 0 (by decide) rfl k_fl_X11_12 dX11_eldest_1 (fun b1 g_b1 r_b1 e_b1 a_b1 => ?_)
  refine lv_iload_n hx hb dX11_eldest_4 rfl (lv_at hl 1 rfl) ?_
  refine iv_cVi X k_good k_mf_X5_hasBell k_im_X5_hasBell k_sel_X5_hasBell k_ml_X11_119 ft_X5 hB a_b1 sh_5 (As := [.int x_0]) (c_X5_hasBell l D tys base G b1 g_b1 r_b1 a_b1 x_0 i_x_0) ⟨rfl, rfl⟩ ⟨Nat.le_of_ble_eq_true rfl, Nat.le_of_ble_eq_true rfl⟩ ⟨Nat.le_of_ble_eq_true rfl, Nat.le_of_ble_eq_true rfl⟩ rfl rfl hl.1 (Nat.le_of_ble_eq_true rfl) dX11_eldest_5 (fun x2 G9 H locs hq hB => ?_)
  obtain ⟨rfl, i_x2, hp3⟩ := hq
  refine lv_if_eq (tgt := 20) hx hb dX11_eldest_8 (by decide) (fun c4 => ?_) (fun c4 => ?_)
  · skip
    have i4_x2 : iv_R 0 0 x2 := (i_x2.cutHi (n := 0) (iv_eq_r c4 q_0).2)
    refine lv_iconst (v := (-1)) hx hb dX11_eldest_20 (by decide) ?_
    exact iv_iret X hr hlocks hB ⟨rfl, (q_n1.wk (by decide))⟩ dX11_eldest_21
  · skip
    have i5_x2 : iv_R 1 1 x2 := iv_ne_lo c4 i_x2 q_0 (by decide)
    have i6_x_0 : iv_R 0 9 x_0 := ((i_x_0.cutLo (n := 0) (hp3 c4).1).cutHi (n := 9) (hp3 c4).2)
    refine lv_iload_n hx hb dX11_eldest_11 rfl (lv_at hl 2 rfl) ?_
    refine lv_if_eq (tgt := 22) hx hb dX11_eldest_12 (by decide) (fun c8 => ?_) (fun c8 => ?_)
    · skip
      have i8_x_1 : iv_R 0 0 x_1 := ((i_x_1.cutLo (n := 0) (iv_eq_r c8 q_0).1).cutHi (n := 0) (iv_eq_r c8 q_0).2)
      refine lv_iconst (v := 0) hx hb dX11_eldest_22 (by decide) ?_
      refine lv_istore_n (lv' := [(3, .int 0), (0, .ref h0), (1, .int x_0), (2, .int x_1)]) hx hb dX11_eldest_23 rfl hl (by decide) rfl (fun ls hl => ?_)
      have L_24 : ∀ (n_24 : Nat) (H : Heap) (locs : List Loc) (hB : iv_B iv_sh D classes tys base G s.heap H locs) (x10 : Int32) (i_x10 : iv_R 0 20 x10) (hn_24 : (21 - x10.toInt).toNat < n_24) (ls : Array Slot) (hl : lv_has ls 4 [(3, .int x10), (0, .ref h0), (1, .int x_0), (2, .int x_1)]), W p l e ({ frames := 2, cells := 0, slots := 0, locals := 44 } : Room) s m args below meth c H locs 0 0 (MQ below (iv_Qi iv_sh D classes tys base (fun v G' => G = G' ∧ iv_R (-1) 19 v)) args s 0 0 (iv_A base)) (F0 m 24 ls []) := by
        intro n_24
        induction n_24 with
        | zero => intro H locs hB x10 i_x10 hn_24 ls hl; exact absurd hn_24 (Nat.not_lt_zero _)
        | succ n_24 ih_24 =>
          intro H locs hB x10 i_x10 hn_24 ls hl
          refine lv_iload_n hx hb dX11_eldest_24 rfl (lv_at hl 0 rfl) ?_
          refine lv_aload_n hx hb dX11_eldest_25 rfl (lv_at hl 1 rfl) ?_
          refine iv_getr0 X ft_X11 hB a_h0 sh_11 0 (by decide) rfl k_fl_X11_12 dX11_eldest_26 e_b1 ?_
          refine iv_getr X ft_X5 hB a_b1 sh_5 8 (by decide) rfl k_fl_X11_152 dX11_eldest_29 (fun b11 g_b11 r_b11 e_b11 a_b11 => ?_)
          refine iv_geti X ft_X8 hB a_b11 sh_8 2 (by decide) rfl k_fl_X11_166 dX11_eldest_32 (fun x12 e_x12 i_x12 => ?_)
          refine lv_icmp_ge (tgt := 62) hx hb dX11_eldest_35 (by decide) (fun c13 => ?_) (fun c13 => ?_)
          · skip
            refine lv_iconst (v := (-1)) hx hb dX11_eldest_62 (by decide) ?_
            exact iv_iret X hr hlocks hB ⟨rfl, (q_n1.wk (by decide))⟩ dX11_eldest_63
          · skip
            have i13_x10 : iv_R 0 19 x10 := (i_x10.cutHi (n := 19) (iv_lt_r (iv_nle c13) i_x12 (by decide)))
            have i14_x12 : iv_R 1 20 x12 := (i_x12.cutLo (n := 1) (iv_lt_l (iv_nle c13) i_x10 (by decide)))
            refine lv_aload_n hx hb dX11_eldest_38 rfl (lv_at hl 1 rfl) ?_
            refine iv_getr0 X ft_X11 hB a_h0 sh_11 0 (by decide) rfl k_fl_X11_12 dX11_eldest_39 e_b1 ?_
            refine iv_getr0 X ft_X5 hB a_b1 sh_5 8 (by decide) rfl k_fl_X11_152 dX11_eldest_42 e_b11 ?_
            refine lv_iload_n hx hb dX11_eldest_45 rfl (lv_at hl 0 rfl) ?_
            refine lv_iload_n hx hb dX11_eldest_46 rfl (lv_at hl 3 rfl) ?_
            refine iv_cVi X k_good k_mf_X8_at k_im_X8_at k_sel_X8_at k_ml_X11_158 ft_X8 hB a_b11 sh_8 (As := [.int x10, .int x_1]) (c_X8_at_8 l D tys base G b11 g_b11 r_b11 a_b11 x10 i13_x10 x_1 (i8_x_1.wk (by decide))) ⟨rfl, rfl⟩ ⟨Nat.le_of_ble_eq_true rfl, Nat.le_of_ble_eq_true rfl⟩ ⟨Nat.le_of_ble_eq_true rfl, Nat.le_of_ble_eq_true rfl⟩ rfl rfl hl.1 (Nat.le_of_ble_eq_true rfl) dX11_eldest_47 (fun x16 G9 H locs hq hB => ?_)
            obtain ⟨rfl, i_x16⟩ := hq
            refine lv_iload_n hx hb dX11_eldest_50 rfl (lv_at hl 2 rfl) ?_
            refine lv_icmp_ne (tgt := 56) hx hb dX11_eldest_51 (by decide) (fun c17 => ?_) (fun c17 => ?_)
            · skip
              refine iv_iinc hx hb i13_x10 (lo := 1) (hi := 20) (by decide) dX11_eldest_56 hl (k := 0) rfl (by decide) (fun x18 ls e_x18 i_x18 hl => ?_)
              have hl : lv_has ls 4 [(3, .int x18), (0, .ref h0), (1, .int x_0), (2, .int x_1)] := hl
              refine lv_goto (tgt := 24) hx hb dX11_eldest_59 (by decide) ?_
              exact ih_24 _ _ hB x18 (i_x18.wk (by decide)) (iv_mup (c := 1) i_x10 (by decide) (by decide) (by omega) hn_24) _ (lv_sub hl [0, 1, 2, 3] rfl)
            · skip
              have i18_x16 : iv_R 0 9 x16 := ((i_x16.cutLo (n := 0) (iv_eq_r c17 i6_x_0).1).cutHi (n := 9) (iv_eq_r c17 i6_x_0).2)
              refine lv_iload_n hx hb dX11_eldest_54 rfl (lv_at hl 0 rfl) ?_
              exact iv_iret X hr hlocks hB ⟨rfl, (i13_x10.wk (by decide))⟩ dX11_eldest_55
      exact L_24 _ _ _ hB 0 (q_0.wk (by decide)) (Nat.lt_succ_self _) _ (lv_sub hl [0, 1, 2, 3] rfl)
    · skip
      refine lv_iload_n hx hb dX11_eldest_15 rfl (lv_at hl 2 rfl) ?_
      refine lv_iconst (v := 1) hx hb dX11_eldest_16 (by decide) ?_
      refine lv_icmp_eq (tgt := 22) hx hb dX11_eldest_17 (by decide) (fun c20 => ?_) (fun c20 => ?_)
      · skip
        have i20_x_1 : iv_R 1 1 x_1 := ((i_x_1.cutLo (n := 1) (iv_eq_r c20 q_1).1).cutHi (n := 1) (iv_eq_r c20 q_1).2)
        refine lv_iconst (v := 0) hx hb dX11_eldest_22 (by decide) ?_
        refine lv_istore_n (lv' := [(3, .int 0), (0, .ref h0), (1, .int x_0), (2, .int x_1)]) hx hb dX11_eldest_23 rfl hl (by decide) rfl (fun ls hl => ?_)
        have L_24 : ∀ (n_24 : Nat) (H : Heap) (locs : List Loc) (hB : iv_B iv_sh D classes tys base G s.heap H locs) (x22 : Int32) (i_x22 : iv_R 0 20 x22) (hn_24 : (21 - x22.toInt).toNat < n_24) (ls : Array Slot) (hl : lv_has ls 4 [(3, .int x22), (0, .ref h0), (1, .int x_0), (2, .int x_1)]), W p l e ({ frames := 2, cells := 0, slots := 0, locals := 44 } : Room) s m args below meth c H locs 0 0 (MQ below (iv_Qi iv_sh D classes tys base (fun v G' => G = G' ∧ iv_R (-1) 19 v)) args s 0 0 (iv_A base)) (F0 m 24 ls []) := by
          intro n_24
          induction n_24 with
          | zero => intro H locs hB x22 i_x22 hn_24 ls hl; exact absurd hn_24 (Nat.not_lt_zero _)
          | succ n_24 ih_24 =>
            intro H locs hB x22 i_x22 hn_24 ls hl
            refine lv_iload_n hx hb dX11_eldest_24 rfl (lv_at hl 0 rfl) ?_
            refine lv_aload_n hx hb dX11_eldest_25 rfl (lv_at hl 1 rfl) ?_
            refine iv_getr0 X ft_X11 hB a_h0 sh_11 0 (by decide) rfl k_fl_X11_12 dX11_eldest_26 e_b1 ?_
            refine iv_getr X ft_X5 hB a_b1 sh_5 8 (by decide) rfl k_fl_X11_152 dX11_eldest_29 (fun b23 g_b23 r_b23 e_b23 a_b23 => ?_)
            refine iv_geti X ft_X8 hB a_b23 sh_8 2 (by decide) rfl k_fl_X11_166 dX11_eldest_32 (fun x24 e_x24 i_x24 => ?_)
            refine lv_icmp_ge (tgt := 62) hx hb dX11_eldest_35 (by decide) (fun c25 => ?_) (fun c25 => ?_)
            · skip
              refine lv_iconst (v := (-1)) hx hb dX11_eldest_62 (by decide) ?_
              exact iv_iret X hr hlocks hB ⟨rfl, (q_n1.wk (by decide))⟩ dX11_eldest_63
            · skip
              have i25_x22 : iv_R 0 19 x22 := (i_x22.cutHi (n := 19) (iv_lt_r (iv_nle c25) i_x24 (by decide)))
              have i26_x24 : iv_R 1 20 x24 := (i_x24.cutLo (n := 1) (iv_lt_l (iv_nle c25) i_x22 (by decide)))
              refine lv_aload_n hx hb dX11_eldest_38 rfl (lv_at hl 1 rfl) ?_
              refine iv_getr0 X ft_X11 hB a_h0 sh_11 0 (by decide) rfl k_fl_X11_12 dX11_eldest_39 e_b1 ?_
              refine iv_getr0 X ft_X5 hB a_b1 sh_5 8 (by decide) rfl k_fl_X11_152 dX11_eldest_42 e_b23 ?_
              refine lv_iload_n hx hb dX11_eldest_45 rfl (lv_at hl 0 rfl) ?_
              refine lv_iload_n hx hb dX11_eldest_46 rfl (lv_at hl 3 rfl) ?_
              refine iv_cVi X k_good k_mf_X8_at k_im_X8_at k_sel_X8_at k_ml_X11_158 ft_X8 hB a_b23 sh_8 (As := [.int x22, .int x_1]) (c_X8_at_8 l D tys base G b23 g_b23 r_b23 a_b23 x22 i25_x22 x_1 (i20_x_1.wk (by decide))) ⟨rfl, rfl⟩ ⟨Nat.le_of_ble_eq_true rfl, Nat.le_of_ble_eq_true rfl⟩ ⟨Nat.le_of_ble_eq_true rfl, Nat.le_of_ble_eq_true rfl⟩ rfl rfl hl.1 (Nat.le_of_ble_eq_true rfl) dX11_eldest_47 (fun x28 G9 H locs hq hB => ?_)
              obtain ⟨rfl, i_x28⟩ := hq
              refine lv_iload_n hx hb dX11_eldest_50 rfl (lv_at hl 2 rfl) ?_
              refine lv_icmp_ne (tgt := 56) hx hb dX11_eldest_51 (by decide) (fun c29 => ?_) (fun c29 => ?_)
              · skip
                refine iv_iinc hx hb i25_x22 (lo := 1) (hi := 20) (by decide) dX11_eldest_56 hl (k := 0) rfl (by decide) (fun x30 ls e_x30 i_x30 hl => ?_)
                have hl : lv_has ls 4 [(3, .int x30), (0, .ref h0), (1, .int x_0), (2, .int x_1)] := hl
                refine lv_goto (tgt := 24) hx hb dX11_eldest_59 (by decide) ?_
                exact ih_24 _ _ hB x30 (i_x30.wk (by decide)) (iv_mup (c := 1) i_x22 (by decide) (by decide) (by omega) hn_24) _ (lv_sub hl [0, 1, 2, 3] rfl)
              · skip
                have i30_x28 : iv_R 0 9 x28 := ((i_x28.cutLo (n := 0) (iv_eq_r c29 i6_x_0).1).cutHi (n := 9) (iv_eq_r c29 i6_x_0).2)
                refine lv_iload_n hx hb dX11_eldest_54 rfl (lv_at hl 0 rfl) ?_
                exact iv_iret X hr hlocks hB ⟨rfl, (i25_x22.wk (by decide))⟩ dX11_eldest_55
        exact L_24 _ _ _ hB 0 (q_0.wk (by decide)) (Nat.lt_succ_self _) _ (lv_sub hl [0, 1, 2, 3] rfl)
      · skip
        refine lv_iconst (v := (-1)) hx hb dX11_eldest_20 (by decide) ?_
        exact iv_iret X hr hlocks hB ⟨rfl, (q_n1.wk (by decide))⟩ dX11_eldest_21
theorem dX6_forget_0 : decode cX6_forget 0 = .ok (.aload_n 0, 1) := by decide +kernel
theorem dX6_forget_1 : decode cX6_forget 1 = .ok (.iconst 0, 1) := by decide +kernel
theorem dX6_forget_2 : decode cX6_forget 2 = .ok (.putfield 16, 3) := by decide +kernel
theorem dX6_forget_5 : decode cX6_forget 5 = .ok (.return_, 1) := by decide +kernel
set_option maxHeartbeats 4000000 in
set_option maxRecDepth 100000 in
theorem c_X6_forget (l : Launch) (D : va_G) (tys : List (ClassId × FieldType)) (base : Nat) (G : iv_G) (h0 : Nat) (g_h0 : Nat → Int32) (r_h0 : Nat → Nat) (a_h0 : G h0 = some (6, g_h0, r_h0)) : Met l yX6_forget (Cond.code yX6_forget cX6_forget 1 none :: iv_W0) ({ frames := 0, cells := 0, slots := 0, locals := 0 }) (iv_Pc iv_sh D classes tys base G [.ref h0]) (iv_Qv iv_sh D classes tys base (fun G' => iv_Md [6] G G')) 0 0 (iv_A base) := by
  refine iv_head (by decide) (Nat.le_of_ble_eq_true rfl) ?_
  intro p e s m args below meth c ls X hr hlocks hname hB hl
  have X := X
  have hx := X.1.1
  have hb := X.1.2.1
  have hM : iv_Md [6] G G := iv_Md.rf
  have hl : lv_has ls 1 [(0, .ref h0)] := hl
  refine lv_aload_n hx hb dX6_forget_0 rfl (lv_at hl 0 rfl) ?_
  refine lv_iconst (v := 0) hx hb dX6_forget_1 (by decide) ?_
  refine iv_puti X ft_X6 hB a_h0 sh_6 2 (by decide) rfl rfl k_fl_X6_16 rfl (q_0.wk (by decide)) rfl rfl dX6_forget_2 (fun H locs hB => ?_)
  have hm := iv_Md.put (x := 0) a_h0 (j := 2) (by decide) (by decide)
  have h9 := iv_up_eq (G := G) (a := h0) (k := (6, upd g_h0 2 0, r_h0))
  generalize iv_up G h0 _ = G1 at hB hm h9
  have hM := hM.stp hm (by decide)
  generalize hgn_g2 : upd g_h0 _ _ = g2 at h9
  have a_h0 := h9
  have e9_g2 : 0 = g2 2 := by rw [← hgn_g2]; simp [upd]
  exact iv_vret X hr hlocks hB hM dX6_forget_5
theorem dX11_far_0 : decode cX11_far 0 = .ok (.iload_n 1, 1) := by decide +kernel
theorem dX11_far_1 : decode cX11_far 1 = .ok (.invokestatic 79, 3) := by decide +kernel
theorem dX11_far_4 : decode cX11_far 4 = .ok (.ifCond .eq 25, 3) := by decide +kernel
theorem dX11_far_7 : decode cX11_far 7 = .ok (.iload_n 2, 1) := by decide +kernel
theorem dX11_far_8 : decode cX11_far 8 = .ok (.invokestatic 79, 3) := by decide +kernel
theorem dX11_far_11 : decode cX11_far 11 = .ok (.ifCond .eq 18, 3) := by decide +kernel
theorem dX11_far_14 : decode cX11_far 14 = .ok (.iload_n 1, 1) := by decide +kernel
theorem dX11_far_15 : decode cX11_far 15 = .ok (.iload_n 2, 1) := by decide +kernel
theorem dX11_far_16 : decode cX11_far 16 = .ok (.if_icmp .eq 13, 3) := by decide +kernel
theorem dX11_far_19 : decode cX11_far 19 = .ok (.iload_n 3, 1) := by decide +kernel
theorem dX11_far_20 : decode cX11_far 20 = .ok (.iconst 0, 1) := by decide +kernel
theorem dX11_far_21 : decode cX11_far 21 = .ok (.bipush 99, 2) := by decide +kernel
theorem dX11_far_23 : decode cX11_far 23 = .ok (.invokestatic 83, 3) := by decide +kernel
theorem dX11_far_26 : decode cX11_far 26 = .ok (.ifCond .ne 5, 3) := by decide +kernel
theorem dX11_far_29 : decode cX11_far 29 = .ok (.iconst 0, 1) := by decide +kernel
theorem dX11_far_30 : decode cX11_far 30 = .ok (.ireturn, 1) := by decide +kernel
theorem dX11_far_31 : decode cX11_far 31 = .ok (.aload_n 0, 1) := by decide +kernel
theorem dX11_far_32 : decode cX11_far 32 = .ok (.getfield 12, 3) := by decide +kernel
theorem dX11_far_35 : decode cX11_far 35 = .ok (.getfield 87, 3) := by decide +kernel
theorem dX11_far_38 : decode cX11_far 38 = .ok (.iload_n 1, 1) := by decide +kernel
theorem dX11_far_39 : decode cX11_far 39 = .ok (.iconst 4, 1) := by decide +kernel
theorem dX11_far_40 : decode cX11_far 40 = .ok (.imul, 1) := by decide +kernel
theorem dX11_far_41 : decode cX11_far 41 = .ok (.iload_n 2, 1) := by decide +kernel
theorem dX11_far_42 : decode cX11_far 42 = .ok (.iadd, 1) := by decide +kernel
theorem dX11_far_43 : decode cX11_far 43 = .ok (.iload_n 3, 1) := by decide +kernel
theorem dX11_far_44 : decode cX11_far 44 = .ok (.iastore, 1) := by decide +kernel
theorem dX11_far_45 : decode cX11_far 45 = .ok (.aload_n 0, 1) := by decide +kernel
theorem dX11_far_46 : decode cX11_far 46 = .ok (.getfield 12, 3) := by decide +kernel
theorem dX11_far_49 : decode cX11_far 49 = .ok (.getfield 87, 3) := by decide +kernel
theorem dX11_far_52 : decode cX11_far 52 = .ok (.iload_n 2, 1) := by decide +kernel
theorem dX11_far_53 : decode cX11_far 53 = .ok (.iconst 4, 1) := by decide +kernel
theorem dX11_far_54 : decode cX11_far 54 = .ok (.imul, 1) := by decide +kernel
theorem dX11_far_55 : decode cX11_far 55 = .ok (.iload_n 1, 1) := by decide +kernel
theorem dX11_far_56 : decode cX11_far 56 = .ok (.iadd, 1) := by decide +kernel
theorem dX11_far_57 : decode cX11_far 57 = .ok (.iload_n 3, 1) := by decide +kernel
theorem dX11_far_58 : decode cX11_far 58 = .ok (.iastore, 1) := by decide +kernel
theorem dX11_far_59 : decode cX11_far 59 = .ok (.aload_n 0, 1) := by decide +kernel
theorem dX11_far_60 : decode cX11_far 60 = .ok (.getfield 22, 3) := by decide +kernel
theorem dX11_far_63 : decode cX11_far 63 = .ok (.invokevirtual 76, 3) := by decide +kernel
theorem dX11_far_66 : decode cX11_far 66 = .ok (.iconst 1, 1) := by decide +kernel
theorem dX11_far_67 : decode cX11_far 67 = .ok (.ireturn, 1) := by decide +kernel
set_option maxHeartbeats 4000000 in
set_option maxRecDepth 100000 in
theorem c_X11_far (l : Launch) (D : va_G) (tys : List (ClassId × FieldType)) (base : Nat) (G : iv_G) (h0 : Nat) (g_h0 : Nat → Int32) (r_h0 : Nat → Nat) (a_h0 : G h0 = some (11, g_h0, r_h0)) (x_0 : Int32) (i_x_0 : iv_R (-2147483648) 2147483647 x_0) (x_1 : Int32) (i_x_1 : iv_R (-2147483648) 2147483647 x_1) (x_2 : Int32) (i_x_2 : iv_R (-2147483648) 2147483647 x_2) : Met l yX11_far (Cond.code yX11_far cX11_far 4 (some .boolean) :: iv_W0) ({ frames := 2, cells := 0, slots := 0, locals := 42 }) (iv_Pc iv_sh D classes tys base G [.ref h0, .int x_0, .int x_1, .int x_2]) (iv_Qi iv_sh D classes tys base (fun v G' => iv_Md [6, 20] G G' ∧ iv_R 0 1 v ∧ ((¬ v = 0 → iv_R 0 3 x_0) ∧ (¬ v = 0 → iv_R 0 3 x_1) ∧ (¬ v = 0 → iv_R 0 99 x_2)))) 0 0 (iv_A base) := by
  refine iv_head (by decide) (Nat.le_of_ble_eq_true rfl) ?_
  intro p e s m args below meth c ls X hr hlocks hname hB hl
  have X := X
  have hx := X.1.1
  have hb := X.1.2.1
  have hM : iv_Md [6, 20] G G := iv_Md.rf
  have hl : lv_has ls 4 [(0, .ref h0), (1, .int x_0), (2, .int x_1), (3, .int x_2)] := hl
  refine lv_iload_n hx hb dX11_far_0 rfl (lv_at hl 1 rfl) ?_
  refine iv_cSi X k_good k_mf_X11_isTower k_st_X11_isTower k_ml_X11_79 hB (As := [.int x_0]) (c_X11_isTower l D tys base G x_0 i_x_0) ⟨rfl, rfl⟩ ⟨Nat.le_of_ble_eq_true rfl, Nat.le_of_ble_eq_true rfl⟩ ⟨Nat.le_of_ble_eq_true rfl, Nat.le_of_ble_eq_true rfl⟩ rfl rfl hl.1 (Nat.le_of_ble_eq_true rfl) dX11_far_1 (fun x1 G9 H locs hq hB => ?_)
  obtain ⟨rfl, i_x1, hp2⟩ := hq
  refine lv_if_eq (tgt := 29) hx hb dX11_far_4 (by decide) (fun c3 => ?_) (fun c3 => ?_)
  · skip
    have i3_x1 : iv_R 0 0 x1 := (i_x1.cutHi (n := 0) (iv_eq_r c3 q_0).2)
    refine lv_iconst (v := 0) hx hb dX11_far_29 (by decide) ?_
    exact iv_zret X hr hlocks hB (q_0.wk (by decide)) ⟨hM, (q_0.wk (by decide)), ⟨fun h => absurd (iv_z q_0) h, fun h => absurd (iv_z q_0) h, fun h => absurd (iv_z q_0) h⟩⟩ dX11_far_30
  · skip
    have i4_x1 : iv_R 1 1 x1 := iv_ne_lo c3 i_x1 q_0 (by decide)
    have i5_x_0 : iv_R 0 3 x_0 := ((i_x_0.cutLo (n := 0) (hp2 c3).1).cutHi (n := 3) (hp2 c3).2)
    refine lv_iload_n hx hb dX11_far_7 rfl (lv_at hl 2 rfl) ?_
    refine iv_cSi X k_good k_mf_X11_isTower k_st_X11_isTower k_ml_X11_79 hB (As := [.int x_1]) (c_X11_isTower l D tys base G x_1 i_x_1) ⟨rfl, rfl⟩ ⟨Nat.le_of_ble_eq_true rfl, Nat.le_of_ble_eq_true rfl⟩ ⟨Nat.le_of_ble_eq_true rfl, Nat.le_of_ble_eq_true rfl⟩ rfl rfl hl.1 (Nat.le_of_ble_eq_true rfl) dX11_far_8 (fun x7 G9 H locs hq hB => ?_)
    obtain ⟨rfl, i_x7, hp8⟩ := hq
    refine lv_if_eq (tgt := 29) hx hb dX11_far_11 (by decide) (fun c9 => ?_) (fun c9 => ?_)
    · skip
      have i9_x7 : iv_R 0 0 x7 := (i_x7.cutHi (n := 0) (iv_eq_r c9 q_0).2)
      refine lv_iconst (v := 0) hx hb dX11_far_29 (by decide) ?_
      exact iv_zret X hr hlocks hB (q_0.wk (by decide)) ⟨hM, (q_0.wk (by decide)), ⟨fun _ => i5_x_0, fun h => absurd (iv_z q_0) h, fun h => absurd (iv_z q_0) h⟩⟩ dX11_far_30
    · skip
      have i10_x7 : iv_R 1 1 x7 := iv_ne_lo c9 i_x7 q_0 (by decide)
      have i11_x_1 : iv_R 0 3 x_1 := ((i_x_1.cutLo (n := 0) (hp8 c9).1).cutHi (n := 3) (hp8 c9).2)
      refine lv_iload_n hx hb dX11_far_14 rfl (lv_at hl 1 rfl) ?_
      refine lv_iload_n hx hb dX11_far_15 rfl (lv_at hl 2 rfl) ?_
      refine lv_icmp_eq (tgt := 29) hx hb dX11_far_16 (by decide) (fun c13 => ?_) (fun c13 => ?_)
      · skip
        refine lv_iconst (v := 0) hx hb dX11_far_29 (by decide) ?_
        exact iv_zret X hr hlocks hB (q_0.wk (by decide)) ⟨hM, (q_0.wk (by decide)), ⟨fun _ => i5_x_0, fun _ => i11_x_1, fun h => absurd (iv_z q_0) h⟩⟩ dX11_far_30
      · skip
        refine lv_iload_n hx hb dX11_far_19 rfl (lv_at hl 3 rfl) ?_
        refine lv_iconst (v := 0) hx hb dX11_far_20 (by decide) ?_
        refine lv_bipush (v := 99) hx hb dX11_far_21 (by decide) ?_
        refine iv_cSi X k_good k_mf_X11_isWithin k_st_X11_isWithin k_ml_X11_83 hB (As := [.int x_2, .int 0, .int 99]) (c_X11_isWithin l D tys base G x_2 i_x_2 0 (q_0.wk (by decide)) 99 (q_99.wk (by decide))) ⟨rfl, rfl⟩ ⟨Nat.le_of_ble_eq_true rfl, Nat.le_of_ble_eq_true rfl⟩ ⟨Nat.le_of_ble_eq_true rfl, Nat.le_of_ble_eq_true rfl⟩ rfl rfl hl.1 (Nat.le_of_ble_eq_true rfl) dX11_far_23 (fun x14 G9 H locs hq hB => ?_)
        obtain ⟨rfl, i_x14, hp15⟩ := hq
        have k16 : ¬ x14 = 0 → iv_R 0 99 x_2 := fun h => ⟨iv_max i_x_2.1 (Int.le_trans q_0.1 (hp15.1 h).1) (by decide), iv_min i_x_2.2 (Int.le_trans (hp15.1 h).2 q_99.2) (by decide)⟩
        refine lv_if_ne (tgt := 31) hx hb dX11_far_26 (by decide) (fun c17 => ?_) (fun c17 => ?_)
        · skip
          have i17_x14 : iv_R 1 1 x14 := iv_ne_lo c17 i_x14 q_0 (by decide)
          have i18_x_2 : iv_R 0 99 x_2 := ((i_x_2.cutLo (n := 0) (k16 c17).1).cutHi (n := 99) (k16 c17).2)
          refine lv_aload_n hx hb dX11_far_31 rfl (lv_at hl 0 rfl) ?_
          refine iv_getr X ft_X11 hB a_h0 sh_11 0 (by decide) rfl k_fl_X11_12 dX11_far_32 (fun b20 g_b20 r_b20 e_b20 a_b20 => ?_)
          refine iv_getr X ft_X5 hB a_b20 sh_5 2 (by decide) rfl k_fl_X11_87 dX11_far_35 (fun b21 g_b21 r_b21 e_b21 a_b21 => ?_)
          refine lv_iload_n hx hb dX11_far_38 rfl (lv_at hl 1 rfl) ?_
          refine lv_iconst (v := 4) hx hb dX11_far_39 (by decide) ?_
          refine iv_imul hx hb i5_x_0 q_4 (lo := 0) (hi := 12) (by decide) dX11_far_40 (fun x22 e_x22 i_x22 => ?_)
          refine lv_iload_n hx hb dX11_far_41 rfl (lv_at hl 2 rfl) ?_
          refine iv_iadd hx hb i_x22 i11_x_1 (lo := 0) (hi := 15) (by decide) dX11_far_42 (fun x23 e_x23 i_x23 => ?_)
          refine lv_iload_n hx hb dX11_far_43 rfl (lv_at hl 3 rfl) ?_
          refine iv_ast X hB a_b21 sh_20 (iv_in i_x23 (by decide)) (i18_x_2.wk (by decide)) dX11_far_44 (fun H locs hB => ?_)
          have hm := iv_Md.ast (j := x23.toNatClampNeg) (x := x_2) a_b21 rfl (by decide)
          have h9 := iv_up_eq (G := G) (a := b21) (k := (20, upd g_b21 x23.toNatClampNeg x_2, r_b21))
          generalize iv_up G b21 _ = G24 at hB hm h9
          have hM := hM.stp hm (by decide)
          have a_h0 := hm.at a_h0 (by decide)
          refine lv_aload_n hx hb dX11_far_45 rfl (lv_at hl 0 rfl) ?_
          refine iv_getr X ft_X11 hB a_h0 sh_11 0 (by decide) rfl k_fl_X11_12 dX11_far_46 (fun b26 g_b26 r_b26 e_b26 a_b26 => ?_)
          refine iv_getr X ft_X5 hB a_b26 sh_5 2 (by decide) rfl k_fl_X11_87 dX11_far_49 (fun b27 g_b27 r_b27 e_b27 a_b27 => ?_)
          refine lv_iload_n hx hb dX11_far_52 rfl (lv_at hl 2 rfl) ?_
          refine lv_iconst (v := 4) hx hb dX11_far_53 (by decide) ?_
          refine iv_imul hx hb i11_x_1 q_4 (lo := 0) (hi := 12) (by decide) dX11_far_54 (fun x28 e_x28 i_x28 => ?_)
          refine lv_iload_n hx hb dX11_far_55 rfl (lv_at hl 1 rfl) ?_
          refine iv_iadd hx hb i_x28 i5_x_0 (lo := 0) (hi := 15) (by decide) dX11_far_56 (fun x29 e_x29 i_x29 => ?_)
          refine lv_iload_n hx hb dX11_far_57 rfl (lv_at hl 3 rfl) ?_
          refine iv_ast X hB a_b27 sh_20 (iv_in i_x29 (by decide)) (i18_x_2.wk (by decide)) dX11_far_58 (fun H locs hB => ?_)
          have hm := iv_Md.ast (j := x29.toNatClampNeg) (x := x_2) a_b27 rfl (by decide)
          have h9 := iv_up_eq (G := G24) (a := b27) (k := (20, upd g_b27 x29.toNatClampNeg x_2, r_b27))
          generalize iv_up G24 b27 _ = G30 at hB hm h9
          have hM := hM.stp hm (by decide)
          have a_h0 := hm.at a_h0 (by decide)
          refine lv_aload_n hx hb dX11_far_59 rfl (lv_at hl 0 rfl) ?_
          refine iv_getr X ft_X11 hB a_h0 sh_11 3 (by decide) rfl k_fl_X11_22 dX11_far_60 (fun b32 g_b32 r_b32 e_b32 a_b32 => ?_)
          refine iv_cVv X k_good k_mf_X6_forget k_im_X6_forget k_sel_X6_forget k_ml_X11_76 ft_X6 hB a_b32 sh_6 (As := []) (c_X6_forget l D tys base G30 b32 g_b32 r_b32 a_b32) ⟨rfl, rfl⟩ ⟨Nat.le_of_ble_eq_true rfl, Nat.le_of_ble_eq_true rfl⟩ ⟨Nat.le_of_ble_eq_true rfl, Nat.le_of_ble_eq_true rfl⟩ rfl rfl hl.1 (Nat.le_of_ble_eq_true rfl) dX11_far_63 (fun G9 H locs hq hB => ?_)
          have hm := hq
          obtain ⟨G33, hG9⟩ : ∃ g, g = G9 := ⟨_, rfl⟩
          rw [← hG9] at hm hB
          have hM := hM.stp hm (by decide)
          have a_h0 := hm.at a_h0 (by decide)
          refine lv_iconst (v := 1) hx hb dX11_far_66 (by decide) ?_
          exact iv_zret X hr hlocks hB (q_1.wk (by decide)) ⟨hM, (q_1.wk (by decide)), ⟨fun _ => i5_x_0, fun _ => i11_x_1, fun _ => i18_x_2⟩⟩ dX11_far_67
        · skip
          have i33_x14 : iv_R 0 0 x14 := (i_x14.cutHi (n := 0) (iv_eq_r c17 q_0).2)
          refine lv_iconst (v := 0) hx hb dX11_far_29 (by decide) ?_
          exact iv_zret X hr hlocks hB (q_0.wk (by decide)) ⟨hM, (q_0.wk (by decide)), ⟨fun _ => i5_x_0, fun _ => i11_x_1, fun h => absurd (iv_z q_0) h⟩⟩ dX11_far_30
theorem dX11_fault_0 : decode cX11_fault 0 = .ok (.iload_n 1, 1) := by decide +kernel
theorem dX11_fault_1 : decode cX11_fault 1 = .ok (.lookupswitch 43 #[(0, 27), (1, 35)], 27) := by decide +kernel
theorem dX11_fault_28 : decode cX11_fault 28 = .ok (.aload_n 0, 1) := by decide +kernel
theorem dX11_fault_29 : decode cX11_fault 29 = .ok (.getfield 33, 3) := by decide +kernel
theorem dX11_fault_32 : decode cX11_fault 32 = .ok (.getfield 238, 3) := by decide +kernel
theorem dX11_fault_35 : decode cX11_fault 35 = .ok (.ireturn, 1) := by decide +kernel
theorem dX11_fault_36 : decode cX11_fault 36 = .ok (.aload_n 0, 1) := by decide +kernel
theorem dX11_fault_37 : decode cX11_fault 37 = .ok (.getfield 33, 3) := by decide +kernel
theorem dX11_fault_40 : decode cX11_fault 40 = .ok (.getfield 241, 3) := by decide +kernel
theorem dX11_fault_43 : decode cX11_fault 43 = .ok (.ireturn, 1) := by decide +kernel
theorem dX11_fault_44 : decode cX11_fault 44 = .ok (.iconst (-1), 1) := by decide +kernel
theorem dX11_fault_45 : decode cX11_fault 45 = .ok (.ireturn, 1) := by decide +kernel
set_option maxHeartbeats 4000000 in
set_option maxRecDepth 100000 in
theorem c_X11_fault (l : Launch) (D : va_G) (tys : List (ClassId × FieldType)) (base : Nat) (G : iv_G) (h0 : Nat) (g_h0 : Nat → Int32) (r_h0 : Nat → Nat) (a_h0 : G h0 = some (11, g_h0, r_h0)) (x_0 : Int32) (i_x_0 : iv_R (-2147483648) 2147483647 x_0) : Met l yX11_fault (Cond.code yX11_fault cX11_fault 2 (some .int) :: iv_W0) ({ frames := 0, cells := 0, slots := 0, locals := 0 }) (iv_Pc iv_sh D classes tys base G [.ref h0, .int x_0]) (iv_Qi iv_sh D classes tys base (fun v G' => G = G' ∧ iv_R (-2147483648) 2147483647 v)) 0 0 (iv_A base) := by
  refine iv_head (by decide) (Nat.le_of_ble_eq_true rfl) ?_
  intro p e s m args below meth c ls X hr hlocks hname hB hl
  have X := X
  have hx := X.1.1
  have hb := X.1.2.1
  have hl : lv_has ls 2 [(0, .ref h0), (1, .int x_0)] := hl
  refine lv_iload_n hx hb dX11_fault_0 rfl (lv_at hl 1 rfl) ?_
  by_cases w1 : x_0.toInt = 0
  · skip
    refine lv_lookup (off := 27) (tgt := 28) hx hb dX11_fault_1 (by decide) (by rw [w1]; (try rfl)) (by decide) ?_
    have w1i : iv_R 0 0 x_0 := iv_lit w1
    refine lv_aload_n hx hb dX11_fault_28 rfl (lv_at hl 0 rfl) ?_
    refine iv_getr X ft_X11 hB a_h0 sh_11 6 (by decide) rfl k_fl_X11_33 dX11_fault_29 (fun b2 g_b2 r_b2 e_b2 a_b2 => ?_)
    refine iv_geti X ft_X7 hB a_b2 sh_7 6 (by decide) rfl k_fl_X11_238 dX11_fault_32 (fun x3 e_x3 i_x3 => ?_)
    exact iv_iret X hr hlocks hB ⟨rfl, i_x3⟩ dX11_fault_35
  skip
  by_cases w4 : x_0.toInt = 1
  · skip
    refine lv_lookup (off := 35) (tgt := 36) hx hb dX11_fault_1 (by decide) (by rw [w4]; (try rfl)) (by decide) ?_
    have w4i : iv_R 1 1 x_0 := iv_lit w4
    refine lv_aload_n hx hb dX11_fault_36 rfl (lv_at hl 0 rfl) ?_
    refine iv_getr X ft_X11 hB a_h0 sh_11 6 (by decide) rfl k_fl_X11_33 dX11_fault_37 (fun b5 g_b5 r_b5 e_b5 a_b5 => ?_)
    refine iv_geti X ft_X7 hB a_b5 sh_7 7 (by decide) rfl k_fl_X11_241 dX11_fault_40 (fun x6 e_x6 i_x6 => ?_)
    exact iv_iret X hr hlocks hB ⟨rfl, i_x6⟩ dX11_fault_43
  skip
  refine lv_lookup (off := 43) (tgt := 44) hx hb dX11_fault_1 (by decide) (by simp [Op.lookupswitch.offset, List.find?, w1, Ne.symm w1, w4, Ne.symm w4]) (by decide) ?_
  refine lv_iconst (v := (-1)) hx hb dX11_fault_44 (by decide) ?_
  exact iv_iret X hr hlocks hB ⟨rfl, (q_n1.wk (by decide))⟩ dX11_fault_45
theorem dX11_fits_0 : decode cX11_fits 0 = .ok (.aload_n 0, 1) := by decide +kernel
theorem dX11_fits_1 : decode cX11_fits 1 = .ok (.getfield 12, 3) := by decide +kernel
theorem dX11_fits_4 : decode cX11_fits 4 = .ok (.getfield 152, 3) := by decide +kernel
theorem dX11_fits_7 : decode cX11_fits 7 = .ok (.iload_n 1, 1) := by decide +kernel
theorem dX11_fits_8 : decode cX11_fits 8 = .ok (.invokevirtual 155, 3) := by decide +kernel
theorem dX11_fits_11 : decode cX11_fits 11 = .ok (.ifCond .eq 14, 3) := by decide +kernel
theorem dX11_fits_14 : decode cX11_fits 14 = .ok (.aload_n 0, 1) := by decide +kernel
theorem dX11_fits_15 : decode cX11_fits 15 = .ok (.getfield 58, 3) := by decide +kernel
theorem dX11_fits_18 : decode cX11_fits 18 = .ok (.iload_n 1, 1) := by decide +kernel
theorem dX11_fits_19 : decode cX11_fits 19 = .ok (.invokevirtual 356, 3) := by decide +kernel
theorem dX11_fits_22 : decode cX11_fits 22 = .ok (.goto 4, 3) := by decide +kernel
theorem dX11_fits_25 : decode cX11_fits 25 = .ok (.iconst (-1), 1) := by decide +kernel
theorem dX11_fits_26 : decode cX11_fits 26 = .ok (.ireturn, 1) := by decide +kernel
set_option maxHeartbeats 4000000 in
set_option maxRecDepth 100000 in
theorem c_X11_fits (l : Launch) (D : va_G) (tys : List (ClassId × FieldType)) (base : Nat) (G : iv_G) (h0 : Nat) (g_h0 : Nat → Int32) (r_h0 : Nat → Nat) (a_h0 : G h0 = some (11, g_h0, r_h0)) (x_0 : Int32) (i_x_0 : iv_R (-2147483648) 2147483647 x_0) : Met l yX11_fits (Cond.code yX11_fits cX11_fits 2 (some .int) :: iv_W0) ({ frames := 4, cells := 0, slots := 0, locals := 91 }) (iv_Pc iv_sh D classes tys base G [.ref h0, .int x_0]) (iv_Qi iv_sh D classes tys base (fun v G' => G = G' ∧ iv_R (-1) 2047 v)) 0 0 (iv_A base) := by
  refine iv_head (by decide) (Nat.le_of_ble_eq_true rfl) ?_
  intro p e s m args below meth c ls X hr hlocks hname hB hl
  have X := X
  have hx := X.1.1
  have hb := X.1.2.1
  have hl : lv_has ls 2 [(0, .ref h0), (1, .int x_0)] := hl
  refine lv_aload_n hx hb dX11_fits_0 rfl (lv_at hl 0 rfl) ?_
  refine iv_getr X ft_X11 hB a_h0 sh_11 0 (by decide) rfl k_fl_X11_12 dX11_fits_1 (fun b1 g_b1 r_b1 e_b1 a_b1 => ?_)
  refine iv_getr X ft_X5 hB a_b1 sh_5 8 (by decide) rfl k_fl_X11_152 dX11_fits_4 (fun b2 g_b2 r_b2 e_b2 a_b2 => ?_)
  refine lv_iload_n hx hb dX11_fits_7 rfl (lv_at hl 1 rfl) ?_
  refine iv_cVi X k_good k_mf_X8_has k_im_X8_has k_sel_X8_has k_ml_X11_155 ft_X8 hB a_b2 sh_8 (As := [.int x_0]) (c_X8_has_8 l D tys base G b2 g_b2 r_b2 a_b2 x_0 i_x_0) ⟨rfl, rfl⟩ ⟨Nat.le_of_ble_eq_true rfl, Nat.le_of_ble_eq_true rfl⟩ ⟨Nat.le_of_ble_eq_true rfl, Nat.le_of_ble_eq_true rfl⟩ rfl rfl hl.1 (Nat.le_of_ble_eq_true rfl) dX11_fits_8 (fun x3 G9 H locs hq hB => ?_)
  obtain ⟨rfl, i_x3, hp4⟩ := hq
  refine lv_if_eq (tgt := 25) hx hb dX11_fits_11 (by decide) (fun c5 => ?_) (fun c5 => ?_)
  · skip
    have i5_x3 : iv_R 0 0 x3 := (i_x3.cutHi (n := 0) (iv_eq_r c5 q_0).2)
    refine lv_iconst (v := (-1)) hx hb dX11_fits_25 (by decide) ?_
    exact iv_iret X hr hlocks hB ⟨rfl, (q_n1.wk (by decide))⟩ dX11_fits_26
  · skip
    have i6_x3 : iv_R 1 1 x3 := iv_ne_lo c5 i_x3 q_0 (by decide)
    have i7_x_0 : iv_R 0 19 x_0 := ((i_x_0.cutLo (n := 0) (hp4 c5).1).cutHi (n := 19) (hp4 c5).2)
    refine lv_aload_n hx hb dX11_fits_14 rfl (lv_at hl 0 rfl) ?_
    refine iv_getr X ft_X11 hB a_h0 sh_11 9 (by decide) rfl k_fl_X11_58 dX11_fits_15 (fun b9 g_b9 r_b9 e_b9 a_b9 => ?_)
    refine lv_iload_n hx hb dX11_fits_18 rfl (lv_at hl 1 rfl) ?_
    refine iv_cVi X k_good k_mf_X9_fitting k_im_X9_fitting k_sel_X9_fitting k_ml_X11_356 ft_X9 hB a_b9 sh_9 (As := [.int x_0]) (c_X9_fitting l D tys base G b9 g_b9 r_b9 a_b9 x_0 i7_x_0) ⟨rfl, rfl⟩ ⟨Nat.le_of_ble_eq_true rfl, Nat.le_of_ble_eq_true rfl⟩ ⟨Nat.le_of_ble_eq_true rfl, Nat.le_of_ble_eq_true rfl⟩ rfl rfl hl.1 (Nat.le_of_ble_eq_true rfl) dX11_fits_19 (fun x10 G9 H locs hq hB => ?_)
    obtain ⟨rfl, i_x10⟩ := hq
    refine lv_goto (tgt := 26) hx hb dX11_fits_22 (by decide) ?_
    exact iv_iret X hr hlocks hB ⟨rfl, (i_x10.wk (by decide))⟩ dX11_fits_26
theorem dX5_isRung_0 : decode cX5_isRung 0 = .ok (.aload_n 0, 1) := by decide +kernel
theorem dX5_isRung_1 : decode cX5_isRung 1 = .ok (.iload_n 1, 1) := by decide +kernel
theorem dX5_isRung_2 : decode cX5_isRung 2 = .ok (.invokevirtual 88, 3) := by decide +kernel
theorem dX5_isRung_5 : decode cX5_isRung 5 = .ok (.ifCond .eq 19, 3) := by decide +kernel
theorem dX5_isRung_8 : decode cX5_isRung 8 = .ok (.aload_n 0, 1) := by decide +kernel
theorem dX5_isRung_9 : decode cX5_isRung 9 = .ok (.getfield 11, 3) := by decide +kernel
theorem dX5_isRung_12 : decode cX5_isRung 12 = .ok (.iload_n 1, 1) := by decide +kernel
theorem dX5_isRung_13 : decode cX5_isRung 13 = .ok (.aaload, 1) := by decide +kernel
theorem dX5_isRung_14 : decode cX5_isRung 14 = .ok (.getfield 92, 3) := by decide +kernel
theorem dX5_isRung_17 : decode cX5_isRung 17 = .ok (.ifCond .ne 7, 3) := by decide +kernel
theorem dX5_isRung_20 : decode cX5_isRung 20 = .ok (.iconst 1, 1) := by decide +kernel
theorem dX5_isRung_21 : decode cX5_isRung 21 = .ok (.goto 4, 3) := by decide +kernel
theorem dX5_isRung_24 : decode cX5_isRung 24 = .ok (.iconst 0, 1) := by decide +kernel
theorem dX5_isRung_25 : decode cX5_isRung 25 = .ok (.ireturn, 1) := by decide +kernel
set_option maxHeartbeats 4000000 in
set_option maxRecDepth 100000 in
theorem c_X5_isRung (l : Launch) (D : va_G) (tys : List (ClassId × FieldType)) (base : Nat) (G : iv_G) (h0 : Nat) (g_h0 : Nat → Int32) (r_h0 : Nat → Nat) (a_h0 : G h0 = some (5, g_h0, r_h0)) (x_0 : Int32) (i_x_0 : iv_R (-2147483648) 2147483647 x_0) : Met l yX5_isRung (Cond.code yX5_isRung cX5_isRung 2 (some .boolean) :: iv_W0) ({ frames := 1, cells := 0, slots := 0, locals := 21 }) (iv_Pc iv_sh D classes tys base G [.ref h0, .int x_0]) (iv_Qi iv_sh D classes tys base (fun v G' => G = G' ∧ iv_R 0 1 v ∧ (¬ v = 0 → iv_R 0 9 x_0))) 0 0 (iv_A base) := by
  refine iv_head (by decide) (Nat.le_of_ble_eq_true rfl) ?_
  intro p e s m args below meth c ls X hr hlocks hname hB hl
  have X := X
  have hx := X.1.1
  have hb := X.1.2.1
  have hl : lv_has ls 2 [(0, .ref h0), (1, .int x_0)] := hl
  refine lv_aload_n hx hb dX5_isRung_0 rfl (lv_at hl 0 rfl) ?_
  refine lv_iload_n hx hb dX5_isRung_1 rfl (lv_at hl 1 rfl) ?_
  refine iv_cVi X k_good k_mf_X5_hasBell k_im_X5_hasBell k_sel_X5_hasBell k_ml_X5_88 ft_X5 hB a_h0 sh_5 (As := [.int x_0]) (c_X5_hasBell l D tys base G h0 g_h0 r_h0 a_h0 x_0 i_x_0) ⟨rfl, rfl⟩ ⟨Nat.le_of_ble_eq_true rfl, Nat.le_of_ble_eq_true rfl⟩ ⟨Nat.le_of_ble_eq_true rfl, Nat.le_of_ble_eq_true rfl⟩ rfl rfl hl.1 (Nat.le_of_ble_eq_true rfl) dX5_isRung_2 (fun x1 G9 H locs hq hB => ?_)
  obtain ⟨rfl, i_x1, hp2⟩ := hq
  refine lv_if_eq (tgt := 24) hx hb dX5_isRung_5 (by decide) (fun c3 => ?_) (fun c3 => ?_)
  · skip
    have i3_x1 : iv_R 0 0 x1 := (i_x1.cutHi (n := 0) (iv_eq_r c3 q_0).2)
    refine lv_iconst (v := 0) hx hb dX5_isRung_24 (by decide) ?_
    exact iv_zret X hr hlocks hB (q_0.wk (by decide)) ⟨rfl, (q_0.wk (by decide)), fun h => absurd (iv_z q_0) h⟩ dX5_isRung_25
  · skip
    have i4_x1 : iv_R 1 1 x1 := iv_ne_lo c3 i_x1 q_0 (by decide)
    have i5_x_0 : iv_R 0 9 x_0 := ((i_x_0.cutLo (n := 0) (hp2 c3).1).cutHi (n := 9) (hp2 c3).2)
    refine lv_aload_n hx hb dX5_isRung_8 rfl (lv_at hl 0 rfl) ?_
    refine iv_getr X ft_X5 hB a_h0 sh_5 0 (by decide) rfl k_fl_X5_11 dX5_isRung_9 (fun b7 g_b7 r_b7 e_b7 a_b7 => ?_)
    refine lv_iload_n hx hb dX5_isRung_12 rfl (lv_at hl 1 rfl) ?_
    refine iv_aald X hB a_b7 sh_40 (iv_in i5_x_0 (by decide)) dX5_isRung_13 (fun b8 g_b8 r_b8 e_b8 a_b8 => ?_)
    refine iv_geti X ft_X1 hB a_b8 sh_1 6 (by decide) rfl k_fl_X5_92 dX5_isRung_14 (fun x9 e_x9 i_x9 => ?_)
    refine lv_if_ne (tgt := 24) hx hb dX5_isRung_17 (by decide) (fun c10 => ?_) (fun c10 => ?_)
    · skip
      refine lv_iconst (v := 0) hx hb dX5_isRung_24 (by decide) ?_
      exact iv_zret X hr hlocks hB (q_0.wk (by decide)) ⟨rfl, (q_0.wk (by decide)), fun _ => i5_x_0⟩ dX5_isRung_25
    · skip
      have i10_x9 : iv_R 0 0 x9 := ((i_x9.cutLo (n := 0) (iv_eq_r c10 q_0).1).cutHi (n := 0) (iv_eq_r c10 q_0).2)
      refine lv_iconst (v := 1) hx hb dX5_isRung_20 (by decide) ?_
      refine lv_goto (tgt := 25) hx hb dX5_isRung_21 (by decide) ?_
      exact iv_zret X hr hlocks hB (q_1.wk (by decide)) ⟨rfl, (q_1.wk (by decide)), fun _ => i5_x_0⟩ dX5_isRung_25
theorem dX11_free_0 : decode cX11_free 0 = .ok (.aload_n 0, 1) := by decide +kernel
theorem dX11_free_1 : decode cX11_free 1 = .ok (.getfield 12, 3) := by decide +kernel
theorem dX11_free_4 : decode cX11_free 4 = .ok (.iload_n 1, 1) := by decide +kernel
theorem dX11_free_5 : decode cX11_free 5 = .ok (.invokevirtual 293, 3) := by decide +kernel
theorem dX11_free_8 : decode cX11_free 8 = .ok (.ifCond .ne 5, 3) := by decide +kernel
theorem dX11_free_11 : decode cX11_free 11 = .ok (.iconst (-1), 1) := by decide +kernel
theorem dX11_free_12 : decode cX11_free 12 = .ok (.ireturn, 1) := by decide +kernel
theorem dX11_free_13 : decode cX11_free 13 = .ok (.aload_n 0, 1) := by decide +kernel
theorem dX11_free_14 : decode cX11_free 14 = .ok (.getfield 42, 3) := by decide +kernel
theorem dX11_free_17 : decode cX11_free 17 = .ok (.iload_n 1, 1) := by decide +kernel
theorem dX11_free_18 : decode cX11_free 18 = .ok (.aload_n 0, 1) := by decide +kernel
theorem dX11_free_19 : decode cX11_free 19 = .ok (.getfield 12, 3) := by decide +kernel
theorem dX11_free_22 : decode cX11_free 22 = .ok (.getfield 93, 3) := by decide +kernel
theorem dX11_free_25 : decode cX11_free 25 = .ok (.iload_n 1, 1) := by decide +kernel
theorem dX11_free_26 : decode cX11_free 26 = .ok (.aaload, 1) := by decide +kernel
theorem dX11_free_27 : decode cX11_free 27 = .ok (.getfield 244, 3) := by decide +kernel
theorem dX11_free_30 : decode cX11_free 30 = .ok (.ldc_w 296, 3) := by decide +kernel
theorem dX11_free_33 : decode cX11_free 33 = .ok (.aload_n 0, 1) := by decide +kernel
theorem dX11_free_34 : decode cX11_free 34 = .ok (.getfield 12, 3) := by decide +kernel
theorem dX11_free_37 : decode cX11_free 37 = .ok (.iload_n 1, 1) := by decide +kernel
theorem dX11_free_38 : decode cX11_free 38 = .ok (.invokevirtual 253, 3) := by decide +kernel
theorem dX11_free_41 : decode cX11_free 41 = .ok (.iconst (-1), 1) := by decide +kernel
theorem dX11_free_42 : decode cX11_free 42 = .ok (.ixor, 1) := by decide +kernel
theorem dX11_free_43 : decode cX11_free 43 = .ok (.iand, 1) := by decide +kernel
theorem dX11_free_44 : decode cX11_free 44 = .ok (.invokevirtual 257, 3) := by decide +kernel
theorem dX11_free_47 : decode cX11_free 47 = .ok (.ireturn, 1) := by decide +kernel
set_option maxHeartbeats 4000000 in
set_option maxRecDepth 100000 in
theorem c_X11_free (l : Launch) (D : va_G) (tys : List (ClassId × FieldType)) (base : Nat) (G : iv_G) (h0 : Nat) (g_h0 : Nat → Int32) (r_h0 : Nat → Nat) (a_h0 : G h0 = some (11, g_h0, r_h0)) (x_0 : Int32) (i_x_0 : iv_R (-2147483648) 2147483647 x_0) : Met l yX11_free (Cond.code yX11_free cX11_free 2 (some .int) :: iv_W0) ({ frames := 5, cells := 0, slots := 0, locals := 130 }) (iv_Pc iv_sh D classes tys base G [.ref h0, .int x_0]) (iv_Qi iv_sh D classes tys base (fun v G' => iv_Md [28, 30] G G' ∧ iv_R (-2147483648) 2147483647 v)) 0 0 (iv_A base) := by
  refine iv_head (by decide) (Nat.le_of_ble_eq_true rfl) ?_
  intro p e s m args below meth c ls X hr hlocks hname hB hl
  have X := X
  have hx := X.1.1
  have hb := X.1.2.1
  have hM : iv_Md [28, 30] G G := iv_Md.rf
  have hl : lv_has ls 2 [(0, .ref h0), (1, .int x_0)] := hl
  refine lv_aload_n hx hb dX11_free_0 rfl (lv_at hl 0 rfl) ?_
  refine iv_getr X ft_X11 hB a_h0 sh_11 0 (by decide) rfl k_fl_X11_12 dX11_free_1 (fun b1 g_b1 r_b1 e_b1 a_b1 => ?_)
  refine lv_iload_n hx hb dX11_free_4 rfl (lv_at hl 1 rfl) ?_
  refine iv_cVi X k_good k_mf_X5_isRung k_im_X5_isRung k_sel_X5_isRung k_ml_X11_293 ft_X5 hB a_b1 sh_5 (As := [.int x_0]) (c_X5_isRung l D tys base G b1 g_b1 r_b1 a_b1 x_0 i_x_0) ⟨rfl, rfl⟩ ⟨Nat.le_of_ble_eq_true rfl, Nat.le_of_ble_eq_true rfl⟩ ⟨Nat.le_of_ble_eq_true rfl, Nat.le_of_ble_eq_true rfl⟩ rfl rfl hl.1 (Nat.le_of_ble_eq_true rfl) dX11_free_5 (fun x2 G9 H locs hq hB => ?_)
  obtain ⟨rfl, i_x2, hp3⟩ := hq
  refine lv_if_ne (tgt := 13) hx hb dX11_free_8 (by decide) (fun c4 => ?_) (fun c4 => ?_)
  · skip
    have i4_x2 : iv_R 1 1 x2 := iv_ne_lo c4 i_x2 q_0 (by decide)
    have i5_x_0 : iv_R 0 9 x_0 := ((i_x_0.cutLo (n := 0) (hp3 c4).1).cutHi (n := 9) (hp3 c4).2)
    refine lv_aload_n hx hb dX11_free_13 rfl (lv_at hl 0 rfl) ?_
    refine iv_getr X ft_X11 hB a_h0 sh_11 7 (by decide) rfl k_fl_X11_42 dX11_free_14 (fun b7 g_b7 r_b7 e_b7 a_b7 => ?_)
    refine lv_iload_n hx hb dX11_free_17 rfl (lv_at hl 1 rfl) ?_
    refine lv_aload_n hx hb dX11_free_18 rfl (lv_at hl 0 rfl) ?_
    refine iv_getr0 X ft_X11 hB a_h0 sh_11 0 (by decide) rfl k_fl_X11_12 dX11_free_19 e_b1 ?_
    refine iv_getr X ft_X5 hB a_b1 sh_5 0 (by decide) rfl k_fl_X11_93 dX11_free_22 (fun b8 g_b8 r_b8 e_b8 a_b8 => ?_)
    refine lv_iload_n hx hb dX11_free_25 rfl (lv_at hl 1 rfl) ?_
    refine iv_aald X hB a_b8 sh_40 (iv_in i5_x_0 (by decide)) dX11_free_26 (fun b9 g_b9 r_b9 e_b9 a_b9 => ?_)
    refine iv_geti X ft_X1 hB a_b9 sh_1 0 (by decide) rfl k_fl_X11_244 dX11_free_27 (fun x10 e_x10 i_x10 => ?_)
    refine lv_ldcw (v := 16777215) hx hb X.1.2.2.2.1 (X.1.2.2.2.2 _ k_ct_X11_296) dX11_free_30 ?_
    refine lv_aload_n hx hb dX11_free_33 rfl (lv_at hl 0 rfl) ?_
    refine iv_getr0 X ft_X11 hB a_h0 sh_11 0 (by decide) rfl k_fl_X11_12 dX11_free_34 e_b1 ?_
    refine lv_iload_n hx hb dX11_free_37 rfl (lv_at hl 1 rfl) ?_
    refine iv_cVi X k_good k_mf_X5_soundsIn k_im_X5_soundsIn k_sel_X5_soundsIn k_ml_X11_253 ft_X5 hB a_b1 sh_5 (As := [.int x_0]) (c_X5_soundsIn l D tys base G b1 g_b1 r_b1 a_b1 x_0 i5_x_0) ⟨rfl, rfl⟩ ⟨Nat.le_of_ble_eq_true rfl, Nat.le_of_ble_eq_true rfl⟩ ⟨Nat.le_of_ble_eq_true rfl, Nat.le_of_ble_eq_true rfl⟩ rfl rfl hl.1 (Nat.le_of_ble_eq_true rfl) dX11_free_38 (fun x11 G9 H locs hq hB => ?_)
    obtain ⟨rfl, i_x11⟩ := hq
    refine lv_iconst (v := (-1)) hx hb dX11_free_41 (by decide) ?_
    refine lv_ixor hx hb dX11_free_42 ?_
    refine lv_topi (fun x12 e_x12 => ?_)
    have i_x12 := iv_R.all x12
    refine iv_iand_l hx hb q_16777215 (by decide) dX11_free_43 (fun x13 e_x13 i_x13 => ?_)
    refine iv_cVi X k_good k_mf_X2_clearHours k_im_X2_clearHours k_sel_X2_clearHours k_ml_X11_257 ft_X2 hB a_b7 sh_2 (As := [.int x_0, .int x10, .int x13]) (c_X2_clearHours l D tys base G b7 g_b7 r_b7 a_b7 x_0 i5_x_0 x10 i_x10 x13 (i_x13.wk (by decide))) ⟨rfl, rfl⟩ ⟨Nat.le_of_ble_eq_true rfl, Nat.le_of_ble_eq_true rfl⟩ ⟨Nat.le_of_ble_eq_true rfl, Nat.le_of_ble_eq_true rfl⟩ rfl rfl hl.1 (Nat.le_of_ble_eq_true rfl) dX11_free_44 (fun x14 G9 H locs hq hB => ?_)
    obtain ⟨hm, i_x14⟩ := hq
    obtain ⟨G15, hG9⟩ : ∃ g, g = G9 := ⟨_, rfl⟩
    rw [← hG9] at hm hB
    have hM := hM.stp hm (by decide)
    have a_h0 := hm.at a_h0 (by decide)
    exact iv_iret X hr hlocks hB ⟨hM, i_x14⟩ dX11_free_47
  · skip
    have i15_x2 : iv_R 0 0 x2 := (i_x2.cutHi (n := 0) (iv_eq_r c4 q_0).2)
    refine lv_iconst (v := (-1)) hx hb dX11_free_11 (by decide) ?_
    exact iv_iret X hr hlocks hB ⟨hM, (q_n1.wk (by decide))⟩ dX11_free_12
theorem dX11_heard_0 : decode cX11_heard 0 = .ok (.iload_n 1, 1) := by decide +kernel
theorem dX11_heard_1 : decode cX11_heard 1 = .ok (.invokestatic 79, 3) := by decide +kernel
theorem dX11_heard_4 : decode cX11_heard 4 = .ok (.ifCond .eq 21, 3) := by decide +kernel
theorem dX11_heard_7 : decode cX11_heard 7 = .ok (.iload_n 2, 1) := by decide +kernel
theorem dX11_heard_8 : decode cX11_heard 8 = .ok (.invokestatic 264, 3) := by decide +kernel
theorem dX11_heard_11 : decode cX11_heard 11 = .ok (.ifCond .eq 14, 3) := by decide +kernel
theorem dX11_heard_14 : decode cX11_heard 14 = .ok (.iload_n 3, 1) := by decide +kernel
theorem dX11_heard_15 : decode cX11_heard 15 = .ok (.iconst 1, 1) := by decide +kernel
theorem dX11_heard_16 : decode cX11_heard 16 = .ok (.sipush 999, 3) := by decide +kernel
theorem dX11_heard_19 : decode cX11_heard 19 = .ok (.invokestatic 83, 3) := by decide +kernel
theorem dX11_heard_22 : decode cX11_heard 22 = .ok (.ifCond .ne 5, 3) := by decide +kernel
theorem dX11_heard_25 : decode cX11_heard 25 = .ok (.iconst (-1), 1) := by decide +kernel
theorem dX11_heard_26 : decode cX11_heard 26 = .ok (.ireturn, 1) := by decide +kernel
theorem dX11_heard_27 : decode cX11_heard 27 = .ok (.aload_n 0, 1) := by decide +kernel
theorem dX11_heard_28 : decode cX11_heard 28 = .ok (.getfield 42, 3) := by decide +kernel
theorem dX11_heard_31 : decode cX11_heard 31 = .ok (.iload_n 1, 1) := by decide +kernel
theorem dX11_heard_32 : decode cX11_heard 32 = .ok (.iload_n 2, 1) := by decide +kernel
theorem dX11_heard_33 : decode cX11_heard 33 = .ok (.iload_n 3, 1) := by decide +kernel
theorem dX11_heard_34 : decode cX11_heard 34 = .ok (.invokevirtual 276, 3) := by decide +kernel
theorem dX11_heard_37 : decode cX11_heard 37 = .ok (.ireturn, 1) := by decide +kernel
set_option maxHeartbeats 4000000 in
set_option maxRecDepth 100000 in
theorem c_X11_heard (l : Launch) (D : va_G) (tys : List (ClassId × FieldType)) (base : Nat) (G : iv_G) (h0 : Nat) (g_h0 : Nat → Int32) (r_h0 : Nat → Nat) (a_h0 : G h0 = some (11, g_h0, r_h0)) (x_0 : Int32) (i_x_0 : iv_R (-2147483648) 2147483647 x_0) (x_1 : Int32) (i_x_1 : iv_R (-2147483648) 2147483647 x_1) (x_2 : Int32) (i_x_2 : iv_R (-2147483648) 2147483647 x_2) : Met l yX11_heard (Cond.code yX11_heard cX11_heard 4 (some .int) :: iv_W0) ({ frames := 5, cells := 0, slots := 0, locals := 125 }) (iv_Pc iv_sh D classes tys base G [.ref h0, .int x_0, .int x_1, .int x_2]) (iv_Qi iv_sh D classes tys base (fun v G' => iv_Md [28, 30] G G' ∧ iv_R (-1) 2047 v)) 0 0 (iv_A base) := by
  refine iv_head (by decide) (Nat.le_of_ble_eq_true rfl) ?_
  intro p e s m args below meth c ls X hr hlocks hname hB hl
  have X := X
  have hx := X.1.1
  have hb := X.1.2.1
  have hM : iv_Md [28, 30] G G := iv_Md.rf
  have hl : lv_has ls 4 [(0, .ref h0), (1, .int x_0), (2, .int x_1), (3, .int x_2)] := hl
  refine lv_iload_n hx hb dX11_heard_0 rfl (lv_at hl 1 rfl) ?_
  refine iv_cSi X k_good k_mf_X11_isTower k_st_X11_isTower k_ml_X11_79 hB (As := [.int x_0]) (c_X11_isTower l D tys base G x_0 i_x_0) ⟨rfl, rfl⟩ ⟨Nat.le_of_ble_eq_true rfl, Nat.le_of_ble_eq_true rfl⟩ ⟨Nat.le_of_ble_eq_true rfl, Nat.le_of_ble_eq_true rfl⟩ rfl rfl hl.1 (Nat.le_of_ble_eq_true rfl) dX11_heard_1 (fun x1 G9 H locs hq hB => ?_)
  obtain ⟨rfl, i_x1, hp2⟩ := hq
  refine lv_if_eq (tgt := 25) hx hb dX11_heard_4 (by decide) (fun c3 => ?_) (fun c3 => ?_)
  · skip
    have i3_x1 : iv_R 0 0 x1 := (i_x1.cutHi (n := 0) (iv_eq_r c3 q_0).2)
    refine lv_iconst (v := (-1)) hx hb dX11_heard_25 (by decide) ?_
    exact iv_iret X hr hlocks hB ⟨hM, (q_n1.wk (by decide))⟩ dX11_heard_26
  · skip
    have i4_x1 : iv_R 1 1 x1 := iv_ne_lo c3 i_x1 q_0 (by decide)
    have i5_x_0 : iv_R 0 3 x_0 := ((i_x_0.cutLo (n := 0) (hp2 c3).1).cutHi (n := 3) (hp2 c3).2)
    refine lv_iload_n hx hb dX11_heard_7 rfl (lv_at hl 2 rfl) ?_
    refine iv_cSi X k_good k_mf_X11_isHour k_st_X11_isHour k_ml_X11_264 hB (As := [.int x_1]) (c_X11_isHour l D tys base G x_1 i_x_1) ⟨rfl, rfl⟩ ⟨Nat.le_of_ble_eq_true rfl, Nat.le_of_ble_eq_true rfl⟩ ⟨Nat.le_of_ble_eq_true rfl, Nat.le_of_ble_eq_true rfl⟩ rfl rfl hl.1 (Nat.le_of_ble_eq_true rfl) dX11_heard_8 (fun x7 G9 H locs hq hB => ?_)
    obtain ⟨rfl, i_x7, hp8⟩ := hq
    refine lv_if_eq (tgt := 25) hx hb dX11_heard_11 (by decide) (fun c9 => ?_) (fun c9 => ?_)
    · skip
      have i9_x7 : iv_R 0 0 x7 := (i_x7.cutHi (n := 0) (iv_eq_r c9 q_0).2)
      refine lv_iconst (v := (-1)) hx hb dX11_heard_25 (by decide) ?_
      exact iv_iret X hr hlocks hB ⟨hM, (q_n1.wk (by decide))⟩ dX11_heard_26
    · skip
      have i10_x7 : iv_R 1 1 x7 := iv_ne_lo c9 i_x7 q_0 (by decide)
      have i11_x_1 : iv_R 0 23 x_1 := ((i_x_1.cutLo (n := 0) (hp8 c9).1).cutHi (n := 23) (hp8 c9).2)
      refine lv_iload_n hx hb dX11_heard_14 rfl (lv_at hl 3 rfl) ?_
      refine lv_iconst (v := 1) hx hb dX11_heard_15 (by decide) ?_
      refine lv_sipush (v := 999) hx hb dX11_heard_16 (by decide) ?_
      refine iv_cSi X k_good k_mf_X11_isWithin k_st_X11_isWithin k_ml_X11_83 hB (As := [.int x_2, .int 1, .int 999]) (c_X11_isWithin l D tys base G x_2 i_x_2 1 (q_1.wk (by decide)) 999 (q_999.wk (by decide))) ⟨rfl, rfl⟩ ⟨Nat.le_of_ble_eq_true rfl, Nat.le_of_ble_eq_true rfl⟩ ⟨Nat.le_of_ble_eq_true rfl, Nat.le_of_ble_eq_true rfl⟩ rfl rfl hl.1 (Nat.le_of_ble_eq_true rfl) dX11_heard_19 (fun x13 G9 H locs hq hB => ?_)
      obtain ⟨rfl, i_x13, hp14⟩ := hq
      have k15 : ¬ x13 = 0 → iv_R 1 999 x_2 := fun h => ⟨iv_max i_x_2.1 (Int.le_trans q_1.1 (hp14.1 h).1) (by decide), iv_min i_x_2.2 (Int.le_trans (hp14.1 h).2 q_999.2) (by decide)⟩
      refine lv_if_ne (tgt := 27) hx hb dX11_heard_22 (by decide) (fun c16 => ?_) (fun c16 => ?_)
      · skip
        have i16_x13 : iv_R 1 1 x13 := iv_ne_lo c16 i_x13 q_0 (by decide)
        have i17_x_2 : iv_R 1 999 x_2 := ((i_x_2.cutLo (n := 1) (k15 c16).1).cutHi (n := 999) (k15 c16).2)
        refine lv_aload_n hx hb dX11_heard_27 rfl (lv_at hl 0 rfl) ?_
        refine iv_getr X ft_X11 hB a_h0 sh_11 7 (by decide) rfl k_fl_X11_42 dX11_heard_28 (fun b19 g_b19 r_b19 e_b19 a_b19 => ?_)
        refine lv_iload_n hx hb dX11_heard_31 rfl (lv_at hl 1 rfl) ?_
        refine lv_iload_n hx hb dX11_heard_32 rfl (lv_at hl 2 rfl) ?_
        refine lv_iload_n hx hb dX11_heard_33 rfl (lv_at hl 3 rfl) ?_
        refine iv_cVi X k_good k_mf_X2_heardBells k_im_X2_heardBells k_sel_X2_heardBells k_ml_X11_276 ft_X2 hB a_b19 sh_2 (As := [.int x_0, .int x_1, .int x_2]) (c_X2_heardBells l D tys base G b19 g_b19 r_b19 a_b19 x_0 i5_x_0 x_1 i11_x_1 x_2 i17_x_2) ⟨rfl, rfl⟩ ⟨Nat.le_of_ble_eq_true rfl, Nat.le_of_ble_eq_true rfl⟩ ⟨Nat.le_of_ble_eq_true rfl, Nat.le_of_ble_eq_true rfl⟩ rfl rfl hl.1 (Nat.le_of_ble_eq_true rfl) dX11_heard_34 (fun x20 G9 H locs hq hB => ?_)
        obtain ⟨hm, i_x20⟩ := hq
        obtain ⟨G21, hG9⟩ : ∃ g, g = G9 := ⟨_, rfl⟩
        rw [← hG9] at hm hB
        have hM := hM.stp hm (by decide)
        have a_h0 := hm.at a_h0 (by decide)
        exact iv_iret X hr hlocks hB ⟨hM, (i_x20.wk (by decide))⟩ dX11_heard_37
      · skip
        have i21_x13 : iv_R 0 0 x13 := (i_x13.cutHi (n := 0) (iv_eq_r c16 q_0).2)
        refine lv_iconst (v := (-1)) hx hb dX11_heard_25 (by decide) ?_
        exact iv_iret X hr hlocks hB ⟨hM, (q_n1.wk (by decide))⟩ dX11_heard_26
theorem dX11_hopes_0 : decode cX11_hopes 0 = .ok (.aload_n 0, 1) := by decide +kernel
theorem dX11_hopes_1 : decode cX11_hopes 1 = .ok (.getfield 12, 3) := by decide +kernel
theorem dX11_hopes_4 : decode cX11_hopes 4 = .ok (.iload_n 1, 1) := by decide +kernel
theorem dX11_hopes_5 : decode cX11_hopes 5 = .ok (.invokevirtual 119, 3) := by decide +kernel
theorem dX11_hopes_8 : decode cX11_hopes 8 = .ok (.ifCond .ne 5, 3) := by decide +kernel
theorem dX11_hopes_11 : decode cX11_hopes 11 = .ok (.iconst (-1), 1) := by decide +kernel
theorem dX11_hopes_12 : decode cX11_hopes 12 = .ok (.ireturn, 1) := by decide +kernel
theorem dX11_hopes_13 : decode cX11_hopes 13 = .ok (.aload_n 0, 1) := by decide +kernel
theorem dX11_hopes_14 : decode cX11_hopes 14 = .ok (.getfield 12, 3) := by decide +kernel
theorem dX11_hopes_17 : decode cX11_hopes 17 = .ok (.getfield 93, 3) := by decide +kernel
theorem dX11_hopes_20 : decode cX11_hopes 20 = .ok (.iload_n 1, 1) := by decide +kernel
theorem dX11_hopes_21 : decode cX11_hopes 21 = .ok (.aaload, 1) := by decide +kernel
theorem dX11_hopes_22 : decode cX11_hopes 22 = .ok (.getfield 122, 3) := by decide +kernel
theorem dX11_hopes_25 : decode cX11_hopes 25 = .ok (.istore_n 2, 1) := by decide +kernel
theorem dX11_hopes_26 : decode cX11_hopes 26 = .ok (.iload_n 2, 1) := by decide +kernel
theorem dX11_hopes_27 : decode cX11_hopes 27 = .ok (.ifCond .ne 5, 3) := by decide +kernel
theorem dX11_hopes_30 : decode cX11_hopes 30 = .ok (.iconst 0, 1) := by decide +kernel
theorem dX11_hopes_31 : decode cX11_hopes 31 = .ok (.ireturn, 1) := by decide +kernel
theorem dX11_hopes_32 : decode cX11_hopes 32 = .ok (.aload_n 0, 1) := by decide +kernel
theorem dX11_hopes_33 : decode cX11_hopes 33 = .ok (.getfield 42, 3) := by decide +kernel
theorem dX11_hopes_36 : decode cX11_hopes 36 = .ok (.iload_n 1, 1) := by decide +kernel
theorem dX11_hopes_37 : decode cX11_hopes 37 = .ok (.sipush 133, 3) := by decide +kernel
theorem dX11_hopes_40 : decode cX11_hopes 40 = .ok (.invokevirtual 261, 3) := by decide +kernel
theorem dX11_hopes_43 : decode cX11_hopes 43 = .ok (.istore_n 3, 1) := by decide +kernel
theorem dX11_hopes_44 : decode cX11_hopes 44 = .ok (.iload_n 3, 1) := by decide +kernel
theorem dX11_hopes_45 : decode cX11_hopes 45 = .ok (.ifCond .gt 7, 3) := by decide +kernel
theorem dX11_hopes_48 : decode cX11_hopes 48 = .ok (.iconst (-1), 1) := by decide +kernel
theorem dX11_hopes_49 : decode cX11_hopes 49 = .ok (.goto 10, 3) := by decide +kernel
theorem dX11_hopes_52 : decode cX11_hopes 52 = .ok (.iload_n 2, 1) := by decide +kernel
theorem dX11_hopes_53 : decode cX11_hopes 53 = .ok (.iload_n 3, 1) := by decide +kernel
theorem dX11_hopes_54 : decode cX11_hopes 54 = .ok (.iadd, 1) := by decide +kernel
theorem dX11_hopes_55 : decode cX11_hopes 55 = .ok (.iconst 1, 1) := by decide +kernel
theorem dX11_hopes_56 : decode cX11_hopes 56 = .ok (.isub, 1) := by decide +kernel
theorem dX11_hopes_57 : decode cX11_hopes 57 = .ok (.iload_n 3, 1) := by decide +kernel
theorem dX11_hopes_58 : decode cX11_hopes 58 = .ok (.idiv, 1) := by decide +kernel
theorem dX11_hopes_59 : decode cX11_hopes 59 = .ok (.ireturn, 1) := by decide +kernel
set_option maxHeartbeats 4000000 in
set_option maxRecDepth 100000 in
theorem c_X11_hopes (l : Launch) (D : va_G) (tys : List (ClassId × FieldType)) (base : Nat) (G : iv_G) (h0 : Nat) (g_h0 : Nat → Int32) (r_h0 : Nat → Nat) (a_h0 : G h0 = some (11, g_h0, r_h0)) (x_0 : Int32) (i_x_0 : iv_R (-2147483648) 2147483647 x_0) : Met l yX11_hopes (Cond.code yX11_hopes cX11_hopes 4 (some .int) :: iv_W0) ({ frames := 6, cells := 0, slots := 0, locals := 155 }) (iv_Pc iv_sh D classes tys base G [.ref h0, .int x_0]) (iv_Qi iv_sh D classes tys base (fun v G' => iv_Md [28, 30] G G' ∧ iv_R (-2147483648) 2147483647 v)) 0 0 (iv_A base) := by
  refine iv_head (by decide) (Nat.le_of_ble_eq_true rfl) ?_
  intro p e s m args below meth c ls X hr hlocks hname hB hl
  have X := X
  have hx := X.1.1
  have hb := X.1.2.1
  have hM : iv_Md [28, 30] G G := iv_Md.rf
  have hl : lv_has ls 4 [(0, .ref h0), (1, .int x_0)] := hl
  refine lv_aload_n hx hb dX11_hopes_0 rfl (lv_at hl 0 rfl) ?_
  refine iv_getr X ft_X11 hB a_h0 sh_11 0 (by decide) rfl k_fl_X11_12 dX11_hopes_1 (fun b1 g_b1 r_b1 e_b1 a_b1 => ?_)
  refine lv_iload_n hx hb dX11_hopes_4 rfl (lv_at hl 1 rfl) ?_
  refine iv_cVi X k_good k_mf_X5_hasBell k_im_X5_hasBell k_sel_X5_hasBell k_ml_X11_119 ft_X5 hB a_b1 sh_5 (As := [.int x_0]) (c_X5_hasBell l D tys base G b1 g_b1 r_b1 a_b1 x_0 i_x_0) ⟨rfl, rfl⟩ ⟨Nat.le_of_ble_eq_true rfl, Nat.le_of_ble_eq_true rfl⟩ ⟨Nat.le_of_ble_eq_true rfl, Nat.le_of_ble_eq_true rfl⟩ rfl rfl hl.1 (Nat.le_of_ble_eq_true rfl) dX11_hopes_5 (fun x2 G9 H locs hq hB => ?_)
  obtain ⟨rfl, i_x2, hp3⟩ := hq
  refine lv_if_ne (tgt := 13) hx hb dX11_hopes_8 (by decide) (fun c4 => ?_) (fun c4 => ?_)
  · skip
    have i4_x2 : iv_R 1 1 x2 := iv_ne_lo c4 i_x2 q_0 (by decide)
    have i5_x_0 : iv_R 0 9 x_0 := ((i_x_0.cutLo (n := 0) (hp3 c4).1).cutHi (n := 9) (hp3 c4).2)
    refine lv_aload_n hx hb dX11_hopes_13 rfl (lv_at hl 0 rfl) ?_
    refine iv_getr0 X ft_X11 hB a_h0 sh_11 0 (by decide) rfl k_fl_X11_12 dX11_hopes_14 e_b1 ?_
    refine iv_getr X ft_X5 hB a_b1 sh_5 0 (by decide) rfl k_fl_X11_93 dX11_hopes_17 (fun b7 g_b7 r_b7 e_b7 a_b7 => ?_)
    refine lv_iload_n hx hb dX11_hopes_20 rfl (lv_at hl 1 rfl) ?_
    refine iv_aald X hB a_b7 sh_40 (iv_in i5_x_0 (by decide)) dX11_hopes_21 (fun b8 g_b8 r_b8 e_b8 a_b8 => ?_)
    refine iv_geti X ft_X1 hB a_b8 sh_1 3 (by decide) rfl k_fl_X11_122 dX11_hopes_22 (fun x9 e_x9 i_x9 => ?_)
    refine lv_istore_n (lv' := [(2, .int x9), (0, .ref h0), (1, .int x_0)]) hx hb dX11_hopes_25 rfl hl (by decide) rfl (fun ls hl => ?_)
    refine lv_iload_n hx hb dX11_hopes_26 rfl (lv_at hl 0 rfl) ?_
    refine lv_if_ne (tgt := 32) hx hb dX11_hopes_27 (by decide) (fun c10 => ?_) (fun c10 => ?_)
    · skip
      refine lv_aload_n hx hb dX11_hopes_32 rfl (lv_at hl 1 rfl) ?_
      refine iv_getr X ft_X11 hB a_h0 sh_11 7 (by decide) rfl k_fl_X11_42 dX11_hopes_33 (fun b11 g_b11 r_b11 e_b11 a_b11 => ?_)
      refine lv_iload_n hx hb dX11_hopes_36 rfl (lv_at hl 2 rfl) ?_
      refine lv_sipush (v := 133) hx hb dX11_hopes_37 (by decide) ?_
      refine iv_cVi X k_good k_mf_X2_comingOf k_im_X2_comingOf k_sel_X2_comingOf k_ml_X11_261 ft_X2 hB a_b11 sh_2 (As := [.int x_0, .int 133]) (c_X2_comingOf l D tys base G b11 g_b11 r_b11 a_b11 x_0 i5_x_0 133 (q_133.wk (by decide))) ⟨rfl, rfl⟩ ⟨Nat.le_of_ble_eq_true rfl, Nat.le_of_ble_eq_true rfl⟩ ⟨Nat.le_of_ble_eq_true rfl, Nat.le_of_ble_eq_true rfl⟩ rfl rfl hl.1 (Nat.le_of_ble_eq_true rfl) dX11_hopes_40 (fun x12 G9 H locs hq hB => ?_)
      obtain ⟨hm, i_x12⟩ := hq
      obtain ⟨G13, hG9⟩ : ∃ g, g = G9 := ⟨_, rfl⟩
      rw [← hG9] at hm hB
      have hM := hM.stp hm (by decide)
      have a_h0 := hm.at a_h0 (by decide)
      refine lv_istore_n (lv' := [(3, .int x12), (2, .int x9), (0, .ref h0), (1, .int x_0)]) hx hb dX11_hopes_43 rfl hl (by decide) rfl (fun ls hl => ?_)
      refine lv_iload_n hx hb dX11_hopes_44 rfl (lv_at hl 0 rfl) ?_
      refine lv_if_gt (tgt := 52) hx hb dX11_hopes_45 (by decide) (fun c14 => ?_) (fun c14 => ?_)
      · skip
        have i14_x12 : iv_R 1 1000 x12 := (i_x12.cutLo (n := 1) (iv_lt_l c14 q_0 (by decide)))
        refine lv_iload_n hx hb dX11_hopes_52 rfl (lv_at hl 1 rfl) ?_
        refine lv_iload_n hx hb dX11_hopes_53 rfl (lv_at hl 0 rfl) ?_
        refine lv_iadd hx hb dX11_hopes_54 ?_
        refine lv_topi (fun x16 e_x16 => ?_)
        have i_x16 := iv_R.all x16
        refine lv_iconst (v := 1) hx hb dX11_hopes_55 (by decide) ?_
        refine lv_isub hx hb dX11_hopes_56 ?_
        refine lv_topi (fun x17 e_x17 => ?_)
        have i_x17 := iv_R.all x17
        refine lv_iload_n hx hb dX11_hopes_57 rfl (lv_at hl 0 rfl) ?_
        refine lv_idiv hx hb dX11_hopes_58 (iv_nz i14_x12 (by decide)) ?_
        refine lv_topi (fun x18 e_x18 => ?_)
        have i_x18 := iv_R.all x18
        exact iv_iret X hr hlocks hB ⟨hM, i_x18⟩ dX11_hopes_59
      · skip
        have i18_x12 : iv_R 0 0 x12 := (i_x12.cutHi (n := 0) (iv_le_r (iv_nlt c14) q_0))
        refine lv_iconst (v := (-1)) hx hb dX11_hopes_48 (by decide) ?_
        refine lv_goto (tgt := 59) hx hb dX11_hopes_49 (by decide) ?_
        exact iv_iret X hr hlocks hB ⟨hM, (q_n1.wk (by decide))⟩ dX11_hopes_59
    · skip
      have i19_x9 : iv_R 0 0 x9 := ((i_x9.cutLo (n := 0) (iv_eq_r c10 q_0).1).cutHi (n := 0) (iv_eq_r c10 q_0).2)
      refine lv_iconst (v := 0) hx hb dX11_hopes_30 (by decide) ?_
      exact iv_iret X hr hlocks hB ⟨hM, (q_0.wk (by decide))⟩ dX11_hopes_31
  · skip
    have i20_x2 : iv_R 0 0 x2 := (i_x2.cutHi (n := 0) (iv_eq_r c4 q_0).2)
    refine lv_iconst (v := (-1)) hx hb dX11_hopes_11 (by decide) ?_
    exact iv_iret X hr hlocks hB ⟨hM, (q_n1.wk (by decide))⟩ dX11_hopes_12
theorem dX11_isSetForAll_0 : decode cX11_isSetForAll 0 = .ok (.iload_n 1, 1) := by decide +kernel
theorem dX11_isSetForAll_1 : decode cX11_isSetForAll 1 = .ok (.ifCond .ne 23, 3) := by decide +kernel
theorem dX11_isSetForAll_4 : decode cX11_isSetForAll 4 = .ok (.iload_n 2, 1) := by decide +kernel
theorem dX11_isSetForAll_5 : decode cX11_isSetForAll 5 = .ok (.iconst 0, 1) := by decide +kernel
theorem dX11_isSetForAll_6 : decode cX11_isSetForAll 6 = .ok (.bipush 12, 2) := by decide +kernel
theorem dX11_isSetForAll_8 : decode cX11_isSetForAll 8 = .ok (.invokestatic 83, 3) := by decide +kernel
theorem dX11_isSetForAll_11 : decode cX11_isSetForAll 11 = .ok (.ifCond .eq 13, 3) := by decide +kernel
theorem dX11_isSetForAll_14 : decode cX11_isSetForAll 14 = .ok (.aload_n 0, 1) := by decide +kernel
theorem dX11_isSetForAll_15 : decode cX11_isSetForAll 15 = .ok (.getfield 12, 3) := by decide +kernel
theorem dX11_isSetForAll_18 : decode cX11_isSetForAll 18 = .ok (.iload_n 2, 1) := by decide +kernel
theorem dX11_isSetForAll_19 : decode cX11_isSetForAll 19 = .ok (.putfield 110, 3) := by decide +kernel
theorem dX11_isSetForAll_22 : decode cX11_isSetForAll 22 = .ok (.iconst 1, 1) := by decide +kernel
theorem dX11_isSetForAll_23 : decode cX11_isSetForAll 23 = .ok (.ireturn, 1) := by decide +kernel
theorem dX11_isSetForAll_24 : decode cX11_isSetForAll 24 = .ok (.iload_n 1, 1) := by decide +kernel
theorem dX11_isSetForAll_25 : decode cX11_isSetForAll 25 = .ok (.iconst 1, 1) := by decide +kernel
theorem dX11_isSetForAll_26 : decode cX11_isSetForAll 26 = .ok (.if_icmp .ne 23, 3) := by decide +kernel
theorem dX11_isSetForAll_29 : decode cX11_isSetForAll 29 = .ok (.iload_n 2, 1) := by decide +kernel
theorem dX11_isSetForAll_30 : decode cX11_isSetForAll 30 = .ok (.iconst 0, 1) := by decide +kernel
theorem dX11_isSetForAll_31 : decode cX11_isSetForAll 31 = .ok (.bipush 9, 2) := by decide +kernel
theorem dX11_isSetForAll_33 : decode cX11_isSetForAll 33 = .ok (.invokestatic 83, 3) := by decide +kernel
theorem dX11_isSetForAll_36 : decode cX11_isSetForAll 36 = .ok (.ifCond .eq 13, 3) := by decide +kernel
theorem dX11_isSetForAll_39 : decode cX11_isSetForAll 39 = .ok (.aload_n 0, 1) := by decide +kernel
theorem dX11_isSetForAll_40 : decode cX11_isSetForAll 40 = .ok (.getfield 12, 3) := by decide +kernel
theorem dX11_isSetForAll_43 : decode cX11_isSetForAll 43 = .ok (.iload_n 2, 1) := by decide +kernel
theorem dX11_isSetForAll_44 : decode cX11_isSetForAll 44 = .ok (.putfield 113, 3) := by decide +kernel
theorem dX11_isSetForAll_47 : decode cX11_isSetForAll 47 = .ok (.iconst 1, 1) := by decide +kernel
theorem dX11_isSetForAll_48 : decode cX11_isSetForAll 48 = .ok (.ireturn, 1) := by decide +kernel
theorem dX11_isSetForAll_49 : decode cX11_isSetForAll 49 = .ok (.iload_n 1, 1) := by decide +kernel
theorem dX11_isSetForAll_50 : decode cX11_isSetForAll 50 = .ok (.iconst 2, 1) := by decide +kernel
theorem dX11_isSetForAll_51 : decode cX11_isSetForAll 51 = .ok (.if_icmp .ne 24, 3) := by decide +kernel
theorem dX11_isSetForAll_54 : decode cX11_isSetForAll 54 = .ok (.iload_n 2, 1) := by decide +kernel
theorem dX11_isSetForAll_55 : decode cX11_isSetForAll 55 = .ok (.iconst 0, 1) := by decide +kernel
theorem dX11_isSetForAll_56 : decode cX11_isSetForAll 56 = .ok (.sipush 1000, 3) := by decide +kernel
theorem dX11_isSetForAll_59 : decode cX11_isSetForAll 59 = .ok (.invokestatic 83, 3) := by decide +kernel
theorem dX11_isSetForAll_62 : decode cX11_isSetForAll 62 = .ok (.ifCond .eq 13, 3) := by decide +kernel
theorem dX11_isSetForAll_65 : decode cX11_isSetForAll 65 = .ok (.aload_n 0, 1) := by decide +kernel
theorem dX11_isSetForAll_66 : decode cX11_isSetForAll 66 = .ok (.getfield 12, 3) := by decide +kernel
theorem dX11_isSetForAll_69 : decode cX11_isSetForAll 69 = .ok (.iload_n 2, 1) := by decide +kernel
theorem dX11_isSetForAll_70 : decode cX11_isSetForAll 70 = .ok (.putfield 116, 3) := by decide +kernel
theorem dX11_isSetForAll_73 : decode cX11_isSetForAll 73 = .ok (.iconst 1, 1) := by decide +kernel
theorem dX11_isSetForAll_74 : decode cX11_isSetForAll 74 = .ok (.ireturn, 1) := by decide +kernel
theorem dX11_isSetForAll_75 : decode cX11_isSetForAll 75 = .ok (.iconst 0, 1) := by decide +kernel
theorem dX11_isSetForAll_76 : decode cX11_isSetForAll 76 = .ok (.ireturn, 1) := by decide +kernel
set_option maxHeartbeats 4000000 in
set_option maxRecDepth 100000 in
theorem c_X11_isSetForAll (l : Launch) (D : va_G) (tys : List (ClassId × FieldType)) (base : Nat) (G : iv_G) (h0 : Nat) (g_h0 : Nat → Int32) (r_h0 : Nat → Nat) (a_h0 : G h0 = some (11, g_h0, r_h0)) (x_0 : Int32) (i_x_0 : iv_R (-2147483648) 2 x_0) (x_1 : Int32) (i_x_1 : iv_R (-2147483648) 2147483647 x_1) : Met l yX11_isSetForAll (Cond.code yX11_isSetForAll cX11_isSetForAll 3 (some .boolean) :: iv_W0) ({ frames := 1, cells := 0, slots := 0, locals := 22 }) (iv_Pc iv_sh D classes tys base G [.ref h0, .int x_0, .int x_1]) (iv_Qi iv_sh D classes tys base (fun v G' => iv_Md [5] G G' ∧ iv_R 0 1 v ∧ ((¬ v = 0 → iv_R 0 2 x_0) ∧ (¬ v = 0 → iv_R 0 1000 x_1)))) 0 0 (iv_A base) := by
  refine iv_head (by decide) (Nat.le_of_ble_eq_true rfl) ?_
  intro p e s m args below meth c ls X hr hlocks hname hB hl
  have X := X
  have hx := X.1.1
  have hb := X.1.2.1
  have hM : iv_Md [5] G G := iv_Md.rf
  have hl : lv_has ls 3 [(0, .ref h0), (1, .int x_0), (2, .int x_1)] := hl
  refine lv_iload_n hx hb dX11_isSetForAll_0 rfl (lv_at hl 1 rfl) ?_
  refine lv_if_ne (tgt := 24) hx hb dX11_isSetForAll_1 (by decide) (fun c1 => ?_) (fun c1 => ?_)
  · skip
    refine lv_iload_n hx hb dX11_isSetForAll_24 rfl (lv_at hl 1 rfl) ?_
    refine lv_iconst (v := 1) hx hb dX11_isSetForAll_25 (by decide) ?_
    refine lv_icmp_ne (tgt := 49) hx hb dX11_isSetForAll_26 (by decide) (fun c2 => ?_) (fun c2 => ?_)
    · skip
      refine lv_iload_n hx hb dX11_isSetForAll_49 rfl (lv_at hl 1 rfl) ?_
      refine lv_iconst (v := 2) hx hb dX11_isSetForAll_50 (by decide) ?_
      refine lv_icmp_ne (tgt := 75) hx hb dX11_isSetForAll_51 (by decide) (fun c3 => ?_) (fun c3 => ?_)
      · skip
        have i3_x_0 : iv_R (-2147483648) 1 x_0 := iv_ne_hi c3 i_x_0 q_2 (by decide)
        refine lv_iconst (v := 0) hx hb dX11_isSetForAll_75 (by decide) ?_
        exact iv_zret X hr hlocks hB (q_0.wk (by decide)) ⟨hM, (q_0.wk (by decide)), ⟨fun h => absurd (iv_z q_0) h, fun h => absurd (iv_z q_0) h⟩⟩ dX11_isSetForAll_76
      · skip
        have i4_x_0 : iv_R 2 2 x_0 := (i_x_0.cutLo (n := 2) (iv_eq_r c3 q_2).1)
        refine lv_iload_n hx hb dX11_isSetForAll_54 rfl (lv_at hl 2 rfl) ?_
        refine lv_iconst (v := 0) hx hb dX11_isSetForAll_55 (by decide) ?_
        refine lv_sipush (v := 1000) hx hb dX11_isSetForAll_56 (by decide) ?_
        refine iv_cSi X k_good k_mf_X11_isWithin k_st_X11_isWithin k_ml_X11_83 hB (As := [.int x_1, .int 0, .int 1000]) (c_X11_isWithin l D tys base G x_1 i_x_1 0 (q_0.wk (by decide)) 1000 (q_1000.wk (by decide))) ⟨rfl, rfl⟩ ⟨Nat.le_of_ble_eq_true rfl, Nat.le_of_ble_eq_true rfl⟩ ⟨Nat.le_of_ble_eq_true rfl, Nat.le_of_ble_eq_true rfl⟩ rfl rfl hl.1 (Nat.le_of_ble_eq_true rfl) dX11_isSetForAll_59 (fun x6 G9 H locs hq hB => ?_)
        obtain ⟨rfl, i_x6, hp7⟩ := hq
        have k8 : ¬ x6 = 0 → iv_R 0 1000 x_1 := fun h => ⟨iv_max i_x_1.1 (Int.le_trans q_0.1 (hp7.1 h).1) (by decide), iv_min i_x_1.2 (Int.le_trans (hp7.1 h).2 q_1000.2) (by decide)⟩
        refine lv_if_eq (tgt := 75) hx hb dX11_isSetForAll_62 (by decide) (fun c9 => ?_) (fun c9 => ?_)
        · skip
          have i9_x6 : iv_R 0 0 x6 := (i_x6.cutHi (n := 0) (iv_eq_r c9 q_0).2)
          refine lv_iconst (v := 0) hx hb dX11_isSetForAll_75 (by decide) ?_
          exact iv_zret X hr hlocks hB (q_0.wk (by decide)) ⟨hM, (q_0.wk (by decide)), ⟨fun _ => (i4_x_0.wk (by decide)), fun h => absurd (iv_z q_0) h⟩⟩ dX11_isSetForAll_76
        · skip
          have i10_x6 : iv_R 1 1 x6 := iv_ne_lo c9 i_x6 q_0 (by decide)
          have i11_x_1 : iv_R 0 1000 x_1 := ((i_x_1.cutLo (n := 0) (k8 c9).1).cutHi (n := 1000) (k8 c9).2)
          refine lv_aload_n hx hb dX11_isSetForAll_65 rfl (lv_at hl 0 rfl) ?_
          refine iv_getr X ft_X11 hB a_h0 sh_11 0 (by decide) rfl k_fl_X11_12 dX11_isSetForAll_66 (fun b13 g_b13 r_b13 e_b13 a_b13 => ?_)
          refine lv_iload_n hx hb dX11_isSetForAll_69 rfl (lv_at hl 2 rfl) ?_
          refine iv_puti X ft_X5 hB a_b13 sh_5 5 (by decide) rfl rfl k_fl_X11_116 rfl (i11_x_1.wk (by decide)) rfl rfl dX11_isSetForAll_70 (fun H locs hB => ?_)
          have hm := iv_Md.put (x := x_1) a_b13 (j := 5) (by decide) (by decide)
          have h9 := iv_up_eq (G := G) (a := b13) (k := (5, upd g_b13 5 x_1, r_b13))
          generalize iv_up G b13 _ = G14 at hB hm h9
          have hM := hM.stp hm (by decide)
          have a_h0 := hm.at a_h0 (by decide)
          refine lv_iconst (v := 1) hx hb dX11_isSetForAll_73 (by decide) ?_
          exact iv_zret X hr hlocks hB (q_1.wk (by decide)) ⟨hM, (q_1.wk (by decide)), ⟨fun _ => (i4_x_0.wk (by decide)), fun _ => i11_x_1⟩⟩ dX11_isSetForAll_74
    · skip
      have i15_x_0 : iv_R 1 1 x_0 := ((i_x_0.cutLo (n := 1) (iv_eq_r c2 q_1).1).cutHi (n := 1) (iv_eq_r c2 q_1).2)
      refine lv_iload_n hx hb dX11_isSetForAll_29 rfl (lv_at hl 2 rfl) ?_
      refine lv_iconst (v := 0) hx hb dX11_isSetForAll_30 (by decide) ?_
      refine lv_bipush (v := 9) hx hb dX11_isSetForAll_31 (by decide) ?_
      refine iv_cSi X k_good k_mf_X11_isWithin k_st_X11_isWithin k_ml_X11_83 hB (As := [.int x_1, .int 0, .int 9]) (c_X11_isWithin l D tys base G x_1 i_x_1 0 (q_0.wk (by decide)) 9 (q_9.wk (by decide))) ⟨rfl, rfl⟩ ⟨Nat.le_of_ble_eq_true rfl, Nat.le_of_ble_eq_true rfl⟩ ⟨Nat.le_of_ble_eq_true rfl, Nat.le_of_ble_eq_true rfl⟩ rfl rfl hl.1 (Nat.le_of_ble_eq_true rfl) dX11_isSetForAll_33 (fun x17 G9 H locs hq hB => ?_)
      obtain ⟨rfl, i_x17, hp18⟩ := hq
      have k19 : ¬ x17 = 0 → iv_R 0 9 x_1 := fun h => ⟨iv_max i_x_1.1 (Int.le_trans q_0.1 (hp18.1 h).1) (by decide), iv_min i_x_1.2 (Int.le_trans (hp18.1 h).2 q_9.2) (by decide)⟩
      refine lv_if_eq (tgt := 49) hx hb dX11_isSetForAll_36 (by decide) (fun c20 => ?_) (fun c20 => ?_)
      · skip
        have i20_x17 : iv_R 0 0 x17 := (i_x17.cutHi (n := 0) (iv_eq_r c20 q_0).2)
        refine lv_iload_n hx hb dX11_isSetForAll_49 rfl (lv_at hl 1 rfl) ?_
        refine lv_iconst (v := 2) hx hb dX11_isSetForAll_50 (by decide) ?_
        refine lv_icmp_ne (tgt := 75) hx hb dX11_isSetForAll_51 (by decide) (fun c22 => ?_) (fun c22 => ?_)
        · skip
          refine lv_iconst (v := 0) hx hb dX11_isSetForAll_75 (by decide) ?_
          exact iv_zret X hr hlocks hB (q_0.wk (by decide)) ⟨hM, (q_0.wk (by decide)), ⟨fun _ => (i15_x_0.wk (by decide)), fun h => absurd (iv_z q_0) h⟩⟩ dX11_isSetForAll_76
        · skip
          exact (i15_x_0.cutLo (n := 2) (iv_eq_r c22 q_2).1).no (by decide)
      · skip
        have i22_x17 : iv_R 1 1 x17 := iv_ne_lo c20 i_x17 q_0 (by decide)
        have i23_x_1 : iv_R 0 9 x_1 := ((i_x_1.cutLo (n := 0) (k19 c20).1).cutHi (n := 9) (k19 c20).2)
        refine lv_aload_n hx hb dX11_isSetForAll_39 rfl (lv_at hl 0 rfl) ?_
        refine iv_getr X ft_X11 hB a_h0 sh_11 0 (by decide) rfl k_fl_X11_12 dX11_isSetForAll_40 (fun b25 g_b25 r_b25 e_b25 a_b25 => ?_)
        refine lv_iload_n hx hb dX11_isSetForAll_43 rfl (lv_at hl 2 rfl) ?_
        refine iv_puti X ft_X5 hB a_b25 sh_5 4 (by decide) rfl rfl k_fl_X11_113 rfl (i23_x_1.wk (by decide)) rfl rfl dX11_isSetForAll_44 (fun H locs hB => ?_)
        have hm := iv_Md.put (x := x_1) a_b25 (j := 4) (by decide) (by decide)
        have h9 := iv_up_eq (G := G) (a := b25) (k := (5, upd g_b25 4 x_1, r_b25))
        generalize iv_up G b25 _ = G26 at hB hm h9
        have hM := hM.stp hm (by decide)
        have a_h0 := hm.at a_h0 (by decide)
        refine lv_iconst (v := 1) hx hb dX11_isSetForAll_47 (by decide) ?_
        exact iv_zret X hr hlocks hB (q_1.wk (by decide)) ⟨hM, (q_1.wk (by decide)), ⟨fun _ => (i15_x_0.wk (by decide)), fun _ => (i23_x_1.wk (by decide))⟩⟩ dX11_isSetForAll_48
  · skip
    have i27_x_0 : iv_R 0 0 x_0 := ((i_x_0.cutLo (n := 0) (iv_eq_r c1 q_0).1).cutHi (n := 0) (iv_eq_r c1 q_0).2)
    refine lv_iload_n hx hb dX11_isSetForAll_4 rfl (lv_at hl 2 rfl) ?_
    refine lv_iconst (v := 0) hx hb dX11_isSetForAll_5 (by decide) ?_
    refine lv_bipush (v := 12) hx hb dX11_isSetForAll_6 (by decide) ?_
    refine iv_cSi X k_good k_mf_X11_isWithin k_st_X11_isWithin k_ml_X11_83 hB (As := [.int x_1, .int 0, .int 12]) (c_X11_isWithin l D tys base G x_1 i_x_1 0 (q_0.wk (by decide)) 12 (q_12.wk (by decide))) ⟨rfl, rfl⟩ ⟨Nat.le_of_ble_eq_true rfl, Nat.le_of_ble_eq_true rfl⟩ ⟨Nat.le_of_ble_eq_true rfl, Nat.le_of_ble_eq_true rfl⟩ rfl rfl hl.1 (Nat.le_of_ble_eq_true rfl) dX11_isSetForAll_8 (fun x29 G9 H locs hq hB => ?_)
    obtain ⟨rfl, i_x29, hp30⟩ := hq
    have k31 : ¬ x29 = 0 → iv_R 0 12 x_1 := fun h => ⟨iv_max i_x_1.1 (Int.le_trans q_0.1 (hp30.1 h).1) (by decide), iv_min i_x_1.2 (Int.le_trans (hp30.1 h).2 q_12.2) (by decide)⟩
    refine lv_if_eq (tgt := 24) hx hb dX11_isSetForAll_11 (by decide) (fun c32 => ?_) (fun c32 => ?_)
    · skip
      have i32_x29 : iv_R 0 0 x29 := (i_x29.cutHi (n := 0) (iv_eq_r c32 q_0).2)
      refine lv_iload_n hx hb dX11_isSetForAll_24 rfl (lv_at hl 1 rfl) ?_
      refine lv_iconst (v := 1) hx hb dX11_isSetForAll_25 (by decide) ?_
      refine lv_icmp_ne (tgt := 49) hx hb dX11_isSetForAll_26 (by decide) (fun c34 => ?_) (fun c34 => ?_)
      · skip
        refine lv_iload_n hx hb dX11_isSetForAll_49 rfl (lv_at hl 1 rfl) ?_
        refine lv_iconst (v := 2) hx hb dX11_isSetForAll_50 (by decide) ?_
        refine lv_icmp_ne (tgt := 75) hx hb dX11_isSetForAll_51 (by decide) (fun c35 => ?_) (fun c35 => ?_)
        · skip
          refine lv_iconst (v := 0) hx hb dX11_isSetForAll_75 (by decide) ?_
          exact iv_zret X hr hlocks hB (q_0.wk (by decide)) ⟨hM, (q_0.wk (by decide)), ⟨fun _ => (i27_x_0.wk (by decide)), fun h => absurd (iv_z q_0) h⟩⟩ dX11_isSetForAll_76
        · skip
          exact (i27_x_0.cutLo (n := 2) (iv_eq_r c35 q_2).1).no (by decide)
      · skip
        exact (i27_x_0.cutLo (n := 1) (iv_eq_r c34 q_1).1).no (by decide)
    · skip
      have i35_x29 : iv_R 1 1 x29 := iv_ne_lo c32 i_x29 q_0 (by decide)
      have i36_x_1 : iv_R 0 12 x_1 := ((i_x_1.cutLo (n := 0) (k31 c32).1).cutHi (n := 12) (k31 c32).2)
      refine lv_aload_n hx hb dX11_isSetForAll_14 rfl (lv_at hl 0 rfl) ?_
      refine iv_getr X ft_X11 hB a_h0 sh_11 0 (by decide) rfl k_fl_X11_12 dX11_isSetForAll_15 (fun b38 g_b38 r_b38 e_b38 a_b38 => ?_)
      refine lv_iload_n hx hb dX11_isSetForAll_18 rfl (lv_at hl 2 rfl) ?_
      refine iv_puti X ft_X5 hB a_b38 sh_5 3 (by decide) rfl rfl k_fl_X11_110 rfl (i36_x_1.wk (by decide)) rfl rfl dX11_isSetForAll_19 (fun H locs hB => ?_)
      have hm := iv_Md.put (x := x_1) a_b38 (j := 3) (by decide) (by decide)
      have h9 := iv_up_eq (G := G) (a := b38) (k := (5, upd g_b38 3 x_1, r_b38))
      generalize iv_up G b38 _ = G39 at hB hm h9
      have hM := hM.stp hm (by decide)
      have a_h0 := hm.at a_h0 (by decide)
      refine lv_iconst (v := 1) hx hb dX11_isSetForAll_22 (by decide) ?_
      exact iv_zret X hr hlocks hB (q_1.wk (by decide)) ⟨hM, (q_1.wk (by decide)), ⟨fun _ => (i27_x_0.wk (by decide)), fun _ => (i36_x_1.wk (by decide))⟩⟩ dX11_isSetForAll_23
theorem dX11_isSetForBell_0 : decode cX11_isSetForBell 0 = .ok (.aload_n 0, 1) := by decide +kernel
theorem dX11_isSetForBell_1 : decode cX11_isSetForBell 1 = .ok (.getfield 12, 3) := by decide +kernel
theorem dX11_isSetForBell_4 : decode cX11_isSetForBell 4 = .ok (.iload_n 2, 1) := by decide +kernel
theorem dX11_isSetForBell_5 : decode cX11_isSetForBell 5 = .ok (.invokevirtual 119, 3) := by decide +kernel
theorem dX11_isSetForBell_8 : decode cX11_isSetForBell 8 = .ok (.ifCond .ne 5, 3) := by decide +kernel
theorem dX11_isSetForBell_11 : decode cX11_isSetForBell 11 = .ok (.iconst 0, 1) := by decide +kernel
theorem dX11_isSetForBell_12 : decode cX11_isSetForBell 12 = .ok (.ireturn, 1) := by decide +kernel
theorem dX11_isSetForBell_13 : decode cX11_isSetForBell 13 = .ok (.aload_n 0, 1) := by decide +kernel
theorem dX11_isSetForBell_14 : decode cX11_isSetForBell 14 = .ok (.getfield 12, 3) := by decide +kernel
theorem dX11_isSetForBell_17 : decode cX11_isSetForBell 17 = .ok (.getfield 93, 3) := by decide +kernel
theorem dX11_isSetForBell_20 : decode cX11_isSetForBell 20 = .ok (.iload_n 2, 1) := by decide +kernel
theorem dX11_isSetForBell_21 : decode cX11_isSetForBell 21 = .ok (.aaload, 1) := by decide +kernel
theorem dX11_isSetForBell_22 : decode cX11_isSetForBell 22 = .ok (.astore 4, 2) := by decide +kernel
theorem dX11_isSetForBell_24 : decode cX11_isSetForBell 24 = .ok (.iload_n 1, 1) := by decide +kernel
theorem dX11_isSetForBell_25 : decode cX11_isSetForBell 25 = .ok (.iconst 3, 1) := by decide +kernel
theorem dX11_isSetForBell_26 : decode cX11_isSetForBell 26 = .ok (.if_icmp .ne 21, 3) := by decide +kernel
theorem dX11_isSetForBell_29 : decode cX11_isSetForBell 29 = .ok (.iload_n 3, 1) := by decide +kernel
theorem dX11_isSetForBell_30 : decode cX11_isSetForBell 30 = .ok (.iconst 0, 1) := by decide +kernel
theorem dX11_isSetForBell_31 : decode cX11_isSetForBell 31 = .ok (.bipush 99, 2) := by decide +kernel
theorem dX11_isSetForBell_33 : decode cX11_isSetForBell 33 = .ok (.invokestatic 83, 3) := by decide +kernel
theorem dX11_isSetForBell_36 : decode cX11_isSetForBell 36 = .ok (.ifCond .eq 11, 3) := by decide +kernel
theorem dX11_isSetForBell_39 : decode cX11_isSetForBell 39 = .ok (.aload 4, 2) := by decide +kernel
theorem dX11_isSetForBell_41 : decode cX11_isSetForBell 41 = .ok (.iload_n 3, 1) := by decide +kernel
theorem dX11_isSetForBell_42 : decode cX11_isSetForBell 42 = .ok (.putfield 122, 3) := by decide +kernel
theorem dX11_isSetForBell_45 : decode cX11_isSetForBell 45 = .ok (.iconst 1, 1) := by decide +kernel
theorem dX11_isSetForBell_46 : decode cX11_isSetForBell 46 = .ok (.ireturn, 1) := by decide +kernel
theorem dX11_isSetForBell_47 : decode cX11_isSetForBell 47 = .ok (.iload_n 1, 1) := by decide +kernel
theorem dX11_isSetForBell_48 : decode cX11_isSetForBell 48 = .ok (.iconst 4, 1) := by decide +kernel
theorem dX11_isSetForBell_49 : decode cX11_isSetForBell 49 = .ok (.if_icmp .ne 20, 3) := by decide +kernel
theorem dX11_isSetForBell_52 : decode cX11_isSetForBell 52 = .ok (.iload_n 3, 1) := by decide +kernel
theorem dX11_isSetForBell_53 : decode cX11_isSetForBell 53 = .ok (.iconst 0, 1) := by decide +kernel
theorem dX11_isSetForBell_54 : decode cX11_isSetForBell 54 = .ok (.iconst 1, 1) := by decide +kernel
theorem dX11_isSetForBell_55 : decode cX11_isSetForBell 55 = .ok (.invokestatic 83, 3) := by decide +kernel
theorem dX11_isSetForBell_58 : decode cX11_isSetForBell 58 = .ok (.ifCond .eq 11, 3) := by decide +kernel
theorem dX11_isSetForBell_61 : decode cX11_isSetForBell 61 = .ok (.aload 4, 2) := by decide +kernel
theorem dX11_isSetForBell_63 : decode cX11_isSetForBell 63 = .ok (.iload_n 3, 1) := by decide +kernel
theorem dX11_isSetForBell_64 : decode cX11_isSetForBell 64 = .ok (.putfield 125, 3) := by decide +kernel
theorem dX11_isSetForBell_67 : decode cX11_isSetForBell 67 = .ok (.iconst 1, 1) := by decide +kernel
theorem dX11_isSetForBell_68 : decode cX11_isSetForBell 68 = .ok (.ireturn, 1) := by decide +kernel
theorem dX11_isSetForBell_69 : decode cX11_isSetForBell 69 = .ok (.iload_n 1, 1) := by decide +kernel
theorem dX11_isSetForBell_70 : decode cX11_isSetForBell 70 = .ok (.iconst 5, 1) := by decide +kernel
theorem dX11_isSetForBell_71 : decode cX11_isSetForBell 71 = .ok (.if_icmp .ne 21, 3) := by decide +kernel
theorem dX11_isSetForBell_74 : decode cX11_isSetForBell 74 = .ok (.iload_n 3, 1) := by decide +kernel
theorem dX11_isSetForBell_75 : decode cX11_isSetForBell 75 = .ok (.iconst 0, 1) := by decide +kernel
theorem dX11_isSetForBell_76 : decode cX11_isSetForBell 76 = .ok (.bipush 47, 2) := by decide +kernel
theorem dX11_isSetForBell_78 : decode cX11_isSetForBell 78 = .ok (.invokestatic 83, 3) := by decide +kernel
theorem dX11_isSetForBell_81 : decode cX11_isSetForBell 81 = .ok (.ifCond .eq 11, 3) := by decide +kernel
theorem dX11_isSetForBell_84 : decode cX11_isSetForBell 84 = .ok (.aload 4, 2) := by decide +kernel
theorem dX11_isSetForBell_86 : decode cX11_isSetForBell 86 = .ok (.iload_n 3, 1) := by decide +kernel
theorem dX11_isSetForBell_87 : decode cX11_isSetForBell 87 = .ok (.putfield 128, 3) := by decide +kernel
theorem dX11_isSetForBell_90 : decode cX11_isSetForBell 90 = .ok (.iconst 1, 1) := by decide +kernel
theorem dX11_isSetForBell_91 : decode cX11_isSetForBell 91 = .ok (.ireturn, 1) := by decide +kernel
theorem dX11_isSetForBell_92 : decode cX11_isSetForBell 92 = .ok (.iconst 0, 1) := by decide +kernel
theorem dX11_isSetForBell_93 : decode cX11_isSetForBell 93 = .ok (.ireturn, 1) := by decide +kernel
set_option maxHeartbeats 4000000 in
set_option maxRecDepth 100000 in
theorem c_X11_isSetForBell (l : Launch) (D : va_G) (tys : List (ClassId × FieldType)) (base : Nat) (G : iv_G) (h0 : Nat) (g_h0 : Nat → Int32) (r_h0 : Nat → Nat) (a_h0 : G h0 = some (11, g_h0, r_h0)) (x_0 : Int32) (i_x_0 : iv_R 3 2147483647 x_0) (x_1 : Int32) (i_x_1 : iv_R (-2147483648) 2147483647 x_1) (x_2 : Int32) (i_x_2 : iv_R (-2147483648) 2147483647 x_2) : Met l yX11_isSetForBell (Cond.code yX11_isSetForBell cX11_isSetForBell 5 (some .boolean) :: iv_W0) ({ frames := 1, cells := 0, slots := 0, locals := 22 }) (iv_Pc iv_sh D classes tys base G [.ref h0, .int x_0, .int x_1, .int x_2]) (iv_Qi iv_sh D classes tys base (fun v G' => iv_Md [1] G G' ∧ iv_R 0 1 v ∧ ((¬ v = 0 → iv_R 3 5 x_0) ∧ (¬ v = 0 → iv_R 0 9 x_1) ∧ (¬ v = 0 → iv_R 0 99 x_2)))) 0 0 (iv_A base) := by
  refine iv_head (by decide) (Nat.le_of_ble_eq_true rfl) ?_
  intro p e s m args below meth c ls X hr hlocks hname hB hl
  have X := X
  have hx := X.1.1
  have hb := X.1.2.1
  have hM : iv_Md [1] G G := iv_Md.rf
  have hl : lv_has ls 5 [(0, .ref h0), (1, .int x_0), (2, .int x_1), (3, .int x_2)] := hl
  refine lv_aload_n hx hb dX11_isSetForBell_0 rfl (lv_at hl 0 rfl) ?_
  refine iv_getr X ft_X11 hB a_h0 sh_11 0 (by decide) rfl k_fl_X11_12 dX11_isSetForBell_1 (fun b1 g_b1 r_b1 e_b1 a_b1 => ?_)
  refine lv_iload_n hx hb dX11_isSetForBell_4 rfl (lv_at hl 2 rfl) ?_
  refine iv_cVi X k_good k_mf_X5_hasBell k_im_X5_hasBell k_sel_X5_hasBell k_ml_X11_119 ft_X5 hB a_b1 sh_5 (As := [.int x_1]) (c_X5_hasBell l D tys base G b1 g_b1 r_b1 a_b1 x_1 i_x_1) ⟨rfl, rfl⟩ ⟨Nat.le_of_ble_eq_true rfl, Nat.le_of_ble_eq_true rfl⟩ ⟨Nat.le_of_ble_eq_true rfl, Nat.le_of_ble_eq_true rfl⟩ rfl rfl hl.1 (Nat.le_of_ble_eq_true rfl) dX11_isSetForBell_5 (fun x2 G9 H locs hq hB => ?_)
  obtain ⟨rfl, i_x2, hp3⟩ := hq
  refine lv_if_ne (tgt := 13) hx hb dX11_isSetForBell_8 (by decide) (fun c4 => ?_) (fun c4 => ?_)
  · skip
    have i4_x2 : iv_R 1 1 x2 := iv_ne_lo c4 i_x2 q_0 (by decide)
    have i5_x_1 : iv_R 0 9 x_1 := ((i_x_1.cutLo (n := 0) (hp3 c4).1).cutHi (n := 9) (hp3 c4).2)
    refine lv_aload_n hx hb dX11_isSetForBell_13 rfl (lv_at hl 0 rfl) ?_
    refine iv_getr0 X ft_X11 hB a_h0 sh_11 0 (by decide) rfl k_fl_X11_12 dX11_isSetForBell_14 e_b1 ?_
    refine iv_getr X ft_X5 hB a_b1 sh_5 0 (by decide) rfl k_fl_X11_93 dX11_isSetForBell_17 (fun b7 g_b7 r_b7 e_b7 a_b7 => ?_)
    refine lv_iload_n hx hb dX11_isSetForBell_20 rfl (lv_at hl 2 rfl) ?_
    refine iv_aald X hB a_b7 sh_40 (iv_in i5_x_1 (by decide)) dX11_isSetForBell_21 (fun b8 g_b8 r_b8 e_b8 a_b8 => ?_)
    refine lv_astore (lv' := [(4, .ref b8), (0, .ref h0), (1, .int x_0), (2, .int x_1), (3, .int x_2)]) hx hb dX11_isSetForBell_22 hl (by decide) rfl (fun ls hl => ?_)
    refine lv_iload_n hx hb dX11_isSetForBell_24 rfl (lv_at hl 2 rfl) ?_
    refine lv_iconst (v := 3) hx hb dX11_isSetForBell_25 (by decide) ?_
    refine lv_icmp_ne (tgt := 47) hx hb dX11_isSetForBell_26 (by decide) (fun c9 => ?_) (fun c9 => ?_)
    · skip
      have i9_x_0 : iv_R 4 2147483647 x_0 := iv_ne_lo c9 i_x_0 q_3 (by decide)
      refine lv_iload_n hx hb dX11_isSetForBell_47 rfl (lv_at hl 2 rfl) ?_
      refine lv_iconst (v := 4) hx hb dX11_isSetForBell_48 (by decide) ?_
      refine lv_icmp_ne (tgt := 69) hx hb dX11_isSetForBell_49 (by decide) (fun c11 => ?_) (fun c11 => ?_)
      · skip
        have i11_x_0 : iv_R 5 2147483647 x_0 := iv_ne_lo c11 i9_x_0 q_4 (by decide)
        refine lv_iload_n hx hb dX11_isSetForBell_69 rfl (lv_at hl 2 rfl) ?_
        refine lv_iconst (v := 5) hx hb dX11_isSetForBell_70 (by decide) ?_
        refine lv_icmp_ne (tgt := 92) hx hb dX11_isSetForBell_71 (by decide) (fun c13 => ?_) (fun c13 => ?_)
        · skip
          have i13_x_0 : iv_R 6 2147483647 x_0 := iv_ne_lo c13 i11_x_0 q_5 (by decide)
          refine lv_iconst (v := 0) hx hb dX11_isSetForBell_92 (by decide) ?_
          exact iv_zret X hr hlocks hB (q_0.wk (by decide)) ⟨hM, (q_0.wk (by decide)), ⟨fun h => absurd (iv_z q_0) h, fun _ => i5_x_1, fun h => absurd (iv_z q_0) h⟩⟩ dX11_isSetForBell_93
        · skip
          have i14_x_0 : iv_R 5 5 x_0 := (i11_x_0.cutHi (n := 5) (iv_eq_r c13 q_5).2)
          refine lv_iload_n hx hb dX11_isSetForBell_74 rfl (lv_at hl 4 rfl) ?_
          refine lv_iconst (v := 0) hx hb dX11_isSetForBell_75 (by decide) ?_
          refine lv_bipush (v := 47) hx hb dX11_isSetForBell_76 (by decide) ?_
          refine iv_cSi X k_good k_mf_X11_isWithin k_st_X11_isWithin k_ml_X11_83 hB (As := [.int x_2, .int 0, .int 47]) (c_X11_isWithin l D tys base G x_2 i_x_2 0 (q_0.wk (by decide)) 47 (q_47.wk (by decide))) ⟨rfl, rfl⟩ ⟨Nat.le_of_ble_eq_true rfl, Nat.le_of_ble_eq_true rfl⟩ ⟨Nat.le_of_ble_eq_true rfl, Nat.le_of_ble_eq_true rfl⟩ rfl rfl hl.1 (Nat.le_of_ble_eq_true rfl) dX11_isSetForBell_78 (fun x16 G9 H locs hq hB => ?_)
          obtain ⟨rfl, i_x16, hp17⟩ := hq
          have k18 : ¬ x16 = 0 → iv_R 0 47 x_2 := fun h => ⟨iv_max i_x_2.1 (Int.le_trans q_0.1 (hp17.1 h).1) (by decide), iv_min i_x_2.2 (Int.le_trans (hp17.1 h).2 q_47.2) (by decide)⟩
          refine lv_if_eq (tgt := 92) hx hb dX11_isSetForBell_81 (by decide) (fun c19 => ?_) (fun c19 => ?_)
          · skip
            have i19_x16 : iv_R 0 0 x16 := (i_x16.cutHi (n := 0) (iv_eq_r c19 q_0).2)
            refine lv_iconst (v := 0) hx hb dX11_isSetForBell_92 (by decide) ?_
            exact iv_zret X hr hlocks hB (q_0.wk (by decide)) ⟨hM, (q_0.wk (by decide)), ⟨fun _ => (i14_x_0.wk (by decide)), fun _ => i5_x_1, fun h => absurd (iv_z q_0) h⟩⟩ dX11_isSetForBell_93
          · skip
            have i20_x16 : iv_R 1 1 x16 := iv_ne_lo c19 i_x16 q_0 (by decide)
            have i21_x_2 : iv_R 0 47 x_2 := ((i_x_2.cutLo (n := 0) (k18 c19).1).cutHi (n := 47) (k18 c19).2)
            refine lv_aload hx hb dX11_isSetForBell_84 (lv_at hl 0 rfl) ?_
            refine lv_iload_n hx hb dX11_isSetForBell_86 rfl (lv_at hl 4 rfl) ?_
            refine iv_puti X ft_X1 hB a_b8 sh_1 1 (by decide) rfl rfl k_fl_X11_128 rfl (i21_x_2.wk (by decide)) rfl rfl dX11_isSetForBell_87 (fun H locs hB => ?_)
            have hm := iv_Md.put (x := x_2) a_b8 (j := 1) (by decide) (by decide)
            have h9 := iv_up_eq (G := G) (a := b8) (k := (1, upd g_b8 1 x_2, r_b8))
            generalize iv_up G b8 _ = G23 at hB hm h9
            have hM := hM.stp hm (by decide)
            generalize hgn_g24 : upd g_b8 _ _ = g24 at h9
            have a_h0 := hm.at a_h0 (by decide)
            have a_b8 := h9
            have e9_g24 : x_2 = g24 1 := by rw [← hgn_g24]; simp [upd]
            refine lv_iconst (v := 1) hx hb dX11_isSetForBell_90 (by decide) ?_
            exact iv_zret X hr hlocks hB (q_1.wk (by decide)) ⟨hM, (q_1.wk (by decide)), ⟨fun _ => (i14_x_0.wk (by decide)), fun _ => i5_x_1, fun _ => (i21_x_2.wk (by decide))⟩⟩ dX11_isSetForBell_91
      · skip
        have i24_x_0 : iv_R 4 4 x_0 := (i9_x_0.cutHi (n := 4) (iv_eq_r c11 q_4).2)
        refine lv_iload_n hx hb dX11_isSetForBell_52 rfl (lv_at hl 4 rfl) ?_
        refine lv_iconst (v := 0) hx hb dX11_isSetForBell_53 (by decide) ?_
        refine lv_iconst (v := 1) hx hb dX11_isSetForBell_54 (by decide) ?_
        refine iv_cSi X k_good k_mf_X11_isWithin k_st_X11_isWithin k_ml_X11_83 hB (As := [.int x_2, .int 0, .int 1]) (c_X11_isWithin l D tys base G x_2 i_x_2 0 (q_0.wk (by decide)) 1 (q_1.wk (by decide))) ⟨rfl, rfl⟩ ⟨Nat.le_of_ble_eq_true rfl, Nat.le_of_ble_eq_true rfl⟩ ⟨Nat.le_of_ble_eq_true rfl, Nat.le_of_ble_eq_true rfl⟩ rfl rfl hl.1 (Nat.le_of_ble_eq_true rfl) dX11_isSetForBell_55 (fun x26 G9 H locs hq hB => ?_)
        obtain ⟨rfl, i_x26, hp27⟩ := hq
        have k28 : ¬ x26 = 0 → iv_R 0 1 x_2 := fun h => ⟨iv_max i_x_2.1 (Int.le_trans q_0.1 (hp27.1 h).1) (by decide), iv_min i_x_2.2 (Int.le_trans (hp27.1 h).2 q_1.2) (by decide)⟩
        refine lv_if_eq (tgt := 69) hx hb dX11_isSetForBell_58 (by decide) (fun c29 => ?_) (fun c29 => ?_)
        · skip
          have i29_x26 : iv_R 0 0 x26 := (i_x26.cutHi (n := 0) (iv_eq_r c29 q_0).2)
          refine lv_iload_n hx hb dX11_isSetForBell_69 rfl (lv_at hl 2 rfl) ?_
          refine lv_iconst (v := 5) hx hb dX11_isSetForBell_70 (by decide) ?_
          refine lv_icmp_ne (tgt := 92) hx hb dX11_isSetForBell_71 (by decide) (fun c31 => ?_) (fun c31 => ?_)
          · skip
            refine lv_iconst (v := 0) hx hb dX11_isSetForBell_92 (by decide) ?_
            exact iv_zret X hr hlocks hB (q_0.wk (by decide)) ⟨hM, (q_0.wk (by decide)), ⟨fun _ => (i24_x_0.wk (by decide)), fun _ => i5_x_1, fun h => absurd (iv_z q_0) h⟩⟩ dX11_isSetForBell_93
          · skip
            exact (i24_x_0.cutLo (n := 5) (iv_eq_r c31 q_5).1).no (by decide)
        · skip
          have i31_x26 : iv_R 1 1 x26 := iv_ne_lo c29 i_x26 q_0 (by decide)
          have i32_x_2 : iv_R 0 1 x_2 := ((i_x_2.cutLo (n := 0) (k28 c29).1).cutHi (n := 1) (k28 c29).2)
          refine lv_aload hx hb dX11_isSetForBell_61 (lv_at hl 0 rfl) ?_
          refine lv_iload_n hx hb dX11_isSetForBell_63 rfl (lv_at hl 4 rfl) ?_
          refine iv_puti X ft_X1 hB a_b8 sh_1 4 (by decide) rfl rfl k_fl_X11_125 rfl (i32_x_2.wk (by decide)) rfl rfl dX11_isSetForBell_64 (fun H locs hB => ?_)
          have hm := iv_Md.put (x := x_2) a_b8 (j := 4) (by decide) (by decide)
          have h9 := iv_up_eq (G := G) (a := b8) (k := (1, upd g_b8 4 x_2, r_b8))
          generalize iv_up G b8 _ = G34 at hB hm h9
          have hM := hM.stp hm (by decide)
          generalize hgn_g35 : upd g_b8 _ _ = g35 at h9
          have a_h0 := hm.at a_h0 (by decide)
          have a_b8 := h9
          have e9_g35 : x_2 = g35 4 := by rw [← hgn_g35]; simp [upd]
          refine lv_iconst (v := 1) hx hb dX11_isSetForBell_67 (by decide) ?_
          exact iv_zret X hr hlocks hB (q_1.wk (by decide)) ⟨hM, (q_1.wk (by decide)), ⟨fun _ => (i24_x_0.wk (by decide)), fun _ => i5_x_1, fun _ => (i32_x_2.wk (by decide))⟩⟩ dX11_isSetForBell_68
    · skip
      have i35_x_0 : iv_R 3 3 x_0 := (i_x_0.cutHi (n := 3) (iv_eq_r c9 q_3).2)
      refine lv_iload_n hx hb dX11_isSetForBell_29 rfl (lv_at hl 4 rfl) ?_
      refine lv_iconst (v := 0) hx hb dX11_isSetForBell_30 (by decide) ?_
      refine lv_bipush (v := 99) hx hb dX11_isSetForBell_31 (by decide) ?_
      refine iv_cSi X k_good k_mf_X11_isWithin k_st_X11_isWithin k_ml_X11_83 hB (As := [.int x_2, .int 0, .int 99]) (c_X11_isWithin l D tys base G x_2 i_x_2 0 (q_0.wk (by decide)) 99 (q_99.wk (by decide))) ⟨rfl, rfl⟩ ⟨Nat.le_of_ble_eq_true rfl, Nat.le_of_ble_eq_true rfl⟩ ⟨Nat.le_of_ble_eq_true rfl, Nat.le_of_ble_eq_true rfl⟩ rfl rfl hl.1 (Nat.le_of_ble_eq_true rfl) dX11_isSetForBell_33 (fun x37 G9 H locs hq hB => ?_)
      obtain ⟨rfl, i_x37, hp38⟩ := hq
      have k39 : ¬ x37 = 0 → iv_R 0 99 x_2 := fun h => ⟨iv_max i_x_2.1 (Int.le_trans q_0.1 (hp38.1 h).1) (by decide), iv_min i_x_2.2 (Int.le_trans (hp38.1 h).2 q_99.2) (by decide)⟩
      refine lv_if_eq (tgt := 47) hx hb dX11_isSetForBell_36 (by decide) (fun c40 => ?_) (fun c40 => ?_)
      · skip
        have i40_x37 : iv_R 0 0 x37 := (i_x37.cutHi (n := 0) (iv_eq_r c40 q_0).2)
        refine lv_iload_n hx hb dX11_isSetForBell_47 rfl (lv_at hl 2 rfl) ?_
        refine lv_iconst (v := 4) hx hb dX11_isSetForBell_48 (by decide) ?_
        refine lv_icmp_ne (tgt := 69) hx hb dX11_isSetForBell_49 (by decide) (fun c42 => ?_) (fun c42 => ?_)
        · skip
          refine lv_iload_n hx hb dX11_isSetForBell_69 rfl (lv_at hl 2 rfl) ?_
          refine lv_iconst (v := 5) hx hb dX11_isSetForBell_70 (by decide) ?_
          refine lv_icmp_ne (tgt := 92) hx hb dX11_isSetForBell_71 (by decide) (fun c43 => ?_) (fun c43 => ?_)
          · skip
            refine lv_iconst (v := 0) hx hb dX11_isSetForBell_92 (by decide) ?_
            exact iv_zret X hr hlocks hB (q_0.wk (by decide)) ⟨hM, (q_0.wk (by decide)), ⟨fun _ => (i35_x_0.wk (by decide)), fun _ => i5_x_1, fun h => absurd (iv_z q_0) h⟩⟩ dX11_isSetForBell_93
          · skip
            exact (i35_x_0.cutLo (n := 5) (iv_eq_r c43 q_5).1).no (by decide)
        · skip
          exact (i35_x_0.cutLo (n := 4) (iv_eq_r c42 q_4).1).no (by decide)
      · skip
        have i43_x37 : iv_R 1 1 x37 := iv_ne_lo c40 i_x37 q_0 (by decide)
        have i44_x_2 : iv_R 0 99 x_2 := ((i_x_2.cutLo (n := 0) (k39 c40).1).cutHi (n := 99) (k39 c40).2)
        refine lv_aload hx hb dX11_isSetForBell_39 (lv_at hl 0 rfl) ?_
        refine lv_iload_n hx hb dX11_isSetForBell_41 rfl (lv_at hl 4 rfl) ?_
        refine iv_puti X ft_X1 hB a_b8 sh_1 3 (by decide) rfl rfl k_fl_X11_122 rfl (i44_x_2.wk (by decide)) rfl rfl dX11_isSetForBell_42 (fun H locs hB => ?_)
        have hm := iv_Md.put (x := x_2) a_b8 (j := 3) (by decide) (by decide)
        have h9 := iv_up_eq (G := G) (a := b8) (k := (1, upd g_b8 3 x_2, r_b8))
        generalize iv_up G b8 _ = G46 at hB hm h9
        have hM := hM.stp hm (by decide)
        generalize hgn_g47 : upd g_b8 _ _ = g47 at h9
        have a_h0 := hm.at a_h0 (by decide)
        have a_b8 := h9
        have e9_g47 : x_2 = g47 3 := by rw [← hgn_g47]; simp [upd]
        refine lv_iconst (v := 1) hx hb dX11_isSetForBell_45 (by decide) ?_
        exact iv_zret X hr hlocks hB (q_1.wk (by decide)) ⟨hM, (q_1.wk (by decide)), ⟨fun _ => (i35_x_0.wk (by decide)), fun _ => i5_x_1, fun _ => i44_x_2⟩⟩ dX11_isSetForBell_46
  · skip
    have i47_x2 : iv_R 0 0 x2 := (i_x2.cutHi (n := 0) (iv_eq_r c4 q_0).2)
    refine lv_iconst (v := 0) hx hb dX11_isSetForBell_11 (by decide) ?_
    exact iv_zret X hr hlocks hB (q_0.wk (by decide)) ⟨hM, (q_0.wk (by decide)), ⟨fun h => absurd (iv_z q_0) h, fun h => absurd (iv_z q_0) h, fun h => absurd (iv_z q_0) h⟩⟩ dX11_isSetForBell_12
theorem dX11_late_0 : decode cX11_late 0 = .ok (.aload_n 0, 1) := by decide +kernel
theorem dX11_late_1 : decode cX11_late 1 = .ok (.getfield 12, 3) := by decide +kernel
theorem dX11_late_4 : decode cX11_late 4 = .ok (.iload_n 1, 1) := by decide +kernel
theorem dX11_late_5 : decode cX11_late 5 = .ok (.invokevirtual 119, 3) := by decide +kernel
theorem dX11_late_8 : decode cX11_late 8 = .ok (.ifCond .eq 13, 3) := by decide +kernel
theorem dX11_late_11 : decode cX11_late 11 = .ok (.iload_n 2, 1) := by decide +kernel
theorem dX11_late_12 : decode cX11_late 12 = .ok (.iconst 0, 1) := by decide +kernel
theorem dX11_late_13 : decode cX11_late 13 = .ok (.bipush 99, 2) := by decide +kernel
theorem dX11_late_15 : decode cX11_late 15 = .ok (.invokestatic 83, 3) := by decide +kernel
theorem dX11_late_18 : decode cX11_late 18 = .ok (.ifCond .ne 5, 3) := by decide +kernel
theorem dX11_late_21 : decode cX11_late 21 = .ok (.iconst (-1), 1) := by decide +kernel
theorem dX11_late_22 : decode cX11_late 22 = .ok (.ireturn, 1) := by decide +kernel
theorem dX11_late_23 : decode cX11_late 23 = .ok (.aload_n 0, 1) := by decide +kernel
theorem dX11_late_24 : decode cX11_late 24 = .ok (.getfield 42, 3) := by decide +kernel
theorem dX11_late_27 : decode cX11_late 27 = .ok (.iload_n 1, 1) := by decide +kernel
theorem dX11_late_28 : decode cX11_late 28 = .ok (.sipush 132, 3) := by decide +kernel
theorem dX11_late_31 : decode cX11_late 31 = .ok (.invokevirtual 261, 3) := by decide +kernel
theorem dX11_late_34 : decode cX11_late 34 = .ok (.istore_n 3, 1) := by decide +kernel
theorem dX11_late_35 : decode cX11_late 35 = .ok (.ldc_w 305, 3) := by decide +kernel
theorem dX11_late_38 : decode cX11_late 38 = .ok (.istore 4, 2) := by decide +kernel
theorem dX11_late_40 : decode cX11_late 40 = .ok (.iconst 0, 1) := by decide +kernel
theorem dX11_late_41 : decode cX11_late 41 = .ok (.istore 5, 2) := by decide +kernel
theorem dX11_late_43 : decode cX11_late 43 = .ok (.iload 5, 2) := by decide +kernel
theorem dX11_late_45 : decode cX11_late 45 = .ok (.iload_n 2, 1) := by decide +kernel
theorem dX11_late_46 : decode cX11_late 46 = .ok (.if_icmp .ge 23, 3) := by decide +kernel
theorem dX11_late_49 : decode cX11_late 49 = .ok (.iload 4, 2) := by decide +kernel
theorem dX11_late_51 : decode cX11_late 51 = .ok (.sipush 1000, 3) := by decide +kernel
theorem dX11_late_54 : decode cX11_late 54 = .ok (.iload_n 3, 1) := by decide +kernel
theorem dX11_late_55 : decode cX11_late 55 = .ok (.isub, 1) := by decide +kernel
theorem dX11_late_56 : decode cX11_late 56 = .ok (.imul, 1) := by decide +kernel
theorem dX11_late_57 : decode cX11_late 57 = .ok (.sipush 1000, 3) := by decide +kernel
theorem dX11_late_60 : decode cX11_late 60 = .ok (.idiv, 1) := by decide +kernel
theorem dX11_late_61 : decode cX11_late 61 = .ok (.istore 4, 2) := by decide +kernel
theorem dX11_late_63 : decode cX11_late 63 = .ok (.iinc 5 1, 3) := by decide +kernel
theorem dX11_late_66 : decode cX11_late 66 = .ok (.goto (-23), 3) := by decide +kernel
theorem dX11_late_69 : decode cX11_late 69 = .ok (.iload 4, 2) := by decide +kernel
theorem dX11_late_71 : decode cX11_late 71 = .ok (.ireturn, 1) := by decide +kernel
set_option maxHeartbeats 4000000 in
set_option maxRecDepth 100000 in
theorem c_X11_late (l : Launch) (D : va_G) (tys : List (ClassId × FieldType)) (base : Nat) (G : iv_G) (h0 : Nat) (g_h0 : Nat → Int32) (r_h0 : Nat → Nat) (a_h0 : G h0 = some (11, g_h0, r_h0)) (x_0 : Int32) (i_x_0 : iv_R (-2147483648) 2147483647 x_0) (x_1 : Int32) (i_x_1 : iv_R (-2147483648) 2147483647 x_1) : Met l yX11_late (Cond.code yX11_late cX11_late 6 (some .int) :: iv_W0) ({ frames := 6, cells := 0, slots := 0, locals := 155 }) (iv_Pc iv_sh D classes tys base G [.ref h0, .int x_0, .int x_1]) (iv_Qi iv_sh D classes tys base (fun v G' => iv_Md [28, 30] G G' ∧ iv_R (-1) 1000000 v)) 0 0 (iv_A base) := by
  refine iv_head (by decide) (Nat.le_of_ble_eq_true rfl) ?_
  intro p e s m args below meth c ls X hr hlocks hname hB hl
  have X := X
  have hx := X.1.1
  have hb := X.1.2.1
  have hM : iv_Md [28, 30] G G := iv_Md.rf
  have hl : lv_has ls 6 [(0, .ref h0), (1, .int x_0), (2, .int x_1)] := hl
  refine lv_aload_n hx hb dX11_late_0 rfl (lv_at hl 0 rfl) ?_
  refine iv_getr X ft_X11 hB a_h0 sh_11 0 (by decide) rfl k_fl_X11_12 dX11_late_1 (fun b1 g_b1 r_b1 e_b1 a_b1 => ?_)
  refine lv_iload_n hx hb dX11_late_4 rfl (lv_at hl 1 rfl) ?_
  refine iv_cVi X k_good k_mf_X5_hasBell k_im_X5_hasBell k_sel_X5_hasBell k_ml_X11_119 ft_X5 hB a_b1 sh_5 (As := [.int x_0]) (c_X5_hasBell l D tys base G b1 g_b1 r_b1 a_b1 x_0 i_x_0) ⟨rfl, rfl⟩ ⟨Nat.le_of_ble_eq_true rfl, Nat.le_of_ble_eq_true rfl⟩ ⟨Nat.le_of_ble_eq_true rfl, Nat.le_of_ble_eq_true rfl⟩ rfl rfl hl.1 (Nat.le_of_ble_eq_true rfl) dX11_late_5 (fun x2 G9 H locs hq hB => ?_)
  obtain ⟨rfl, i_x2, hp3⟩ := hq
  refine lv_if_eq (tgt := 21) hx hb dX11_late_8 (by decide) (fun c4 => ?_) (fun c4 => ?_)
  · skip
    have i4_x2 : iv_R 0 0 x2 := (i_x2.cutHi (n := 0) (iv_eq_r c4 q_0).2)
    refine lv_iconst (v := (-1)) hx hb dX11_late_21 (by decide) ?_
    exact iv_iret X hr hlocks hB ⟨hM, (q_n1.wk (by decide))⟩ dX11_late_22
  · skip
    have i5_x2 : iv_R 1 1 x2 := iv_ne_lo c4 i_x2 q_0 (by decide)
    have i6_x_0 : iv_R 0 9 x_0 := ((i_x_0.cutLo (n := 0) (hp3 c4).1).cutHi (n := 9) (hp3 c4).2)
    refine lv_iload_n hx hb dX11_late_11 rfl (lv_at hl 2 rfl) ?_
    refine lv_iconst (v := 0) hx hb dX11_late_12 (by decide) ?_
    refine lv_bipush (v := 99) hx hb dX11_late_13 (by decide) ?_
    refine iv_cSi X k_good k_mf_X11_isWithin k_st_X11_isWithin k_ml_X11_83 hB (As := [.int x_1, .int 0, .int 99]) (c_X11_isWithin l D tys base G x_1 i_x_1 0 (q_0.wk (by decide)) 99 (q_99.wk (by decide))) ⟨rfl, rfl⟩ ⟨Nat.le_of_ble_eq_true rfl, Nat.le_of_ble_eq_true rfl⟩ ⟨Nat.le_of_ble_eq_true rfl, Nat.le_of_ble_eq_true rfl⟩ rfl rfl hl.1 (Nat.le_of_ble_eq_true rfl) dX11_late_15 (fun x8 G9 H locs hq hB => ?_)
    obtain ⟨rfl, i_x8, hp9⟩ := hq
    have k10 : ¬ x8 = 0 → iv_R 0 99 x_1 := fun h => ⟨iv_max i_x_1.1 (Int.le_trans q_0.1 (hp9.1 h).1) (by decide), iv_min i_x_1.2 (Int.le_trans (hp9.1 h).2 q_99.2) (by decide)⟩
    refine lv_if_ne (tgt := 23) hx hb dX11_late_18 (by decide) (fun c11 => ?_) (fun c11 => ?_)
    · skip
      have i11_x8 : iv_R 1 1 x8 := iv_ne_lo c11 i_x8 q_0 (by decide)
      have i12_x_1 : iv_R 0 99 x_1 := ((i_x_1.cutLo (n := 0) (k10 c11).1).cutHi (n := 99) (k10 c11).2)
      refine lv_aload_n hx hb dX11_late_23 rfl (lv_at hl 0 rfl) ?_
      refine iv_getr X ft_X11 hB a_h0 sh_11 7 (by decide) rfl k_fl_X11_42 dX11_late_24 (fun b14 g_b14 r_b14 e_b14 a_b14 => ?_)
      refine lv_iload_n hx hb dX11_late_27 rfl (lv_at hl 1 rfl) ?_
      refine lv_sipush (v := 132) hx hb dX11_late_28 (by decide) ?_
      refine iv_cVi X k_good k_mf_X2_comingOf k_im_X2_comingOf k_sel_X2_comingOf k_ml_X11_261 ft_X2 hB a_b14 sh_2 (As := [.int x_0, .int 132]) (c_X2_comingOf l D tys base G b14 g_b14 r_b14 a_b14 x_0 i6_x_0 132 (q_132.wk (by decide))) ⟨rfl, rfl⟩ ⟨Nat.le_of_ble_eq_true rfl, Nat.le_of_ble_eq_true rfl⟩ ⟨Nat.le_of_ble_eq_true rfl, Nat.le_of_ble_eq_true rfl⟩ rfl rfl hl.1 (Nat.le_of_ble_eq_true rfl) dX11_late_31 (fun x15 G9 H locs hq hB => ?_)
      obtain ⟨hm, i_x15⟩ := hq
      obtain ⟨G16, hG9⟩ : ∃ g, g = G9 := ⟨_, rfl⟩
      rw [← hG9] at hm hB
      have hM := hM.stp hm (by decide)
      have a_h0 := hm.at a_h0 (by decide)
      refine lv_istore_n (lv' := [(3, .int x15), (0, .ref h0), (1, .int x_0), (2, .int x_1)]) hx hb dX11_late_34 rfl hl (by decide) rfl (fun ls hl => ?_)
      refine lv_ldcw (v := 1000000) hx hb X.1.2.2.2.1 (X.1.2.2.2.2 _ k_ct_X11_305) dX11_late_35 ?_
      refine lv_istore (lv' := [(4, .int 1000000), (3, .int x15), (0, .ref h0), (1, .int x_0), (2, .int x_1)]) hx hb dX11_late_38 hl (by decide) rfl (fun ls hl => ?_)
      refine lv_iconst (v := 0) hx hb dX11_late_40 (by decide) ?_
      refine lv_istore (lv' := [(5, .int 0), (4, .int 1000000), (3, .int x15), (0, .ref h0), (1, .int x_0), (2, .int x_1)]) hx hb dX11_late_41 hl (by decide) rfl (fun ls hl => ?_)
      have L_43 : ∀ (n_43 : Nat) (G19 : iv_G) (hM : iv_Md [28, 30] G G19) (H : Heap) (locs : List Loc) (hB : iv_B iv_sh D classes tys base G19 s.heap H locs) (x17 : Int32) (i_x17 : iv_R 0 1000000 x17) (x18 : Int32) (i_x18 : iv_R 0 99 x18) (hn_43 : (100 - x18.toInt).toNat < n_43) (ls : Array Slot) (hl : lv_has ls 6 [(5, .int x18), (4, .int x17), (3, .int x15), (2, .int x_1)]), W p l e ({ frames := 6, cells := 0, slots := 0, locals := 155 } : Room) s m args below meth c H locs 0 0 (MQ below (iv_Qi iv_sh D classes tys base (fun v G' => iv_Md [28, 30] G G' ∧ iv_R (-1) 1000000 v)) args s 0 0 (iv_A base)) (F0 m 43 ls []) := by
        intro n_43
        induction n_43 with
        | zero => intro G19 hM H locs hB x17 i_x17 x18 i_x18 hn_43 ls hl; exact absurd hn_43 (Nat.not_lt_zero _)
        | succ n_43 ih_43 =>
          intro G19 hM H locs hB x17 i_x17 x18 i_x18 hn_43 ls hl
          refine lv_iload hx hb dX11_late_43 (lv_at hl 0 rfl) ?_
          refine lv_iload_n hx hb dX11_late_45 rfl (lv_at hl 3 rfl) ?_
          refine lv_icmp_ge (tgt := 69) hx hb dX11_late_46 (by decide) (fun c20 => ?_) (fun c20 => ?_)
          · skip
            refine lv_iload hx hb dX11_late_69 (lv_at hl 1 rfl) ?_
            exact iv_iret X hr hlocks hB ⟨hM, (i_x17.wk (by decide))⟩ dX11_late_71
          · skip
            have i20_x18 : iv_R 0 98 x18 := (i_x18.cutHi (n := 98) (iv_lt_r (iv_nle c20) i12_x_1 (by decide)))
            have i21_x_1 : iv_R 1 99 x_1 := (i12_x_1.cutLo (n := 1) (iv_lt_l (iv_nle c20) i_x18 (by decide)))
            refine lv_iload hx hb dX11_late_49 (lv_at hl 1 rfl) ?_
            refine lv_sipush (v := 1000) hx hb dX11_late_51 (by decide) ?_
            refine lv_iload_n hx hb dX11_late_54 rfl (lv_at hl 2 rfl) ?_
            refine iv_isub hx hb q_1000 i_x15 (lo := 0) (hi := 1000) (by decide) dX11_late_55 (fun x23 e_x23 i_x23 => ?_)
            refine iv_imul hx hb i_x17 i_x23 (lo := 0) (hi := 1000000000) (by decide) dX11_late_56 (fun x24 e_x24 i_x24 => ?_)
            refine lv_sipush (v := 1000) hx hb dX11_late_57 (by decide) ?_
            refine iv_idivp hx hb i_x24 q_1000 (lo := 0) (hi := 1000000) (by decide) dX11_late_60 (fun x25 e_x25 i_x25 => ?_)
            refine lv_istore (lv' := [(4, .int x25), (5, .int x18), (3, .int x15), (2, .int x_1)]) hx hb dX11_late_61 hl (by decide) rfl (fun ls hl => ?_)
            refine iv_iinc hx hb i20_x18 (lo := 1) (hi := 99) (by decide) dX11_late_63 hl (k := 1) rfl (by decide) (fun x26 ls e_x26 i_x26 hl => ?_)
            have hl : lv_has ls 6 [(5, .int x26), (4, .int x25), (3, .int x15), (2, .int x_1)] := hl
            refine lv_goto (tgt := 43) hx hb dX11_late_66 (by decide) ?_
            exact ih_43 G19 hM _ _ hB x25 i_x25 x26 (i_x26.wk (by decide)) (iv_mup (c := 1) i_x18 (by decide) (by decide) (by omega) hn_43) _ (lv_sub hl [0, 1, 2, 3] rfl)
      exact L_43 _ G16 hM _ _ hB 1000000 (q_1000000.wk (by decide)) 0 (q_0.wk (by decide)) (Nat.lt_succ_self _) _ (lv_sub hl [0, 1, 2, 5] rfl)
    · skip
      have i26_x8 : iv_R 0 0 x8 := (i_x8.cutHi (n := 0) (iv_eq_r c11 q_0).2)
      refine lv_iconst (v := (-1)) hx hb dX11_late_21 (by decide) ?_
      exact iv_iret X hr hlocks hB ⟨hM, (q_n1.wk (by decide))⟩ dX11_late_22
theorem dX11_likeliest_0 : decode cX11_likeliest 0 = .ok (.iconst (-1), 1) := by decide +kernel
theorem dX11_likeliest_1 : decode cX11_likeliest 1 = .ok (.istore_n 1, 1) := by decide +kernel
theorem dX11_likeliest_2 : decode cX11_likeliest 2 = .ok (.iconst (-1), 1) := by decide +kernel
theorem dX11_likeliest_3 : decode cX11_likeliest 3 = .ok (.istore_n 2, 1) := by decide +kernel
theorem dX11_likeliest_4 : decode cX11_likeliest 4 = .ok (.iconst 0, 1) := by decide +kernel
theorem dX11_likeliest_5 : decode cX11_likeliest 5 = .ok (.istore_n 3, 1) := by decide +kernel
theorem dX11_likeliest_6 : decode cX11_likeliest 6 = .ok (.iload_n 3, 1) := by decide +kernel
theorem dX11_likeliest_7 : decode cX11_likeliest 7 = .ok (.aload_n 0, 1) := by decide +kernel
theorem dX11_likeliest_8 : decode cX11_likeliest 8 = .ok (.getfield 12, 3) := by decide +kernel
theorem dX11_likeliest_11 : decode cX11_likeliest 11 = .ok (.getfield 90, 3) := by decide +kernel
theorem dX11_likeliest_14 : decode cX11_likeliest 14 = .ok (.if_icmp .ge 44, 3) := by decide +kernel
theorem dX11_likeliest_17 : decode cX11_likeliest 17 = .ok (.aload_n 0, 1) := by decide +kernel
theorem dX11_likeliest_18 : decode cX11_likeliest 18 = .ok (.getfield 12, 3) := by decide +kernel
theorem dX11_likeliest_21 : decode cX11_likeliest 21 = .ok (.iload_n 3, 1) := by decide +kernel
theorem dX11_likeliest_22 : decode cX11_likeliest 22 = .ok (.invokevirtual 253, 3) := by decide +kernel
theorem dX11_likeliest_25 : decode cX11_likeliest 25 = .ok (.ifCond .eq 27, 3) := by decide +kernel
theorem dX11_likeliest_28 : decode cX11_likeliest 28 = .ok (.aload_n 0, 1) := by decide +kernel
theorem dX11_likeliest_29 : decode cX11_likeliest 29 = .ok (.getfield 42, 3) := by decide +kernel
theorem dX11_likeliest_32 : decode cX11_likeliest 32 = .ok (.iload_n 3, 1) := by decide +kernel
theorem dX11_likeliest_33 : decode cX11_likeliest 33 = .ok (.sipush 132, 3) := by decide +kernel
theorem dX11_likeliest_36 : decode cX11_likeliest 36 = .ok (.invokevirtual 261, 3) := by decide +kernel
theorem dX11_likeliest_39 : decode cX11_likeliest 39 = .ok (.istore 4, 2) := by decide +kernel
theorem dX11_likeliest_41 : decode cX11_likeliest 41 = .ok (.iload 4, 2) := by decide +kernel
theorem dX11_likeliest_43 : decode cX11_likeliest 43 = .ok (.iload_n 2, 1) := by decide +kernel
theorem dX11_likeliest_44 : decode cX11_likeliest 44 = .ok (.if_icmp .le 8, 3) := by decide +kernel
theorem dX11_likeliest_47 : decode cX11_likeliest 47 = .ok (.iload 4, 2) := by decide +kernel
theorem dX11_likeliest_49 : decode cX11_likeliest 49 = .ok (.istore_n 2, 1) := by decide +kernel
theorem dX11_likeliest_50 : decode cX11_likeliest 50 = .ok (.iload_n 3, 1) := by decide +kernel
theorem dX11_likeliest_51 : decode cX11_likeliest 51 = .ok (.istore_n 1, 1) := by decide +kernel
theorem dX11_likeliest_52 : decode cX11_likeliest 52 = .ok (.iinc 3 1, 3) := by decide +kernel
theorem dX11_likeliest_55 : decode cX11_likeliest 55 = .ok (.goto (-49), 3) := by decide +kernel
theorem dX11_likeliest_58 : decode cX11_likeliest 58 = .ok (.iload_n 1, 1) := by decide +kernel
theorem dX11_likeliest_59 : decode cX11_likeliest 59 = .ok (.ireturn, 1) := by decide +kernel
set_option maxHeartbeats 4000000 in
set_option maxRecDepth 100000 in
theorem c_X11_likeliest (l : Launch) (D : va_G) (tys : List (ClassId × FieldType)) (base : Nat) (G : iv_G) (h0 : Nat) (g_h0 : Nat → Int32) (r_h0 : Nat → Nat) (a_h0 : G h0 = some (11, g_h0, r_h0)) : Met l yX11_likeliest (Cond.code yX11_likeliest cX11_likeliest 5 (some .int) :: iv_W0) ({ frames := 6, cells := 0, slots := 0, locals := 155 }) (iv_Pc iv_sh D classes tys base G [.ref h0]) (iv_Qi iv_sh D classes tys base (fun v G' => iv_Md [28, 30] G G' ∧ iv_R (-1) 9 v)) 0 0 (iv_A base) := by
  refine iv_head (by decide) (Nat.le_of_ble_eq_true rfl) ?_
  intro p e s m args below meth c ls X hr hlocks hname hB hl
  have X := X
  have hx := X.1.1
  have hb := X.1.2.1
  have hM : iv_Md [28, 30] G G := iv_Md.rf
  have hl : lv_has ls 5 [(0, .ref h0)] := hl
  refine lv_iconst (v := (-1)) hx hb dX11_likeliest_0 (by decide) ?_
  refine lv_istore_n (lv' := [(1, .int (-1)), (0, .ref h0)]) hx hb dX11_likeliest_1 rfl hl (by decide) rfl (fun ls hl => ?_)
  refine lv_iconst (v := (-1)) hx hb dX11_likeliest_2 (by decide) ?_
  refine lv_istore_n (lv' := [(2, .int (-1)), (1, .int (-1)), (0, .ref h0)]) hx hb dX11_likeliest_3 rfl hl (by decide) rfl (fun ls hl => ?_)
  refine lv_iconst (v := 0) hx hb dX11_likeliest_4 (by decide) ?_
  refine lv_istore_n (lv' := [(3, .int 0), (2, .int (-1)), (1, .int (-1)), (0, .ref h0)]) hx hb dX11_likeliest_5 rfl hl (by decide) rfl (fun ls hl => ?_)
  have L_6 : ∀ (n_6 : Nat) (G4 : iv_G) (hM : iv_Md [28, 30] G G4) (H : Heap) (locs : List Loc) (hB : iv_B iv_sh D classes tys base G4 s.heap H locs) (a_h0 : G4 h0 = some (11, g_h0, r_h0)) (x1 : Int32) (i_x1 : iv_R (-1) 9 x1) (x2 : Int32) (i_x2 : iv_R (-1) 1000 x2) (x3 : Int32) (i_x3 : iv_R 0 10 x3) (hn_6 : (11 - x3.toInt).toNat < n_6) (ls : Array Slot) (hl : lv_has ls 5 [(3, .int x3), (2, .int x2), (1, .int x1), (0, .ref h0)]), W p l e ({ frames := 6, cells := 0, slots := 0, locals := 155 } : Room) s m args below meth c H locs 0 0 (MQ below (iv_Qi iv_sh D classes tys base (fun v G' => iv_Md [28, 30] G G' ∧ iv_R (-1) 9 v)) args s 0 0 (iv_A base)) (F0 m 6 ls []) := by
    intro n_6
    induction n_6 with
    | zero => intro G4 hM H locs hB a_h0 x1 i_x1 x2 i_x2 x3 i_x3 hn_6 ls hl; exact absurd hn_6 (Nat.not_lt_zero _)
    | succ n_6 ih_6 =>
      intro G4 hM H locs hB a_h0 x1 i_x1 x2 i_x2 x3 i_x3 hn_6 ls hl
      refine lv_iload_n hx hb dX11_likeliest_6 rfl (lv_at hl 0 rfl) ?_
      refine lv_aload_n hx hb dX11_likeliest_7 rfl (lv_at hl 3 rfl) ?_
      refine iv_getr X ft_X11 hB a_h0 sh_11 0 (by decide) rfl k_fl_X11_12 dX11_likeliest_8 (fun b5 g_b5 r_b5 e_b5 a_b5 => ?_)
      refine iv_geti X ft_X5 hB a_b5 sh_5 1 (by decide) rfl k_fl_X11_90 dX11_likeliest_11 (fun x6 e_x6 i_x6 => ?_)
      refine lv_icmp_ge (tgt := 58) hx hb dX11_likeliest_14 (by decide) (fun c7 => ?_) (fun c7 => ?_)
      · skip
        refine lv_iload_n hx hb dX11_likeliest_58 rfl (lv_at hl 2 rfl) ?_
        exact iv_iret X hr hlocks hB ⟨hM, i_x1⟩ dX11_likeliest_59
      · skip
        have i7_x3 : iv_R 0 9 x3 := (i_x3.cutHi (n := 9) (iv_lt_r (iv_nle c7) i_x6 (by decide)))
        have i8_x6 : iv_R 1 10 x6 := (i_x6.cutLo (n := 1) (iv_lt_l (iv_nle c7) i_x3 (by decide)))
        refine lv_aload_n hx hb dX11_likeliest_17 rfl (lv_at hl 3 rfl) ?_
        refine iv_getr0 X ft_X11 hB a_h0 sh_11 0 (by decide) rfl k_fl_X11_12 dX11_likeliest_18 e_b5 ?_
        refine lv_iload_n hx hb dX11_likeliest_21 rfl (lv_at hl 0 rfl) ?_
        refine iv_cVi X k_good k_mf_X5_soundsIn k_im_X5_soundsIn k_sel_X5_soundsIn k_ml_X11_253 ft_X5 hB a_b5 sh_5 (As := [.int x3]) (c_X5_soundsIn l D tys base G4 b5 g_b5 r_b5 a_b5 x3 i7_x3) ⟨rfl, rfl⟩ ⟨Nat.le_of_ble_eq_true rfl, Nat.le_of_ble_eq_true rfl⟩ ⟨Nat.le_of_ble_eq_true rfl, Nat.le_of_ble_eq_true rfl⟩ rfl rfl hl.1 (Nat.le_of_ble_eq_true rfl) dX11_likeliest_22 (fun x10 G9 H locs hq hB => ?_)
        obtain ⟨rfl, i_x10⟩ := hq
        refine lv_if_eq (tgt := 52) hx hb dX11_likeliest_25 (by decide) (fun c11 => ?_) (fun c11 => ?_)
        · skip
          have i11_x10 : iv_R 0 0 x10 := ((i_x10.cutLo (n := 0) (iv_eq_r c11 q_0).1).cutHi (n := 0) (iv_eq_r c11 q_0).2)
          refine iv_iinc hx hb i7_x3 (lo := 1) (hi := 10) (by decide) dX11_likeliest_52 hl (k := 0) rfl (by decide) (fun x13 ls e_x13 i_x13 hl => ?_)
          have hl : lv_has ls 5 [(3, .int x13), (2, .int x2), (1, .int x1), (0, .ref h0)] := hl
          refine lv_goto (tgt := 6) hx hb dX11_likeliest_55 (by decide) ?_
          exact ih_6 G4 hM _ _ hB a_h0 x1 i_x1 x2 i_x2 x13 (i_x13.wk (by decide)) (iv_mup (c := 1) i_x3 (by decide) (by decide) (by omega) hn_6) _ (lv_sub hl [0, 1, 2, 3] rfl)
        · skip
          refine lv_aload_n hx hb dX11_likeliest_28 rfl (lv_at hl 3 rfl) ?_
          refine iv_getr X ft_X11 hB a_h0 sh_11 7 (by decide) rfl k_fl_X11_42 dX11_likeliest_29 (fun b14 g_b14 r_b14 e_b14 a_b14 => ?_)
          refine lv_iload_n hx hb dX11_likeliest_32 rfl (lv_at hl 0 rfl) ?_
          refine lv_sipush (v := 132) hx hb dX11_likeliest_33 (by decide) ?_
          refine iv_cVi X k_good k_mf_X2_comingOf k_im_X2_comingOf k_sel_X2_comingOf k_ml_X11_261 ft_X2 hB a_b14 sh_2 (As := [.int x3, .int 132]) (c_X2_comingOf l D tys base G4 b14 g_b14 r_b14 a_b14 x3 i7_x3 132 (q_132.wk (by decide))) ⟨rfl, rfl⟩ ⟨Nat.le_of_ble_eq_true rfl, Nat.le_of_ble_eq_true rfl⟩ ⟨Nat.le_of_ble_eq_true rfl, Nat.le_of_ble_eq_true rfl⟩ rfl rfl hl.1 (Nat.le_of_ble_eq_true rfl) dX11_likeliest_36 (fun x15 G9 H locs hq hB => ?_)
          obtain ⟨hm, i_x15⟩ := hq
          obtain ⟨G16, hG9⟩ : ∃ g, g = G9 := ⟨_, rfl⟩
          rw [← hG9] at hm hB
          have hM := hM.stp hm (by decide)
          have a_h0 := hm.at a_h0 (by decide)
          refine lv_istore (lv' := [(4, .int x15), (3, .int x3), (2, .int x2), (1, .int x1), (0, .ref h0)]) hx hb dX11_likeliest_39 hl (by decide) rfl (fun ls hl => ?_)
          refine lv_iload hx hb dX11_likeliest_41 (lv_at hl 0 rfl) ?_
          refine lv_iload_n hx hb dX11_likeliest_43 rfl (lv_at hl 2 rfl) ?_
          refine lv_icmp_le (tgt := 52) hx hb dX11_likeliest_44 (by decide) (fun c17 => ?_) (fun c17 => ?_)
          · skip
            have i17_x2 : iv_R 0 1000 x2 := (i_x2.cutLo (n := 0) (iv_le_l c17 i_x15))
            refine iv_iinc hx hb i7_x3 (lo := 1) (hi := 10) (by decide) dX11_likeliest_52 hl (k := 1) rfl (by decide) (fun x19 ls e_x19 i_x19 hl => ?_)
            have hl : lv_has ls 5 [(3, .int x19), (4, .int x15), (2, .int x2), (1, .int x1), (0, .ref h0)] := hl
            refine lv_goto (tgt := 6) hx hb dX11_likeliest_55 (by decide) ?_
            exact ih_6 G16 hM _ _ hB a_h0 x1 i_x1 x2 (i17_x2.wk (by decide)) x19 (i_x19.wk (by decide)) (iv_mup (c := 1) i_x3 (by decide) (by decide) (by omega) hn_6) _ (lv_sub hl [0, 2, 3, 4] rfl)
          · skip
            have i19_x2 : iv_R (-1) 999 x2 := (i_x2.cutHi (n := 999) (iv_lt_r (iv_nle c17) i_x15 (by decide)))
            refine lv_iload hx hb dX11_likeliest_47 (lv_at hl 0 rfl) ?_
            refine lv_istore_n (lv' := [(2, .int x15), (4, .int x15), (3, .int x3), (1, .int x1), (0, .ref h0)]) hx hb dX11_likeliest_49 rfl hl (by decide) rfl (fun ls hl => ?_)
            refine lv_iload_n hx hb dX11_likeliest_50 rfl (lv_at hl 2 rfl) ?_
            refine lv_istore_n (lv' := [(1, .int x3), (2, .int x15), (4, .int x15), (3, .int x3), (0, .ref h0)]) hx hb dX11_likeliest_51 rfl hl (by decide) rfl (fun ls hl => ?_)
            refine iv_iinc hx hb i7_x3 (lo := 1) (hi := 10) (by decide) dX11_likeliest_52 hl (k := 3) rfl (by decide) (fun x21 ls e_x21 i_x21 hl => ?_)
            have hl : lv_has ls 5 [(3, .int x21), (1, .int x3), (2, .int x15), (4, .int x15), (0, .ref h0)] := hl
            refine lv_goto (tgt := 6) hx hb dX11_likeliest_55 (by decide) ?_
            exact ih_6 G16 hM _ _ hB a_h0 x3 (i7_x3.wk (by decide)) x15 (i_x15.wk (by decide)) x21 (i_x21.wk (by decide)) (iv_mup (c := 1) i_x3 (by decide) (by decide) (by omega) hn_6) _ (lv_sub hl [0, 2, 1, 4] rfl)
  exact L_6 _ G hM _ _ hB a_h0 (-1) (q_n1.wk (by decide)) (-1) (q_n1.wk (by decide)) 0 (q_0.wk (by decide)) (Nat.lt_succ_self _) _ (lv_sub hl [0, 1, 2, 3] rfl)
theorem dX11_look_0 : decode cX11_look 0 = .ok (.iload_n 1, 1) := by decide +kernel
theorem dX11_look_1 : decode cX11_look 1 = .ok (.bipush 20, 2) := by decide +kernel
theorem dX11_look_3 : decode cX11_look 3 = .ok (.bipush 35, 2) := by decide +kernel
theorem dX11_look_5 : decode cX11_look 5 = .ok (.invokestatic 83, 3) := by decide +kernel
theorem dX11_look_8 : decode cX11_look 8 = .ok (.ifCond .eq 16, 3) := by decide +kernel
theorem dX11_look_11 : decode cX11_look 11 = .ok (.aload_n 0, 1) := by decide +kernel
theorem dX11_look_12 : decode cX11_look 12 = .ok (.getfield 12, 3) := by decide +kernel
theorem dX11_look_15 : decode cX11_look 15 = .ok (.getfield 87, 3) := by decide +kernel
theorem dX11_look_18 : decode cX11_look 18 = .ok (.iload_n 1, 1) := by decide +kernel
theorem dX11_look_19 : decode cX11_look 19 = .ok (.bipush 20, 2) := by decide +kernel
theorem dX11_look_21 : decode cX11_look 21 = .ok (.isub, 1) := by decide +kernel
theorem dX11_look_22 : decode cX11_look 22 = .ok (.iaload, 1) := by decide +kernel
theorem dX11_look_23 : decode cX11_look 23 = .ok (.ireturn, 1) := by decide +kernel
theorem dX11_look_24 : decode cX11_look 24 = .ok (.iload_n 1, 1) := by decide +kernel
theorem dX11_look_25 : decode cX11_look 25 = .ok (.tableswitch 186 0 12 #[67, 75, 86, 94, 102, 110, 118, 129, 137, 145, 156, 167, 178], 67) := by decide +kernel
theorem dX11_look_92 : decode cX11_look 92 = .ok (.aload_n 0, 1) := by decide +kernel
theorem dX11_look_93 : decode cX11_look 93 = .ok (.getfield 12, 3) := by decide +kernel
theorem dX11_look_96 : decode cX11_look 96 = .ok (.getfield 90, 3) := by decide +kernel
theorem dX11_look_99 : decode cX11_look 99 = .ok (.ireturn, 1) := by decide +kernel
theorem dX11_look_100 : decode cX11_look 100 = .ok (.aload_n 0, 1) := by decide +kernel
theorem dX11_look_101 : decode cX11_look 101 = .ok (.getfield 12, 3) := by decide +kernel
theorem dX11_look_104 : decode cX11_look 104 = .ok (.getfield 152, 3) := by decide +kernel
theorem dX11_look_107 : decode cX11_look 107 = .ok (.getfield 166, 3) := by decide +kernel
theorem dX11_look_110 : decode cX11_look 110 = .ok (.ireturn, 1) := by decide +kernel
theorem dX11_look_111 : decode cX11_look 111 = .ok (.aload_n 0, 1) := by decide +kernel
theorem dX11_look_112 : decode cX11_look 112 = .ok (.getfield 12, 3) := by decide +kernel
theorem dX11_look_115 : decode cX11_look 115 = .ok (.getfield 141, 3) := by decide +kernel
theorem dX11_look_118 : decode cX11_look 118 = .ok (.ireturn, 1) := by decide +kernel
theorem dX11_look_119 : decode cX11_look 119 = .ok (.aload_n 0, 1) := by decide +kernel
theorem dX11_look_120 : decode cX11_look 120 = .ok (.getfield 12, 3) := by decide +kernel
theorem dX11_look_123 : decode cX11_look 123 = .ok (.getfield 110, 3) := by decide +kernel
theorem dX11_look_126 : decode cX11_look 126 = .ok (.ireturn, 1) := by decide +kernel
theorem dX11_look_127 : decode cX11_look 127 = .ok (.aload_n 0, 1) := by decide +kernel
theorem dX11_look_128 : decode cX11_look 128 = .ok (.getfield 12, 3) := by decide +kernel
theorem dX11_look_131 : decode cX11_look 131 = .ok (.getfield 113, 3) := by decide +kernel
theorem dX11_look_134 : decode cX11_look 134 = .ok (.ireturn, 1) := by decide +kernel
theorem dX11_look_135 : decode cX11_look 135 = .ok (.aload_n 0, 1) := by decide +kernel
theorem dX11_look_136 : decode cX11_look 136 = .ok (.getfield 12, 3) := by decide +kernel
theorem dX11_look_139 : decode cX11_look 139 = .ok (.getfield 116, 3) := by decide +kernel
theorem dX11_look_142 : decode cX11_look 142 = .ok (.ireturn, 1) := by decide +kernel
theorem dX11_look_143 : decode cX11_look 143 = .ok (.aload_n 0, 1) := by decide +kernel
theorem dX11_look_144 : decode cX11_look 144 = .ok (.getfield 12, 3) := by decide +kernel
theorem dX11_look_147 : decode cX11_look 147 = .ok (.getfield 137, 3) := by decide +kernel
theorem dX11_look_150 : decode cX11_look 150 = .ok (.getfield 166, 3) := by decide +kernel
theorem dX11_look_153 : decode cX11_look 153 = .ok (.ireturn, 1) := by decide +kernel
theorem dX11_look_154 : decode cX11_look 154 = .ok (.aload_n 0, 1) := by decide +kernel
theorem dX11_look_155 : decode cX11_look 155 = .ok (.getfield 12, 3) := by decide +kernel
theorem dX11_look_158 : decode cX11_look 158 = .ok (.getfield 72, 3) := by decide +kernel
theorem dX11_look_161 : decode cX11_look 161 = .ok (.ireturn, 1) := by decide +kernel
theorem dX11_look_162 : decode cX11_look 162 = .ok (.aload_n 0, 1) := by decide +kernel
theorem dX11_look_163 : decode cX11_look 163 = .ok (.getfield 12, 3) := by decide +kernel
theorem dX11_look_166 : decode cX11_look 166 = .ok (.getfield 208, 3) := by decide +kernel
theorem dX11_look_169 : decode cX11_look 169 = .ok (.ireturn, 1) := by decide +kernel
theorem dX11_look_170 : decode cX11_look 170 = .ok (.aload_n 0, 1) := by decide +kernel
theorem dX11_look_171 : decode cX11_look 171 = .ok (.getfield 12, 3) := by decide +kernel
theorem dX11_look_174 : decode cX11_look 174 = .ok (.getfield 231, 3) := by decide +kernel
theorem dX11_look_177 : decode cX11_look 177 = .ok (.getfield 376, 3) := by decide +kernel
theorem dX11_look_180 : decode cX11_look 180 = .ok (.ireturn, 1) := by decide +kernel
theorem dX11_look_181 : decode cX11_look 181 = .ok (.aload_n 0, 1) := by decide +kernel
theorem dX11_look_182 : decode cX11_look 182 = .ok (.getfield 12, 3) := by decide +kernel
theorem dX11_look_185 : decode cX11_look 185 = .ok (.getfield 235, 3) := by decide +kernel
theorem dX11_look_188 : decode cX11_look 188 = .ok (.getfield 376, 3) := by decide +kernel
theorem dX11_look_191 : decode cX11_look 191 = .ok (.ireturn, 1) := by decide +kernel
theorem dX11_look_192 : decode cX11_look 192 = .ok (.aload_n 0, 1) := by decide +kernel
theorem dX11_look_193 : decode cX11_look 193 = .ok (.getfield 12, 3) := by decide +kernel
theorem dX11_look_196 : decode cX11_look 196 = .ok (.getfield 346, 3) := by decide +kernel
theorem dX11_look_199 : decode cX11_look 199 = .ok (.getfield 166, 3) := by decide +kernel
theorem dX11_look_202 : decode cX11_look 202 = .ok (.ireturn, 1) := by decide +kernel
theorem dX11_look_203 : decode cX11_look 203 = .ok (.aload_n 0, 1) := by decide +kernel
theorem dX11_look_204 : decode cX11_look 204 = .ok (.getfield 22, 3) := by decide +kernel
theorem dX11_look_207 : decode cX11_look 207 = .ok (.getfield 377, 3) := by decide +kernel
theorem dX11_look_210 : decode cX11_look 210 = .ok (.ireturn, 1) := by decide +kernel
theorem dX11_look_211 : decode cX11_look 211 = .ok (.iconst (-1), 1) := by decide +kernel
theorem dX11_look_212 : decode cX11_look 212 = .ok (.ireturn, 1) := by decide +kernel
set_option maxHeartbeats 4000000 in
set_option maxRecDepth 100000 in
theorem c_X11_look (l : Launch) (D : va_G) (tys : List (ClassId × FieldType)) (base : Nat) (G : iv_G) (h0 : Nat) (g_h0 : Nat → Int32) (r_h0 : Nat → Nat) (a_h0 : G h0 = some (11, g_h0, r_h0)) (x_0 : Int32) (i_x_0 : iv_R (-2147483648) 2147483647 x_0) : Met l yX11_look (Cond.code yX11_look cX11_look 2 (some .int) :: iv_W0) ({ frames := 1, cells := 0, slots := 0, locals := 22 }) (iv_Pc iv_sh D classes tys base G [.ref h0, .int x_0]) (iv_Qi iv_sh D classes tys base (fun v G' => G = G' ∧ iv_R (-2147483648) 2147483647 v)) 0 0 (iv_A base) := by
  refine iv_head (by decide) (Nat.le_of_ble_eq_true rfl) ?_
  intro p e s m args below meth c ls X hr hlocks hname hB hl
  have X := X
  have hx := X.1.1
  have hb := X.1.2.1
  have hl : lv_has ls 2 [(0, .ref h0), (1, .int x_0)] := hl
  refine lv_iload_n hx hb dX11_look_0 rfl (lv_at hl 1 rfl) ?_
  refine lv_bipush (v := 20) hx hb dX11_look_1 (by decide) ?_
  refine lv_bipush (v := 35) hx hb dX11_look_3 (by decide) ?_
  refine iv_cSi X k_good k_mf_X11_isWithin k_st_X11_isWithin k_ml_X11_83 hB (As := [.int x_0, .int 20, .int 35]) (c_X11_isWithin l D tys base G x_0 i_x_0 20 (q_20.wk (by decide)) 35 (q_35.wk (by decide))) ⟨rfl, rfl⟩ ⟨Nat.le_of_ble_eq_true rfl, Nat.le_of_ble_eq_true rfl⟩ ⟨Nat.le_of_ble_eq_true rfl, Nat.le_of_ble_eq_true rfl⟩ rfl rfl hl.1 (Nat.le_of_ble_eq_true rfl) dX11_look_5 (fun x1 G9 H locs hq hB => ?_)
  obtain ⟨rfl, i_x1, hp2⟩ := hq
  have k3 : ¬ x1 = 0 → iv_R 20 35 x_0 := fun h => ⟨iv_max i_x_0.1 (Int.le_trans q_20.1 (hp2.1 h).1) (by decide), iv_min i_x_0.2 (Int.le_trans (hp2.1 h).2 q_35.2) (by decide)⟩
  refine lv_if_eq (tgt := 24) hx hb dX11_look_8 (by decide) (fun c4 => ?_) (fun c4 => ?_)
  · skip
    have i4_x1 : iv_R 0 0 x1 := (i_x1.cutHi (n := 0) (iv_eq_r c4 q_0).2)
    refine lv_iload_n hx hb dX11_look_24 rfl (lv_at hl 1 rfl) ?_
    by_cases w6 : x_0.toInt = 0
    · skip
      refine lv_tableIn (tgt := 92) hx hb dX11_look_25 (by omega) (by omega) (by rw [w6]; rfl) (by decide) ?_
      have w6i : iv_R 0 0 x_0 := iv_lit w6
      refine lv_aload_n hx hb dX11_look_92 rfl (lv_at hl 0 rfl) ?_
      refine iv_getr X ft_X11 hB a_h0 sh_11 0 (by decide) rfl k_fl_X11_12 dX11_look_93 (fun b7 g_b7 r_b7 e_b7 a_b7 => ?_)
      refine iv_geti X ft_X5 hB a_b7 sh_5 1 (by decide) rfl k_fl_X11_90 dX11_look_96 (fun x8 e_x8 i_x8 => ?_)
      exact iv_iret X hr hlocks hB ⟨rfl, (i_x8.wk (by decide))⟩ dX11_look_99
    skip
    by_cases w9 : x_0.toInt = 1
    · skip
      refine lv_tableIn (tgt := 100) hx hb dX11_look_25 (by omega) (by omega) (by rw [w9]; rfl) (by decide) ?_
      have w9i : iv_R 1 1 x_0 := iv_lit w9
      refine lv_aload_n hx hb dX11_look_100 rfl (lv_at hl 0 rfl) ?_
      refine iv_getr X ft_X11 hB a_h0 sh_11 0 (by decide) rfl k_fl_X11_12 dX11_look_101 (fun b10 g_b10 r_b10 e_b10 a_b10 => ?_)
      refine iv_getr X ft_X5 hB a_b10 sh_5 8 (by decide) rfl k_fl_X11_152 dX11_look_104 (fun b11 g_b11 r_b11 e_b11 a_b11 => ?_)
      refine iv_geti X ft_X8 hB a_b11 sh_8 2 (by decide) rfl k_fl_X11_166 dX11_look_107 (fun x12 e_x12 i_x12 => ?_)
      exact iv_iret X hr hlocks hB ⟨rfl, (i_x12.wk (by decide))⟩ dX11_look_110
    skip
    by_cases w13 : x_0.toInt = 2
    · skip
      refine lv_tableIn (tgt := 111) hx hb dX11_look_25 (by omega) (by omega) (by rw [w13]; rfl) (by decide) ?_
      have w13i : iv_R 2 2 x_0 := iv_lit w13
      refine lv_aload_n hx hb dX11_look_111 rfl (lv_at hl 0 rfl) ?_
      refine iv_getr X ft_X11 hB a_h0 sh_11 0 (by decide) rfl k_fl_X11_12 dX11_look_112 (fun b14 g_b14 r_b14 e_b14 a_b14 => ?_)
      refine iv_geti X ft_X5 hB a_b14 sh_5 6 (by decide) rfl k_fl_X11_141 dX11_look_115 (fun x15 e_x15 i_x15 => ?_)
      exact iv_iret X hr hlocks hB ⟨rfl, i_x15⟩ dX11_look_118
    skip
    by_cases w16 : x_0.toInt = 3
    · skip
      refine lv_tableIn (tgt := 119) hx hb dX11_look_25 (by omega) (by omega) (by rw [w16]; rfl) (by decide) ?_
      have w16i : iv_R 3 3 x_0 := iv_lit w16
      refine lv_aload_n hx hb dX11_look_119 rfl (lv_at hl 0 rfl) ?_
      refine iv_getr X ft_X11 hB a_h0 sh_11 0 (by decide) rfl k_fl_X11_12 dX11_look_120 (fun b17 g_b17 r_b17 e_b17 a_b17 => ?_)
      refine iv_geti X ft_X5 hB a_b17 sh_5 3 (by decide) rfl k_fl_X11_110 dX11_look_123 (fun x18 e_x18 i_x18 => ?_)
      exact iv_iret X hr hlocks hB ⟨rfl, i_x18⟩ dX11_look_126
    skip
    by_cases w19 : x_0.toInt = 4
    · skip
      refine lv_tableIn (tgt := 127) hx hb dX11_look_25 (by omega) (by omega) (by rw [w19]; rfl) (by decide) ?_
      have w19i : iv_R 4 4 x_0 := iv_lit w19
      refine lv_aload_n hx hb dX11_look_127 rfl (lv_at hl 0 rfl) ?_
      refine iv_getr X ft_X11 hB a_h0 sh_11 0 (by decide) rfl k_fl_X11_12 dX11_look_128 (fun b20 g_b20 r_b20 e_b20 a_b20 => ?_)
      refine iv_geti X ft_X5 hB a_b20 sh_5 4 (by decide) rfl k_fl_X11_113 dX11_look_131 (fun x21 e_x21 i_x21 => ?_)
      exact iv_iret X hr hlocks hB ⟨rfl, i_x21⟩ dX11_look_134
    skip
    by_cases w22 : x_0.toInt = 5
    · skip
      refine lv_tableIn (tgt := 135) hx hb dX11_look_25 (by omega) (by omega) (by rw [w22]; rfl) (by decide) ?_
      have w22i : iv_R 5 5 x_0 := iv_lit w22
      refine lv_aload_n hx hb dX11_look_135 rfl (lv_at hl 0 rfl) ?_
      refine iv_getr X ft_X11 hB a_h0 sh_11 0 (by decide) rfl k_fl_X11_12 dX11_look_136 (fun b23 g_b23 r_b23 e_b23 a_b23 => ?_)
      refine iv_geti X ft_X5 hB a_b23 sh_5 5 (by decide) rfl k_fl_X11_116 dX11_look_139 (fun x24 e_x24 i_x24 => ?_)
      exact iv_iret X hr hlocks hB ⟨rfl, i_x24⟩ dX11_look_142
    skip
    by_cases w25 : x_0.toInt = 6
    · skip
      refine lv_tableIn (tgt := 143) hx hb dX11_look_25 (by omega) (by omega) (by rw [w25]; rfl) (by decide) ?_
      have w25i : iv_R 6 6 x_0 := iv_lit w25
      refine lv_aload_n hx hb dX11_look_143 rfl (lv_at hl 0 rfl) ?_
      refine iv_getr X ft_X11 hB a_h0 sh_11 0 (by decide) rfl k_fl_X11_12 dX11_look_144 (fun b26 g_b26 r_b26 e_b26 a_b26 => ?_)
      refine iv_getr X ft_X5 hB a_b26 sh_5 9 (by decide) rfl k_fl_X11_137 dX11_look_147 (fun b27 g_b27 r_b27 e_b27 a_b27 => ?_)
      refine iv_geti X ft_X8 hB a_b27 sh_13 2 (by decide) rfl k_fl_X11_166 dX11_look_150 (fun x28 e_x28 i_x28 => ?_)
      exact iv_iret X hr hlocks hB ⟨rfl, (i_x28.wk (by decide))⟩ dX11_look_153
    skip
    by_cases w29 : x_0.toInt = 7
    · skip
      refine lv_tableIn (tgt := 154) hx hb dX11_look_25 (by omega) (by omega) (by rw [w29]; rfl) (by decide) ?_
      have w29i : iv_R 7 7 x_0 := iv_lit w29
      refine lv_aload_n hx hb dX11_look_154 rfl (lv_at hl 0 rfl) ?_
      refine iv_getr X ft_X11 hB a_h0 sh_11 0 (by decide) rfl k_fl_X11_12 dX11_look_155 (fun b30 g_b30 r_b30 e_b30 a_b30 => ?_)
      refine iv_geti X ft_X5 hB a_b30 sh_5 7 (by decide) rfl k_fl_X11_72 dX11_look_158 (fun x31 e_x31 i_x31 => ?_)
      exact iv_iret X hr hlocks hB ⟨rfl, i_x31⟩ dX11_look_161
    skip
    by_cases w32 : x_0.toInt = 8
    · skip
      refine lv_tableIn (tgt := 162) hx hb dX11_look_25 (by omega) (by omega) (by rw [w32]; rfl) (by decide) ?_
      have w32i : iv_R 8 8 x_0 := iv_lit w32
      refine lv_aload_n hx hb dX11_look_162 rfl (lv_at hl 0 rfl) ?_
      refine iv_getr X ft_X11 hB a_h0 sh_11 0 (by decide) rfl k_fl_X11_12 dX11_look_163 (fun b33 g_b33 r_b33 e_b33 a_b33 => ?_)
      refine iv_geti X ft_X5 hB a_b33 sh_5 12 (by decide) rfl k_fl_X11_208 dX11_look_166 (fun x34 e_x34 i_x34 => ?_)
      exact iv_iret X hr hlocks hB ⟨rfl, i_x34⟩ dX11_look_169
    skip
    by_cases w35 : x_0.toInt = 9
    · skip
      refine lv_tableIn (tgt := 170) hx hb dX11_look_25 (by omega) (by omega) (by rw [w35]; rfl) (by decide) ?_
      have w35i : iv_R 9 9 x_0 := iv_lit w35
      refine lv_aload_n hx hb dX11_look_170 rfl (lv_at hl 0 rfl) ?_
      refine iv_getr X ft_X11 hB a_h0 sh_11 0 (by decide) rfl k_fl_X11_12 dX11_look_171 (fun b36 g_b36 r_b36 e_b36 a_b36 => ?_)
      refine iv_getr X ft_X5 hB a_b36 sh_5 13 (by decide) rfl k_fl_X11_231 dX11_look_174 (fun b37 g_b37 r_b37 e_b37 a_b37 => ?_)
      refine iv_geti X ft_X3 hB a_b37 sh_3 0 (by decide) rfl k_fl_X11_376 dX11_look_177 (fun x38 e_x38 k_x38 => ?_)
      have k_x38 : iv_R ((r_b37 10 % 64 : Nat) : Int) ((r_b37 10 % 64 : Nat) : Int) x38 := k_x38
      have i_x38 : iv_R 0 63 x38 := k_x38.wk ⟨by omega, by omega⟩
      exact iv_iret X hr hlocks hB ⟨rfl, (i_x38.wk (by decide))⟩ dX11_look_180
    skip
    by_cases w39 : x_0.toInt = 10
    · skip
      refine lv_tableIn (tgt := 181) hx hb dX11_look_25 (by omega) (by omega) (by rw [w39]; rfl) (by decide) ?_
      have w39i : iv_R 10 10 x_0 := iv_lit w39
      refine lv_aload_n hx hb dX11_look_181 rfl (lv_at hl 0 rfl) ?_
      refine iv_getr X ft_X11 hB a_h0 sh_11 0 (by decide) rfl k_fl_X11_12 dX11_look_182 (fun b40 g_b40 r_b40 e_b40 a_b40 => ?_)
      refine iv_getr X ft_X5 hB a_b40 sh_5 14 (by decide) rfl k_fl_X11_235 dX11_look_185 (fun b41 g_b41 r_b41 e_b41 a_b41 => ?_)
      refine iv_geti X ft_X3 hB a_b41 sh_3 0 (by decide) rfl k_fl_X11_376 dX11_look_188 (fun x42 e_x42 k_x42 => ?_)
      have k_x42 : iv_R ((r_b41 10 % 64 : Nat) : Int) ((r_b41 10 % 64 : Nat) : Int) x42 := k_x42
      have i_x42 : iv_R 0 63 x42 := k_x42.wk ⟨by omega, by omega⟩
      exact iv_iret X hr hlocks hB ⟨rfl, (i_x42.wk (by decide))⟩ dX11_look_191
    skip
    by_cases w43 : x_0.toInt = 11
    · skip
      refine lv_tableIn (tgt := 192) hx hb dX11_look_25 (by omega) (by omega) (by rw [w43]; rfl) (by decide) ?_
      have w43i : iv_R 11 11 x_0 := iv_lit w43
      refine lv_aload_n hx hb dX11_look_192 rfl (lv_at hl 0 rfl) ?_
      refine iv_getr X ft_X11 hB a_h0 sh_11 0 (by decide) rfl k_fl_X11_12 dX11_look_193 (fun b44 g_b44 r_b44 e_b44 a_b44 => ?_)
      refine iv_getr X ft_X5 hB a_b44 sh_5 10 (by decide) rfl k_fl_X11_346 dX11_look_196 (fun b45 g_b45 r_b45 e_b45 a_b45 => ?_)
      refine iv_geti X ft_X8 hB a_b45 sh_14 2 (by decide) rfl k_fl_X11_166 dX11_look_199 (fun x46 e_x46 i_x46 => ?_)
      exact iv_iret X hr hlocks hB ⟨rfl, (i_x46.wk (by decide))⟩ dX11_look_202
    skip
    by_cases w47 : x_0.toInt = 12
    · skip
      refine lv_tableIn (tgt := 203) hx hb dX11_look_25 (by omega) (by omega) (by rw [w47]; rfl) (by decide) ?_
      have w47i : iv_R 12 12 x_0 := iv_lit w47
      refine lv_aload_n hx hb dX11_look_203 rfl (lv_at hl 0 rfl) ?_
      refine iv_getr X ft_X11 hB a_h0 sh_11 3 (by decide) rfl k_fl_X11_22 dX11_look_204 (fun b48 g_b48 r_b48 e_b48 a_b48 => ?_)
      refine iv_geti X ft_X6 hB a_b48 sh_6 2 (by decide) rfl k_fl_X11_377 dX11_look_207 (fun x49 e_x49 i_x49 => ?_)
      exact iv_iret X hr hlocks hB ⟨rfl, i_x49⟩ dX11_look_210
    skip
    refine lv_tableOut (tgt := 211) hx hb dX11_look_25 (by have := i_x_0.1; have := i_x_0.2; omega) (by decide) ?_
    refine lv_iconst (v := (-1)) hx hb dX11_look_211 (by decide) ?_
    exact iv_iret X hr hlocks hB ⟨rfl, (q_n1.wk (by decide))⟩ dX11_look_212
  · skip
    have i49_x1 : iv_R 1 1 x1 := iv_ne_lo c4 i_x1 q_0 (by decide)
    have i50_x_0 : iv_R 20 35 x_0 := ((i_x_0.cutLo (n := 20) (k3 c4).1).cutHi (n := 35) (k3 c4).2)
    refine lv_aload_n hx hb dX11_look_11 rfl (lv_at hl 0 rfl) ?_
    refine iv_getr X ft_X11 hB a_h0 sh_11 0 (by decide) rfl k_fl_X11_12 dX11_look_12 (fun b52 g_b52 r_b52 e_b52 a_b52 => ?_)
    refine iv_getr X ft_X5 hB a_b52 sh_5 2 (by decide) rfl k_fl_X11_87 dX11_look_15 (fun b53 g_b53 r_b53 e_b53 a_b53 => ?_)
    refine lv_iload_n hx hb dX11_look_18 rfl (lv_at hl 1 rfl) ?_
    refine lv_bipush (v := 20) hx hb dX11_look_19 (by decide) ?_
    refine iv_isub hx hb i50_x_0 q_20 (lo := 0) (hi := 15) (by decide) dX11_look_21 (fun x54 e_x54 i_x54 => ?_)
    refine iv_ald X hB a_b53 sh_20 (iv_in i_x54 (by decide)) dX11_look_22 (fun x55 e_x55 i_x55 => ?_)
    exact iv_iret X hr hlocks hB ⟨rfl, i_x55⟩ dX11_look_23
