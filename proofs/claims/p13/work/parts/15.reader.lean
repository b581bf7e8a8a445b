theorem dX7_forgetFault_0 : decode cX7_forgetFault 0 = .ok (.aload_n 0, 1) := by decide +kernel
theorem dX7_forgetFault_1 : decode cX7_forgetFault 1 = .ok (.iconst 0, 1) := by decide +kernel
theorem dX7_forgetFault_2 : decode cX7_forgetFault 2 = .ok (.putfield 41, 3) := by decide +kernel
theorem dX7_forgetFault_5 : decode cX7_forgetFault 5 = .ok (.aload_n 0, 1) := by decide +kernel
theorem dX7_forgetFault_6 : decode cX7_forgetFault 6 = .ok (.iconst (-1), 1) := by decide +kernel
theorem dX7_forgetFault_7 : decode cX7_forgetFault 7 = .ok (.putfield 18, 3) := by decide +kernel
theorem dX7_forgetFault_10 : decode cX7_forgetFault 10 = .ok (.return_, 1) := by decide +kernel
set_option maxHeartbeats 4000000 in
set_option maxRecDepth 100000 in
theorem c_X7_forgetFault (l : Launch) (D : va_G) (tys : List (ClassId × FieldType)) (base : Nat) (G : iv_G) (h0 : Nat) (g_h0 : Nat → Int32) (r_h0 : Nat → Nat) (a_h0 : G h0 = some (7, g_h0, r_h0)) : Met l yX7_forgetFault (Cond.code yX7_forgetFault cX7_forgetFault 1 none :: iv_W0) ({ frames := 0, cells := 0, slots := 0, locals := 0 }) (iv_Pc iv_sh D classes tys base G [.ref h0]) (iv_Qv iv_sh D classes tys base (fun G' => iv_Md [7] G G')) 0 0 (iv_A base) := by
  refine iv_head (by decide) (Nat.le_of_ble_eq_true rfl) ?_
  intro p e s m args below meth c ls X hr hlocks hname hB hl
  have X := X
  have hx := X.1.1
  have hb := X.1.2.1
  have hM : iv_Md [7] G G := iv_Md.rf
  have hl : lv_has ls 1 [(0, .ref h0)] := hl
  refine lv_aload_n hx hb dX7_forgetFault_0 rfl (lv_at hl 0 rfl) ?_
  refine lv_iconst (v := 0) hx hb dX7_forgetFault_1 (by decide) ?_
  refine iv_puti X ft_X7 hB a_h0 sh_7 6 (by decide) rfl rfl k_fl_X7_41 rfl (q_0.wk (by decide)) rfl rfl dX7_forgetFault_2 (fun H locs hB => ?_)
  have hm := iv_Md.put (x := 0) a_h0 (j := 6) (by decide) (by decide)
  have h9 := iv_up_eq (G := G) (a := h0) (k := (7, upd g_h0 6 0, r_h0))
  generalize iv_up G h0 _ = G1 at hB hm h9
  have hM := hM.stp hm (by decide)
  generalize hgn_g2 : upd g_h0 _ _ = g2 at h9
  have a_h0 := h9
  have e9_g2 : 0 = g2 6 := by rw [← hgn_g2]; simp [upd]
  refine lv_aload_n hx hb dX7_forgetFault_5 rfl (lv_at hl 0 rfl) ?_
  refine lv_iconst (v := (-1)) hx hb dX7_forgetFault_6 (by decide) ?_
  refine iv_puti X ft_X7 hB a_h0 sh_7 7 (by decide) rfl rfl k_fl_X7_18 rfl (q_n1.wk (by decide)) rfl rfl dX7_forgetFault_7 (fun H locs hB => ?_)
  have hm := iv_Md.put (x := (-1)) a_h0 (j := 7) (by decide) (by decide)
  have h9 := iv_up_eq (G := G1) (a := h0) (k := (7, upd g2 7 (-1), r_h0))
  generalize iv_up G1 h0 _ = G3 at hB hm h9
  have hM := hM.stp hm (by decide)
  generalize hgn_g4 : upd g2 _ _ = g4 at h9
  have a_h0 := h9
  have e5 : 0 = g4 6 := by rw [← hgn_g4]; exact e9_g2
  have e9_g4 : (-1) = g4 7 := by rw [← hgn_g4]; simp [upd]
  exact iv_vret X hr hlocks hB hM dX7_forgetFault_10
theorem dX7_step_0 : decode cX7_step 0 = .ok (.aload_n 0, 1) := by decide +kernel
theorem dX7_step_1 : decode cX7_step 1 = .ok (.getfield 80, 3) := by decide +kernel
theorem dX7_step_4 : decode cX7_step 4 = .ok (.sipush 400, 3) := by decide +kernel
theorem dX7_step_7 : decode cX7_step 7 = .ok (.if_icmp .ge 13, 3) := by decide +kernel
theorem dX7_step_10 : decode cX7_step 10 = .ok (.aload_n 0, 1) := by decide +kernel
theorem dX7_step_11 : decode cX7_step 11 = .ok (.dup, 1) := by decide +kernel
theorem dX7_step_12 : decode cX7_step 12 = .ok (.getfield 80, 3) := by decide +kernel
theorem dX7_step_15 : decode cX7_step 15 = .ok (.iconst 1, 1) := by decide +kernel
theorem dX7_step_16 : decode cX7_step 16 = .ok (.iadd, 1) := by decide +kernel
theorem dX7_step_17 : decode cX7_step 17 = .ok (.putfield 80, 3) := by decide +kernel
theorem dX7_step_20 : decode cX7_step 20 = .ok (.aload_n 0, 1) := by decide +kernel
theorem dX7_step_21 : decode cX7_step 21 = .ok (.aload_n 0, 1) := by decide +kernel
theorem dX7_step_22 : decode cX7_step 22 = .ok (.getfield 12, 3) := by decide +kernel
theorem dX7_step_25 : decode cX7_step 25 = .ok (.getfield 86, 3) := by decide +kernel
theorem dX7_step_28 : decode cX7_step 28 = .ok (.aload_n 0, 1) := by decide +kernel
theorem dX7_step_29 : decode cX7_step 29 = .ok (.getfield 80, 3) := by decide +kernel
theorem dX7_step_32 : decode cX7_step 32 = .ok (.iaload, 1) := by decide +kernel
theorem dX7_step_33 : decode cX7_step 33 = .ok (.putfield 53, 3) := by decide +kernel
theorem dX7_step_36 : decode cX7_step 36 = .ok (.aload_n 0, 1) := by decide +kernel
theorem dX7_step_37 : decode cX7_step 37 = .ok (.aload_n 0, 1) := by decide +kernel
theorem dX7_step_38 : decode cX7_step 38 = .ok (.getfield 12, 3) := by decide +kernel
theorem dX7_step_41 : decode cX7_step 41 = .ok (.getfield 89, 3) := by decide +kernel
theorem dX7_step_44 : decode cX7_step 44 = .ok (.aload_n 0, 1) := by decide +kernel
theorem dX7_step_45 : decode cX7_step 45 = .ok (.getfield 80, 3) := by decide +kernel
theorem dX7_step_48 : decode cX7_step 48 = .ok (.iaload, 1) := by decide +kernel
theorem dX7_step_49 : decode cX7_step 49 = .ok (.putfield 92, 3) := by decide +kernel
theorem dX7_step_52 : decode cX7_step 52 = .ok (.return_, 1) := by decide +kernel
set_option maxHeartbeats 4000000 in
set_option maxRecDepth 100000 in
theorem c_X7_step (l : Launch) (D : va_G) (tys : List (ClassId × FieldType)) (base : Nat) (G : iv_G) (h0 : Nat) (g_h0 : Nat → Int32) (r_h0 : Nat → Nat) (a_h0 : G h0 = some (7, g_h0, r_h0)) : Met l yX7_step (Cond.code yX7_step cX7_step 1 none :: iv_W0) ({ frames := 0, cells := 0, slots := 0, locals := 0 }) (iv_Pc iv_sh D classes tys base G [.ref h0]) (iv_Qv iv_sh D classes tys base (fun G' => iv_Md [7] G G' ∧ (∀ (g' : Nat → Int32) (r' : Nat → Nat), G' h0 = some (7, g', r') → iv_R 0 400 (g' 1)))) 0 0 (iv_A base) := by
  refine iv_head (by decide) (Nat.le_of_ble_eq_true rfl) ?_
  intro p e s m args below meth c ls X hr hlocks hname hB hl
  have X := X
  have hx := X.1.1
  have hb := X.1.2.1
  have hM : iv_Md [7] G G := iv_Md.rf
  have hl : lv_has ls 1 [(0, .ref h0)] := hl
  refine lv_aload_n hx hb dX7_step_0 rfl (lv_at hl 0 rfl) ?_
  refine iv_geti X ft_X7 hB a_h0 sh_7 1 (by decide) rfl k_fl_X7_80 dX7_step_1 (fun x1 e_x1 i_x1 => ?_)
  refine lv_sipush (v := 400) hx hb dX7_step_4 (by decide) ?_
  refine lv_icmp_ge (tgt := 20) hx hb dX7_step_7 (by decide) (fun c2 => ?_) (fun c2 => ?_)
  · skip
    have i2_x1 : iv_R 400 400 x1 := (i_x1.cutLo (n := 400) (iv_le_l c2 q_400))
    refine lv_aload_n hx hb dX7_step_20 rfl (lv_at hl 0 rfl) ?_
    refine lv_aload_n hx hb dX7_step_21 rfl (lv_at hl 0 rfl) ?_
    refine iv_getr X ft_X7 hB a_h0 sh_7 0 (by decide) rfl k_fl_X7_12 dX7_step_22 (fun b4 g_b4 r_b4 e_b4 a_b4 => ?_)
    refine iv_getr X ft_X10 hB a_b4 sh_10 0 (by decide) rfl k_fl_X7_86 dX7_step_25 (fun b5 g_b5 r_b5 e_b5 a_b5 => ?_)
    refine lv_aload_n hx hb dX7_step_28 rfl (lv_at hl 0 rfl) ?_
    refine iv_geti0 X ft_X7 hB a_h0 sh_7 1 (by decide) rfl k_fl_X7_80 dX7_step_29 e_x1 ?_
    refine iv_ald X hB a_b5 sh_42 (iv_in i2_x1 (by decide)) dX7_step_32 (fun x6 e_x6 i_x6 => ?_)
    refine iv_puti X ft_X7 hB a_h0 sh_7 2 (by decide) rfl rfl k_fl_X7_53 rfl i_x6 rfl rfl dX7_step_33 (fun H locs hB => ?_)
    have hm := iv_Md.put (x := x6) a_h0 (j := 2) (by decide) (by decide)
    have h9 := iv_up_eq (G := G) (a := h0) (k := (7, upd g_h0 2 x6, r_h0))
    generalize iv_up G h0 _ = G7 at hB hm h9
    have hM := hM.stp hm (by decide)
    generalize hgn_g8 : upd g_h0 _ _ = g8 at h9
    have a_h0 := h9
    have e9 : x1 = g8 1 := by rw [← hgn_g8]; exact e_x1
    have e9_g8 : x6 = g8 2 := by rw [← hgn_g8]; simp [upd]
    refine lv_aload_n hx hb dX7_step_36 rfl (lv_at hl 0 rfl) ?_
    refine lv_aload_n hx hb dX7_step_37 rfl (lv_at hl 0 rfl) ?_
    refine iv_getr X ft_X7 hB a_h0 sh_7 0 (by decide) rfl k_fl_X7_12 dX7_step_38 (fun b10 g_b10 r_b10 e_b10 a_b10 => ?_)
    refine iv_getr X ft_X10 hB a_b10 sh_10 2 (by decide) rfl k_fl_X7_89 dX7_step_41 (fun b11 g_b11 r_b11 e_b11 a_b11 => ?_)
    refine lv_aload_n hx hb dX7_step_44 rfl (lv_at hl 0 rfl) ?_
    refine iv_geti0 X ft_X7 hB a_h0 sh_7 1 (by decide) rfl k_fl_X7_80 dX7_step_45 e9 ?_
    refine iv_ald X hB a_b11 sh_44 (iv_in i2_x1 (by decide)) dX7_step_48 (fun x12 e_x12 i_x12 => ?_)
    refine iv_puti X ft_X7 hB a_h0 sh_7 3 (by decide) rfl rfl k_fl_X7_92 rfl i_x12 rfl rfl dX7_step_49 (fun H locs hB => ?_)
    have hm := iv_Md.put (x := x12) a_h0 (j := 3) (by decide) (by decide)
    have h9 := iv_up_eq (G := G7) (a := h0) (k := (7, upd g8 3 x12, r_h0))
    generalize iv_up G7 h0 _ = G13 at hB hm h9
    have hM := hM.stp hm (by decide)
    generalize hgn_g14 : upd g8 _ _ = g14 at h9
    have a_h0 := h9
    have e15 : x1 = g14 1 := by rw [← hgn_g14]; exact e9
    have e16 : x6 = g14 2 := by rw [← hgn_g14]; exact e9_g8
    have e9_g14 : x12 = g14 3 := by rw [← hgn_g14]; simp [upd]
    exact iv_vret X hr hlocks hB ⟨hM, fun g9 r9 h9 => by have h8 := a_h0.symm.trans h9; cases h8; exact (by rw [← e15]; exact (i2_x1.wk (by decide)))⟩ dX7_step_52
  · skip
    have i16_x1 : iv_R (-1) 399 x1 := (i_x1.cutHi (n := 399) (iv_lt_r (iv_nle c2) q_400 (by decide)))
    refine lv_aload_n hx hb dX7_step_10 rfl (lv_at hl 0 rfl) ?_
    refine lv_dup hx hb dX7_step_11 rfl ?_
    refine iv_geti0 X ft_X7 hB a_h0 sh_7 1 (by decide) rfl k_fl_X7_80 dX7_step_12 e_x1 ?_
    refine lv_iconst (v := 1) hx hb dX7_step_15 (by decide) ?_
    refine iv_iadd hx hb i16_x1 q_1 (lo := 0) (hi := 400) (by decide) dX7_step_16 (fun x18 e_x18 i_x18 => ?_)
    have e_x18 : x18.toInt = x1.toInt + 1 := e_x18
    refine iv_puti X ft_X7 hB a_h0 sh_7 1 (by decide) rfl rfl k_fl_X7_80 rfl (i_x18.wk (by decide)) rfl rfl dX7_step_17 (fun H locs hB => ?_)
    have hm := iv_Md.put7 (x := x18) a_h0 (by rw [← e_x1]; omega)
    have h9 := iv_up_eq (G := G) (a := h0) (k := (7, upd g_h0 1 x18, r_h0))
    generalize iv_up G h0 _ = G19 at hB hm h9
    have hM := hM.stp hm (by decide)
    generalize hgn_g20 : upd g_h0 _ _ = g20 at h9
    have a_h0 := h9
    have e9_g20 : x18 = g20 1 := by rw [← hgn_g20]; simp [upd]
    refine lv_aload_n hx hb dX7_step_20 rfl (lv_at hl 0 rfl) ?_
    refine lv_aload_n hx hb dX7_step_21 rfl (lv_at hl 0 rfl) ?_
    refine iv_getr X ft_X7 hB a_h0 sh_7 0 (by decide) rfl k_fl_X7_12 dX7_step_22 (fun b21 g_b21 r_b21 e_b21 a_b21 => ?_)
    refine iv_getr X ft_X10 hB a_b21 sh_10 0 (by decide) rfl k_fl_X7_86 dX7_step_25 (fun b22 g_b22 r_b22 e_b22 a_b22 => ?_)
    refine lv_aload_n hx hb dX7_step_28 rfl (lv_at hl 0 rfl) ?_
    refine iv_geti0 X ft_X7 hB a_h0 sh_7 1 (by decide) rfl k_fl_X7_80 dX7_step_29 e9_g20 ?_
    refine iv_ald X hB a_b22 sh_42 (iv_in i_x18 (by decide)) dX7_step_32 (fun x23 e_x23 i_x23 => ?_)
    refine iv_puti X ft_X7 hB a_h0 sh_7 2 (by decide) rfl rfl k_fl_X7_53 rfl i_x23 rfl rfl dX7_step_33 (fun H locs hB => ?_)
    have hm := iv_Md.put (x := x23) a_h0 (j := 2) (by decide) (by decide)
    have h9 := iv_up_eq (G := G19) (a := h0) (k := (7, upd g20 2 x23, r_h0))
    generalize iv_up G19 h0 _ = G24 at hB hm h9
    have hM := hM.stp hm (by decide)
    generalize hgn_g25 : upd g20 _ _ = g25 at h9
    have a_h0 := h9
    have e26 : x18 = g25 1 := by rw [← hgn_g25]; exact e9_g20
    have e9_g25 : x23 = g25 2 := by rw [← hgn_g25]; simp [upd]
    refine lv_aload_n hx hb dX7_step_36 rfl (lv_at hl 0 rfl) ?_
    refine lv_aload_n hx hb dX7_step_37 rfl (lv_at hl 0 rfl) ?_
    refine iv_getr X ft_X7 hB a_h0 sh_7 0 (by decide) rfl k_fl_X7_12 dX7_step_38 (fun b27 g_b27 r_b27 e_b27 a_b27 => ?_)
    refine iv_getr X ft_X10 hB a_b27 sh_10 2 (by decide) rfl k_fl_X7_89 dX7_step_41 (fun b28 g_b28 r_b28 e_b28 a_b28 => ?_)
    refine lv_aload_n hx hb dX7_step_44 rfl (lv_at hl 0 rfl) ?_
    refine iv_geti0 X ft_X7 hB a_h0 sh_7 1 (by decide) rfl k_fl_X7_80 dX7_step_45 e26 ?_
    refine iv_ald X hB a_b28 sh_44 (iv_in i_x18 (by decide)) dX7_step_48 (fun x29 e_x29 i_x29 => ?_)
    refine iv_puti X ft_X7 hB a_h0 sh_7 3 (by decide) rfl rfl k_fl_X7_92 rfl i_x29 rfl rfl dX7_step_49 (fun H locs hB => ?_)
    have hm := iv_Md.put (x := x29) a_h0 (j := 3) (by decide) (by decide)
    have h9 := iv_up_eq (G := G24) (a := h0) (k := (7, upd g25 3 x29, r_h0))
    generalize iv_up G24 h0 _ = G30 at hB hm h9
    have hM := hM.stp hm (by decide)
    generalize hgn_g31 : upd g25 _ _ = g31 at h9
    have a_h0 := h9
    have e32 : x18 = g31 1 := by rw [← hgn_g31]; exact e26
    have e33 : x23 = g31 2 := by rw [← hgn_g31]; exact e9_g25
    have e9_g31 : x29 = g31 3 := by rw [← hgn_g31]; simp [upd]
    exact iv_vret X hr hlocks hB ⟨hM, fun g9 r9 h9 => by have h8 := a_h0.symm.trans h9; cases h8; exact (by rw [← e32]; exact i_x18)⟩ dX7_step_52
theorem dX7_begin_0 : decode cX7_begin 0 = .ok (.aload_n 0, 1) := by decide +kernel
theorem dX7_begin_1 : decode cX7_begin 1 = .ok (.getfield 12, 3) := by decide +kernel
theorem dX7_begin_4 : decode cX7_begin 4 = .ok (.aload_n 1, 1) := by decide +kernel
theorem dX7_begin_5 : decode cX7_begin 5 = .ok (.iload_n 2, 1) := by decide +kernel
theorem dX7_begin_6 : decode cX7_begin 6 = .ok (.invokevirtual 68, 3) := by decide +kernel
theorem dX7_begin_9 : decode cX7_begin 9 = .ok (.aload_n 0, 1) := by decide +kernel
theorem dX7_begin_10 : decode cX7_begin 10 = .ok (.invokevirtual 71, 3) := by decide +kernel
theorem dX7_begin_13 : decode cX7_begin 13 = .ok (.aload_n 0, 1) := by decide +kernel
theorem dX7_begin_14 : decode cX7_begin 14 = .ok (.iconst 0, 1) := by decide +kernel
theorem dX7_begin_15 : decode cX7_begin 15 = .ok (.putfield 74, 3) := by decide +kernel
theorem dX7_begin_18 : decode cX7_begin 18 = .ok (.aload_n 0, 1) := by decide +kernel
theorem dX7_begin_19 : decode cX7_begin 19 = .ok (.iconst 0, 1) := by decide +kernel
theorem dX7_begin_20 : decode cX7_begin 20 = .ok (.putfield 77, 3) := by decide +kernel
theorem dX7_begin_23 : decode cX7_begin 23 = .ok (.aload_n 0, 1) := by decide +kernel
theorem dX7_begin_24 : decode cX7_begin 24 = .ok (.getfield 29, 3) := by decide +kernel
theorem dX7_begin_27 : decode cX7_begin 27 = .ok (.iconst 0, 1) := by decide +kernel
theorem dX7_begin_28 : decode cX7_begin 28 = .ok (.iconst 0, 1) := by decide +kernel
theorem dX7_begin_29 : decode cX7_begin 29 = .ok (.iastore, 1) := by decide +kernel
theorem dX7_begin_30 : decode cX7_begin 30 = .ok (.aload_n 0, 1) := by decide +kernel
theorem dX7_begin_31 : decode cX7_begin 31 = .ok (.iconst (-1), 1) := by decide +kernel
theorem dX7_begin_32 : decode cX7_begin 32 = .ok (.putfield 80, 3) := by decide +kernel
theorem dX7_begin_35 : decode cX7_begin 35 = .ok (.aload_n 0, 1) := by decide +kernel
theorem dX7_begin_36 : decode cX7_begin 36 = .ok (.invokevirtual 83, 3) := by decide +kernel
theorem dX7_begin_39 : decode cX7_begin 39 = .ok (.return_, 1) := by decide +kernel
set_option maxHeartbeats 4000000 in
set_option maxRecDepth 100000 in
theorem c_X7_begin (l : Launch) (D : va_G) (tys : List (ClassId × FieldType)) (base : Nat) (G : iv_G) (h0 : Nat) (g_h0 : Nat → Int32) (r_h0 : Nat → Nat) (a_h0 : G h0 = some (7, g_h0, r_h0)) (h1 : Nat) (g_h1 : Nat → Int32) (r_h1 : Nat → Nat) (a_h1 : G h1 = some (45, g_h1, r_h1)) (x_1 : Int32) (i_x_1 : iv_R 0 400 x_1) : Met l yX7_begin (Cond.code yX7_begin cX7_begin 3 none :: iv_W0) ({ frames := 7, cells := 0, slots := 0, locals := 161 }) (iv_Pc iv_sh D classes tys base G [.ref h0, .ref h1, .int x_1]) (iv_Qv iv_sh D classes tys base (fun G' => iv_Md0 [7, 35, 42, 43, 44] G G' ∧ (∀ (g' : Nat → Int32) (r' : Nat → Nat), G' h0 = some (7, g', r') → iv_R 0 400 (g' 1)))) 0 0 (iv_A base) := by
  refine iv_head (by decide) (Nat.le_of_ble_eq_true rfl) ?_
  intro p e s m args below meth c ls X hr hlocks hname hB hl
  have X := X
  have hx := X.1.1
  have hb := X.1.2.1
  have hM : iv_Md0 [7, 35, 42, 43, 44] G G := iv_Md0.rf
  have hl : lv_has ls 3 [(0, .ref h0), (1, .ref h1), (2, .int x_1)] := hl
  refine lv_aload_n hx hb dX7_begin_0 rfl (lv_at hl 0 rfl) ?_
  refine iv_getr X ft_X7 hB a_h0 sh_7 0 (by decide) rfl k_fl_X7_12 dX7_begin_1 (fun b1 g_b1 r_b1 e_b1 a_b1 => ?_)
  refine lv_aload_n hx hb dX7_begin_4 rfl (lv_at hl 1 rfl) ?_
  refine lv_iload_n hx hb dX7_begin_5 rfl (lv_at hl 2 rfl) ?_
  refine iv_cVv X k_good k_mf_X10_read k_im_X10_read k_sel_X10_read k_ml_X7_68 ft_X10 hB a_b1 sh_10 (As := [.ref h1, .int x_1]) (c_X10_read l D tys base G b1 g_b1 r_b1 a_b1 h1 g_h1 r_h1 a_h1 x_1 i_x_1) ⟨rfl, rfl⟩ ⟨Nat.le_of_ble_eq_true rfl, Nat.le_of_ble_eq_true rfl⟩ ⟨Nat.le_of_ble_eq_true rfl, Nat.le_of_ble_eq_true rfl⟩ rfl rfl hl.1 (Nat.le_of_ble_eq_true rfl) dX7_begin_6 (fun G9 H locs hq hB => ?_)
  have hm := hq
  obtain ⟨G2, hG9⟩ : ∃ g, g = G9 := ⟨_, rfl⟩
  rw [← hG9] at hm hB
  have hM := hM.stp hm.weak (by decide)
  have a_h0 := hm.at a_h0 (by decide)
  have a_h1 := hm.at a_h1 (by decide)
  refine lv_aload_n hx hb dX7_begin_9 rfl (lv_at hl 0 rfl) ?_
  refine iv_cVv X k_good k_mf_X7_forgetFault k_im_X7_forgetFault k_sel_X7_forgetFault k_ml_X7_71 ft_X7 hB a_h0 sh_7 (As := []) (c_X7_forgetFault l D tys base G2 h0 g_h0 r_h0 a_h0) ⟨rfl, rfl⟩ ⟨Nat.le_of_ble_eq_true rfl, Nat.le_of_ble_eq_true rfl⟩ ⟨Nat.le_of_ble_eq_true rfl, Nat.le_of_ble_eq_true rfl⟩ rfl rfl hl.1 (Nat.le_of_ble_eq_true rfl) dX7_begin_10 (fun G9 H locs hq hB => ?_)
  have hm := hq
  obtain ⟨G3, hG9⟩ : ∃ g, g = G9 := ⟨_, rfl⟩
  rw [← hG9] at hm hB
  have hM := hM.stp hm.weak (by decide)
  obtain ⟨g4, r5, a_h0, f_g4⟩ := hm.ex a_h0
  have e6 : b1 = r5 0 := e_b1.trans (f_g4.1 0 (fun h => absurd (show (7 : Nat) = 5 from h) (by decide))).symm
  have a_h1 := hm.at a_h1 (by decide)
  refine lv_aload_n hx hb dX7_begin_13 rfl (lv_at hl 0 rfl) ?_
  refine lv_iconst (v := 0) hx hb dX7_begin_14 (by decide) ?_
  refine iv_puti X ft_X7 hB a_h0 sh_7 8 (by decide) rfl rfl k_fl_X7_74 rfl (q_0.wk (by decide)) rfl rfl dX7_begin_15 (fun H locs hB => ?_)
  have hm := iv_Md0.put (x := 0) a_h0 (j := 8) (fun h => absurd rfl h)
  have h9 := iv_up_eq (G := G3) (a := h0) (k := (7, upd g4 8 0, r5))
  generalize iv_up G3 h0 _ = G7 at hB hm h9
  have hM := hM.stp hm (by decide)
  generalize hgn_g8 : upd g4 _ _ = g8 at h9
  have a_h1 := hm.at a_h1 (by decide)
  have a_h0 := h9
  have e9_g8 : 0 = g8 8 := by rw [← hgn_g8]; simp [upd]
  refine lv_aload_n hx hb dX7_begin_18 rfl (lv_at hl 0 rfl) ?_
  refine lv_iconst (v := 0) hx hb dX7_begin_19 (by decide) ?_
  refine iv_puti X ft_X7 hB a_h0 sh_7 5 (by decide) rfl rfl k_fl_X7_77 rfl (q_0.wk (by decide)) rfl rfl dX7_begin_20 (fun H locs hB => ?_)
  have hm := iv_Md0.put (x := 0) a_h0 (j := 5) (fun h => absurd rfl h)
  have h9 := iv_up_eq (G := G7) (a := h0) (k := (7, upd g8 5 0, r5))
  generalize iv_up G7 h0 _ = G9 at hB hm h9
  have hM := hM.stp hm (by decide)
  generalize hgn_g10 : upd g8 _ _ = g10 at h9
  have a_h1 := hm.at a_h1 (by decide)
  have a_h0 := h9
  have e11 : 0 = g10 8 := by rw [← hgn_g10]; exact e9_g8
  have e9_g10 : 0 = g10 5 := by rw [← hgn_g10]; simp [upd]
  refine lv_aload_n hx hb dX7_begin_23 rfl (lv_at hl 0 rfl) ?_
  refine iv_getr X ft_X7 hB a_h0 sh_7 11 (by decide) rfl k_fl_X7_29 dX7_begin_24 (fun b12 g_b12 r_b12 e_b12 a_b12 => ?_)
  refine lv_iconst (v := 0) hx hb dX7_begin_27 (by decide) ?_
  refine lv_iconst (v := 0) hx hb dX7_begin_28 (by decide) ?_
  refine iv_ast X hB a_b12 sh_35 (iv_in q_0 (by decide)) (q_0.wk (by decide)) dX7_begin_29 (fun H locs hB => ?_)
  have hm := iv_Md.ast (j := (0 : Int32).toNatClampNeg) (x := 0) a_b12 rfl (by decide)
  have h9 := iv_up_eq (G := G9) (a := b12) (k := (35, upd g_b12 (0 : Int32).toNatClampNeg 0, r_b12))
  generalize iv_up G9 b12 _ = G13 at hB hm h9
  have hM := hM.stp hm.weak (by decide)
  have a_h1 := hm.at a_h1 (by decide)
  have a_h0 := hm.at a_h0 (by decide)
  refine lv_aload_n hx hb dX7_begin_30 rfl (lv_at hl 0 rfl) ?_
  refine lv_iconst (v := (-1)) hx hb dX7_begin_31 (by decide) ?_
  refine iv_puti X ft_X7 hB a_h0 sh_7 1 (by decide) rfl rfl k_fl_X7_80 rfl (q_n1.wk (by decide)) rfl rfl dX7_begin_32 (fun H locs hB => ?_)
  have hm := iv_Md0.put (x := (-1)) a_h0 (j := 1) (fun h => absurd rfl h)
  have h9 := iv_up_eq (G := G13) (a := h0) (k := (7, upd g10 1 (-1), r5))
  generalize iv_up G13 h0 _ = G15 at hB hm h9
  have hM := hM.stp hm (by decide)
  generalize hgn_g16 : upd g10 _ _ = g16 at h9
  have a_h1 := hm.at a_h1 (by decide)
  have a_h0 := h9
  have e17 : 0 = g16 8 := by rw [← hgn_g16]; exact e11
  have e18 : 0 = g16 5 := by rw [← hgn_g16]; exact e9_g10
  have e9_g16 : (-1) = g16 1 := by rw [← hgn_g16]; simp [upd]
  refine lv_aload_n hx hb dX7_begin_35 rfl (lv_at hl 0 rfl) ?_
  refine iv_cVv X k_good k_mf_X7_step k_im_X7_step k_sel_X7_step k_ml_X7_83 ft_X7 hB a_h0 sh_7 (As := []) (c_X7_step l D tys base G15 h0 g16 r5 a_h0) ⟨rfl, rfl⟩ ⟨Nat.le_of_ble_eq_true rfl, Nat.le_of_ble_eq_true rfl⟩ ⟨Nat.le_of_ble_eq_true rfl, Nat.le_of_ble_eq_true rfl⟩ rfl rfl hl.1 (Nat.le_of_ble_eq_true rfl) dX7_begin_36 (fun G9 H locs hq hB => ?_)
  obtain ⟨hm, vg⟩ := hq
  obtain ⟨G19, hG9⟩ : ∃ g, g = G9 := ⟨_, rfl⟩
  rw [← hG9] at hm hB vg
  have hM := hM.stp hm.weak (by decide)
  have a_h1 := hm.at a_h1 (by decide)
  obtain ⟨g20, r21, a_h0, f_g20⟩ := hm.ex a_h0
  have e22 : 0 = g20 8 := e17.trans (f_g20.2.1 8 (show (8 : Nat) ∈ iv_stab 7 from by decide)).symm
  have e23 : b1 = r21 0 := e6.trans (f_g20.1 0 (fun h => absurd (show (7 : Nat) = 5 from h) (by decide))).symm
  have e24 : b12 = r21 11 := e_b12.trans (f_g20.1 11 (fun h => absurd (show (7 : Nat) = 5 from h) (by decide))).symm
  have vg25 := vg _ _ a_h0
  exact iv_vret X hr hlocks hB ⟨hM, fun g9 r9 h9 => by have h8 := a_h0.symm.trans h9; cases h8; exact vg25⟩ dX7_begin_39
theorem dX7_emit_0 : decode cX7_emit 0 = .ok (.aload_n 0, 1) := by decide +kernel
theorem dX7_emit_1 : decode cX7_emit 1 = .ok (.getfield 77, 3) := by decide +kernel
theorem dX7_emit_4 : decode cX7_emit 4 = .ok (.sipush 400, 3) := by decide +kernel
theorem dX7_emit_7 : decode cX7_emit 7 = .ok (.if_icmp .ge 33, 3) := by decide +kernel
theorem dX7_emit_10 : decode cX7_emit 10 = .ok (.aload_n 0, 1) := by decide +kernel
theorem dX7_emit_11 : decode cX7_emit 11 = .ok (.getfield 35, 3) := by decide +kernel
theorem dX7_emit_14 : decode cX7_emit 14 = .ok (.aload_n 0, 1) := by decide +kernel
theorem dX7_emit_15 : decode cX7_emit 15 = .ok (.getfield 77, 3) := by decide +kernel
theorem dX7_emit_18 : decode cX7_emit 18 = .ok (.iload_n 1, 1) := by decide +kernel
theorem dX7_emit_19 : decode cX7_emit 19 = .ok (.iastore, 1) := by decide +kernel
theorem dX7_emit_20 : decode cX7_emit 20 = .ok (.aload_n 0, 1) := by decide +kernel
theorem dX7_emit_21 : decode cX7_emit 21 = .ok (.getfield 38, 3) := by decide +kernel
theorem dX7_emit_24 : decode cX7_emit 24 = .ok (.aload_n 0, 1) := by decide +kernel
theorem dX7_emit_25 : decode cX7_emit 25 = .ok (.getfield 77, 3) := by decide +kernel
theorem dX7_emit_28 : decode cX7_emit 28 = .ok (.iload_n 2, 1) := by decide +kernel
theorem dX7_emit_29 : decode cX7_emit 29 = .ok (.iastore, 1) := by decide +kernel
theorem dX7_emit_30 : decode cX7_emit 30 = .ok (.aload_n 0, 1) := by decide +kernel
theorem dX7_emit_31 : decode cX7_emit 31 = .ok (.dup, 1) := by decide +kernel
theorem dX7_emit_32 : decode cX7_emit 32 = .ok (.getfield 77, 3) := by decide +kernel
theorem dX7_emit_35 : decode cX7_emit 35 = .ok (.iconst 1, 1) := by decide +kernel
theorem dX7_emit_36 : decode cX7_emit 36 = .ok (.iadd, 1) := by decide +kernel
theorem dX7_emit_37 : decode cX7_emit 37 = .ok (.putfield 77, 3) := by decide +kernel
theorem dX7_emit_40 : decode cX7_emit 40 = .ok (.return_, 1) := by decide +kernel
set_option maxHeartbeats 4000000 in
set_option maxRecDepth 100000 in
theorem c_X7_emit (l : Launch) (D : va_G) (tys : List (ClassId × FieldType)) (base : Nat) (G : iv_G) (h0 : Nat) (g_h0 : Nat → Int32) (r_h0 : Nat → Nat) (a_h0 : G h0 = some (7, g_h0, r_h0)) (x_0 : Int32) (i_x_0 : iv_R 1 148 x_0) (x_1 : Int32) (i_x_1 : iv_R (-2147483648) 2147483647 x_1) : Met l yX7_emit (Cond.code yX7_emit cX7_emit 3 none :: iv_W0) ({ frames := 0, cells := 0, slots := 0, locals := 0 }) (iv_Pc iv_sh D classes tys base G [.ref h0, .int x_0, .int x_1]) (iv_Qv iv_sh D classes tys base (fun G' => iv_Md [7, 37, 38] G G')) 0 0 (iv_A base) := by
  refine iv_head (by decide) (Nat.le_of_ble_eq_true rfl) ?_
  intro p e s m args below meth c ls X hr hlocks hname hB hl
  have X := X
  have hx := X.1.1
  have hb := X.1.2.1
  have hM : iv_Md [7, 37, 38] G G := iv_Md.rf
  have hl : lv_has ls 3 [(0, .ref h0), (1, .int x_0), (2, .int x_1)] := hl
  refine lv_aload_n hx hb dX7_emit_0 rfl (lv_at hl 0 rfl) ?_
  refine iv_geti X ft_X7 hB a_h0 sh_7 5 (by decide) rfl k_fl_X7_77 dX7_emit_1 (fun x1 e_x1 i_x1 => ?_)
  refine lv_sipush (v := 400) hx hb dX7_emit_4 (by decide) ?_
  refine lv_icmp_ge (tgt := 40) hx hb dX7_emit_7 (by decide) (fun c2 => ?_) (fun c2 => ?_)
  · skip
    have i2_x1 : iv_R 400 400 x1 := (i_x1.cutLo (n := 400) (iv_le_l c2 q_400))
    exact iv_vret X hr hlocks hB hM dX7_emit_40
  · skip
    have i3_x1 : iv_R 0 399 x1 := (i_x1.cutHi (n := 399) (iv_lt_r (iv_nle c2) q_400 (by decide)))
    refine lv_aload_n hx hb dX7_emit_10 rfl (lv_at hl 0 rfl) ?_
    refine iv_getr X ft_X7 hB a_h0 sh_7 13 (by decide) rfl k_fl_X7_35 dX7_emit_11 (fun b5 g_b5 r_b5 e_b5 a_b5 => ?_)
    refine lv_aload_n hx hb dX7_emit_14 rfl (lv_at hl 0 rfl) ?_
    refine iv_geti0 X ft_X7 hB a_h0 sh_7 5 (by decide) rfl k_fl_X7_77 dX7_emit_15 e_x1 ?_
    refine lv_iload_n hx hb dX7_emit_18 rfl (lv_at hl 1 rfl) ?_
    refine iv_ast X hB a_b5 sh_37 (iv_in i3_x1 (by decide)) (i_x_0.wk (by decide)) dX7_emit_19 (fun H locs hB => ?_)
    have hm := iv_Md.ast (j := x1.toNatClampNeg) (x := x_0) a_b5 rfl (by decide)
    have h9 := iv_up_eq (G := G) (a := b5) (k := (37, upd g_b5 x1.toNatClampNeg x_0, r_b5))
    generalize iv_up G b5 _ = G6 at hB hm h9
    have hM := hM.stp hm (by decide)
    have a_h0 := hm.at a_h0 (by decide)
    refine lv_aload_n hx hb dX7_emit_20 rfl (lv_at hl 0 rfl) ?_
    refine iv_getr X ft_X7 hB a_h0 sh_7 14 (by decide) rfl k_fl_X7_38 dX7_emit_21 (fun b8 g_b8 r_b8 e_b8 a_b8 => ?_)
    refine lv_aload_n hx hb dX7_emit_24 rfl (lv_at hl 0 rfl) ?_
    refine iv_geti0 X ft_X7 hB a_h0 sh_7 5 (by decide) rfl k_fl_X7_77 dX7_emit_25 e_x1 ?_
    refine lv_iload_n hx hb dX7_emit_28 rfl (lv_at hl 2 rfl) ?_
    refine iv_ast X hB a_b8 sh_38 (iv_in i3_x1 (by decide)) i_x_1 dX7_emit_29 (fun H locs hB => ?_)
    have hm := iv_Md.ast (j := x1.toNatClampNeg) (x := x_1) a_b8 rfl (by decide)
    have h9 := iv_up_eq (G := G6) (a := b8) (k := (38, upd g_b8 x1.toNatClampNeg x_1, r_b8))
    generalize iv_up G6 b8 _ = G9 at hB hm h9
    have hM := hM.stp hm (by decide)
    have a_h0 := hm.at a_h0 (by decide)
    refine lv_aload_n hx hb dX7_emit_30 rfl (lv_at hl 0 rfl) ?_
    refine lv_dup hx hb dX7_emit_31 rfl ?_
    refine iv_geti0 X ft_X7 hB a_h0 sh_7 5 (by decide) rfl k_fl_X7_77 dX7_emit_32 e_x1 ?_
    refine lv_iconst (v := 1) hx hb dX7_emit_35 (by decide) ?_
    refine iv_iadd hx hb i3_x1 q_1 (lo := 1) (hi := 400) (by decide) dX7_emit_36 (fun x11 e_x11 i_x11 => ?_)
    have e_x11 : x11.toInt = x1.toInt + 1 := e_x11
    refine iv_puti X ft_X7 hB a_h0 sh_7 5 (by decide) rfl rfl k_fl_X7_77 rfl (i_x11.wk (by decide)) rfl rfl dX7_emit_37 (fun H locs hB => ?_)
    have hm := iv_Md.put75 (x := x11) a_h0 (by rw [← e_x1]; omega)
    have h9 := iv_up_eq (G := G9) (a := h0) (k := (7, upd g_h0 5 x11, r_h0))
    generalize iv_up G9 h0 _ = G12 at hB hm h9
    have hM := hM.stp hm (by decide)
    generalize hgn_g13 : upd g_h0 _ _ = g13 at h9
    have a_h0 := h9
    have e9_g13 : x11 = g13 5 := by rw [← hgn_g13]; simp [upd]
    exact iv_vret X hr hlocks hB hM dX7_emit_40
theorem dX7_emitWaiting_0 : decode cX7_emitWaiting 0 = .ok (.iload_n 1, 1) := by decide +kernel
theorem dX7_emitWaiting_1 : decode cX7_emitWaiting 1 = .ok (.ifCond .eq 9, 3) := by decide +kernel
theorem dX7_emitWaiting_4 : decode cX7_emitWaiting 4 = .ok (.aload_n 0, 1) := by decide +kernel
theorem dX7_emitWaiting_5 : decode cX7_emitWaiting 5 = .ok (.iload_n 1, 1) := by decide +kernel
theorem dX7_emitWaiting_6 : decode cX7_emitWaiting 6 = .ok (.iconst 0, 1) := by decide +kernel
theorem dX7_emitWaiting_7 : decode cX7_emitWaiting 7 = .ok (.invokevirtual 125, 3) := by decide +kernel
theorem dX7_emitWaiting_10 : decode cX7_emitWaiting 10 = .ok (.return_, 1) := by decide +kernel
set_option maxHeartbeats 4000000 in
set_option maxRecDepth 100000 in
theorem c_X7_emitWaiting (l : Launch) (D : va_G) (tys : List (ClassId × FieldType)) (base : Nat) (G : iv_G) (h0 : Nat) (g_h0 : Nat → Int32) (r_h0 : Nat → Nat) (a_h0 : G h0 = some (7, g_h0, r_h0)) (x_0 : Int32) (i_x_0 : iv_R 0 135 x_0) : Met l yX7_emitWaiting (Cond.code yX7_emitWaiting cX7_emitWaiting 2 none :: iv_W0) ({ frames := 1, cells := 0, slots := 0, locals := 22 }) (iv_Pc iv_sh D classes tys base G [.ref h0, .int x_0]) (iv_Qv iv_sh D classes tys base (fun G' => iv_Md [7, 37, 38] G G')) 0 0 (iv_A base) := by
  refine iv_head (by decide) (Nat.le_of_ble_eq_true rfl) ?_
  intro p e s m args below meth c ls X hr hlocks hname hB hl
  have X := X
  have hx := X.1.1
  have hb := X.1.2.1
  have hM : iv_Md [7, 37, 38] G G := iv_Md.rf
  have hl : lv_has ls 2 [(0, .ref h0), (1, .int x_0)] := hl
  refine lv_iload_n hx hb dX7_emitWaiting_0 rfl (lv_at hl 1 rfl) ?_
  refine lv_if_eq (tgt := 10) hx hb dX7_emitWaiting_1 (by decide) (fun c1 => ?_) (fun c1 => ?_)
  · skip
    have i1_x_0 : iv_R 0 0 x_0 := (i_x_0.cutHi (n := 0) (iv_eq_r c1 q_0).2)
    exact iv_vret X hr hlocks hB hM dX7_emitWaiting_10
  · skip
    have i2_x_0 : iv_R 1 135 x_0 := iv_ne_lo c1 i_x_0 q_0 (by decide)
    refine lv_aload_n hx hb dX7_emitWaiting_4 rfl (lv_at hl 0 rfl) ?_
    refine lv_iload_n hx hb dX7_emitWaiting_5 rfl (lv_at hl 1 rfl) ?_
    refine lv_iconst (v := 0) hx hb dX7_emitWaiting_6 (by decide) ?_
    refine iv_cVv X k_good k_mf_X7_emit k_im_X7_emit k_sel_X7_emit k_ml_X7_125 ft_X7 hB a_h0 sh_7 (As := [.int x_0, .int 0]) (c_X7_emit l D tys base G h0 g_h0 r_h0 a_h0 x_0 (i2_x_0.wk (by decide)) 0 (q_0.wk (by decide))) ⟨rfl, rfl⟩ ⟨Nat.le_of_ble_eq_true rfl, Nat.le_of_ble_eq_true rfl⟩ ⟨Nat.le_of_ble_eq_true rfl, Nat.le_of_ble_eq_true rfl⟩ rfl rfl hl.1 (Nat.le_of_ble_eq_true rfl) dX7_emitWaiting_7 (fun G9 H locs hq hB => ?_)
    have hm := hq
    obtain ⟨G4, hG9⟩ : ∃ g, g = G9 := ⟨_, rfl⟩
    rw [← hG9] at hm hB
    have hM := hM.stp hm (by decide)
    obtain ⟨g5, r6, a_h0, f_g5⟩ := hm.ex a_h0
    exact iv_vret X hr hlocks hB hM dX7_emitWaiting_10
theorem dX7_isSignOfSums_0 : decode cX7_isSignOfSums 0 = .ok (.iload_n 0, 1) := by decide +kernel
theorem dX7_isSignOfSums_1 : decode cX7_isSignOfSums 1 = .ok (.bipush 43, 2) := by decide +kernel
theorem dX7_isSignOfSums_3 : decode cX7_isSignOfSums 3 = .ok (.if_icmp .eq 21, 3) := by decide +kernel
theorem dX7_isSignOfSums_6 : decode cX7_isSignOfSums 6 = .ok (.iload_n 0, 1) := by decide +kernel
theorem dX7_isSignOfSums_7 : decode cX7_isSignOfSums 7 = .ok (.bipush 45, 2) := by decide +kernel
theorem dX7_isSignOfSums_9 : decode cX7_isSignOfSums 9 = .ok (.if_icmp .eq 15, 3) := by decide +kernel
theorem dX7_isSignOfSums_12 : decode cX7_isSignOfSums 12 = .ok (.iload_n 0, 1) := by decide +kernel
theorem dX7_isSignOfSums_13 : decode cX7_isSignOfSums 13 = .ok (.bipush 42, 2) := by decide +kernel
theorem dX7_isSignOfSums_15 : decode cX7_isSignOfSums 15 = .ok (.if_icmp .eq 9, 3) := by decide +kernel
theorem dX7_isSignOfSums_18 : decode cX7_isSignOfSums 18 = .ok (.iload_n 0, 1) := by decide +kernel
theorem dX7_isSignOfSums_19 : decode cX7_isSignOfSums 19 = .ok (.bipush 47, 2) := by decide +kernel
theorem dX7_isSignOfSums_21 : decode cX7_isSignOfSums 21 = .ok (.if_icmp .ne 7, 3) := by decide +kernel
theorem dX7_isSignOfSums_24 : decode cX7_isSignOfSums 24 = .ok (.iconst 1, 1) := by decide +kernel
theorem dX7_isSignOfSums_25 : decode cX7_isSignOfSums 25 = .ok (.goto 4, 3) := by decide +kernel
theorem dX7_isSignOfSums_28 : decode cX7_isSignOfSums 28 = .ok (.iconst 0, 1) := by decide +kernel
theorem dX7_isSignOfSums_29 : decode cX7_isSignOfSums 29 = .ok (.ireturn, 1) := by decide +kernel
set_option maxHeartbeats 4000000 in
set_option maxRecDepth 100000 in
theorem c_X7_isSignOfSums (l : Launch) (D : va_G) (tys : List (ClassId × FieldType)) (base : Nat) (G : iv_G) (x_0 : Int32) (i_x_0 : iv_R (-2147483648) 2147483647 x_0) : Met l yX7_isSignOfSums (Cond.code yX7_isSignOfSums cX7_isSignOfSums 1 (some .boolean) :: iv_W0) ({ frames := 0, cells := 0, slots := 0, locals := 0 }) (iv_Pc iv_sh D classes tys base G [.int x_0]) (iv_Qi iv_sh D classes tys base (fun v G' => G = G' ∧ iv_R 0 1 v ∧ (¬ v = 0 → iv_R 42 47 x_0))) 0 0 (iv_A base) := by
  refine iv_head (by decide) (Nat.le_of_ble_eq_true rfl) ?_
  intro p e s m args below meth c ls X hr hlocks hname hB hl
  have X := X
  have hx := X.1.1
  have hb := X.1.2.1
  have hl : lv_has ls 1 [(0, .int x_0)] := hl
  refine lv_iload_n hx hb dX7_isSignOfSums_0 rfl (lv_at hl 0 rfl) ?_
  refine lv_bipush (v := 43) hx hb dX7_isSignOfSums_1 (by decide) ?_
  refine lv_icmp_eq (tgt := 24) hx hb dX7_isSignOfSums_3 (by decide) (fun c1 => ?_) (fun c1 => ?_)
  · skip
    have i1_x_0 : iv_R 43 43 x_0 := ((i_x_0.cutLo (n := 43) (iv_eq_r c1 q_43).1).cutHi (n := 43) (iv_eq_r c1 q_43).2)
    refine lv_iconst (v := 1) hx hb dX7_isSignOfSums_24 (by decide) ?_
    refine lv_goto (tgt := 29) hx hb dX7_isSignOfSums_25 (by decide) ?_
    exact iv_zret X hr hlocks hB (q_1.wk (by decide)) ⟨rfl, (q_1.wk (by decide)), fun _ => (i1_x_0.wk (by decide))⟩ dX7_isSignOfSums_29
  · skip
    refine lv_iload_n hx hb dX7_isSignOfSums_6 rfl (lv_at hl 0 rfl) ?_
    refine lv_bipush (v := 45) hx hb dX7_isSignOfSums_7 (by decide) ?_
    refine lv_icmp_eq (tgt := 24) hx hb dX7_isSignOfSums_9 (by decide) (fun c3 => ?_) (fun c3 => ?_)
    · skip
      have i3_x_0 : iv_R 45 45 x_0 := ((i_x_0.cutLo (n := 45) (iv_eq_r c3 q_45).1).cutHi (n := 45) (iv_eq_r c3 q_45).2)
      refine lv_iconst (v := 1) hx hb dX7_isSignOfSums_24 (by decide) ?_
      refine lv_goto (tgt := 29) hx hb dX7_isSignOfSums_25 (by decide) ?_
      exact iv_zret X hr hlocks hB (q_1.wk (by decide)) ⟨rfl, (q_1.wk (by decide)), fun _ => (i3_x_0.wk (by decide))⟩ dX7_isSignOfSums_29
    · skip
      refine lv_iload_n hx hb dX7_isSignOfSums_12 rfl (lv_at hl 0 rfl) ?_
      refine lv_bipush (v := 42) hx hb dX7_isSignOfSums_13 (by decide) ?_
      refine lv_icmp_eq (tgt := 24) hx hb dX7_isSignOfSums_15 (by decide) (fun c5 => ?_) (fun c5 => ?_)
      · skip
        have i5_x_0 : iv_R 42 42 x_0 := ((i_x_0.cutLo (n := 42) (iv_eq_r c5 q_42).1).cutHi (n := 42) (iv_eq_r c5 q_42).2)
        refine lv_iconst (v := 1) hx hb dX7_isSignOfSums_24 (by decide) ?_
        refine lv_goto (tgt := 29) hx hb dX7_isSignOfSums_25 (by decide) ?_
        exact iv_zret X hr hlocks hB (q_1.wk (by decide)) ⟨rfl, (q_1.wk (by decide)), fun _ => (i5_x_0.wk (by decide))⟩ dX7_isSignOfSums_29
      · skip
        refine lv_iload_n hx hb dX7_isSignOfSums_18 rfl (lv_at hl 0 rfl) ?_
        refine lv_bipush (v := 47) hx hb dX7_isSignOfSums_19 (by decide) ?_
        refine lv_icmp_ne (tgt := 28) hx hb dX7_isSignOfSums_21 (by decide) (fun c7 => ?_) (fun c7 => ?_)
        · skip
          refine lv_iconst (v := 0) hx hb dX7_isSignOfSums_28 (by decide) ?_
          exact iv_zret X hr hlocks hB (q_0.wk (by decide)) ⟨rfl, (q_0.wk (by decide)), fun h => absurd (iv_z q_0) h⟩ dX7_isSignOfSums_29
        · skip
          have i7_x_0 : iv_R 47 47 x_0 := ((i_x_0.cutLo (n := 47) (iv_eq_r c7 q_47).1).cutHi (n := 47) (iv_eq_r c7 q_47).2)
          refine lv_iconst (v := 1) hx hb dX7_isSignOfSums_24 (by decide) ?_
          refine lv_goto (tgt := 29) hx hb dX7_isSignOfSums_25 (by decide) ?_
          exact iv_zret X hr hlocks hB (q_1.wk (by decide)) ⟨rfl, (q_1.wk (by decide)), fun _ => (i7_x_0.wk (by decide))⟩ dX7_isSignOfSums_29
theorem dX7_refuse_0 : decode cX7_refuse 0 = .ok (.aload_n 0, 1) := by decide +kernel
theorem dX7_refuse_1 : decode cX7_refuse 1 = .ok (.iload_n 1, 1) := by decide +kernel
theorem dX7_refuse_2 : decode cX7_refuse 2 = .ok (.putfield 41, 3) := by decide +kernel
theorem dX7_refuse_5 : decode cX7_refuse 5 = .ok (.aload_n 0, 1) := by decide +kernel
theorem dX7_refuse_6 : decode cX7_refuse 6 = .ok (.aload_n 0, 1) := by decide +kernel
theorem dX7_refuse_7 : decode cX7_refuse 7 = .ok (.getfield 12, 3) := by decide +kernel
theorem dX7_refuse_10 : decode cX7_refuse 10 = .ok (.getfield 95, 3) := by decide +kernel
theorem dX7_refuse_13 : decode cX7_refuse 13 = .ok (.aload_n 0, 1) := by decide +kernel
theorem dX7_refuse_14 : decode cX7_refuse 14 = .ok (.getfield 80, 3) := by decide +kernel
theorem dX7_refuse_17 : decode cX7_refuse 17 = .ok (.iaload, 1) := by decide +kernel
theorem dX7_refuse_18 : decode cX7_refuse 18 = .ok (.putfield 18, 3) := by decide +kernel
theorem dX7_refuse_21 : decode cX7_refuse 21 = .ok (.iconst 0, 1) := by decide +kernel
theorem dX7_refuse_22 : decode cX7_refuse 22 = .ok (.ireturn, 1) := by decide +kernel
set_option maxHeartbeats 4000000 in
set_option maxRecDepth 100000 in
theorem c_X7_refuse (l : Launch) (D : va_G) (tys : List (ClassId × FieldType)) (base : Nat) (G : iv_G) (h0 : Nat) (g_h0 : Nat → Int32) (r_h0 : Nat → Nat) (a_h0 : G h0 = some (7, g_h0, r_h0)) (n_g_h0 : iv_R 0 400 (g_h0 1)) (x_0 : Int32) (i_x_0 : iv_R 1 3 x_0) : Met l yX7_refuse (Cond.code yX7_refuse cX7_refuse 2 (some .boolean) :: iv_W0) ({ frames := 0, cells := 0, slots := 0, locals := 0 }) (iv_Pc iv_sh D classes tys base G [.ref h0, .int x_0]) (iv_Qi iv_sh D classes tys base (fun v G' => iv_Md [7] G G' ∧ iv_R 0 0 v)) 0 0 (iv_A base) := by
  refine iv_head (by decide) (Nat.le_of_ble_eq_true rfl) ?_
  intro p e s m args below meth c ls X hr hlocks hname hB hl
  have X := X
  have hx := X.1.1
  have hb := X.1.2.1
  have hM : iv_Md [7] G G := iv_Md.rf
  have hl : lv_has ls 2 [(0, .ref h0), (1, .int x_0)] := hl
  refine lv_aload_n hx hb dX7_refuse_0 rfl (lv_at hl 0 rfl) ?_
  refine lv_iload_n hx hb dX7_refuse_1 rfl (lv_at hl 1 rfl) ?_
  refine iv_puti X ft_X7 hB a_h0 sh_7 6 (by decide) rfl rfl k_fl_X7_41 rfl (i_x_0.wk (by decide)) rfl rfl dX7_refuse_2 (fun H locs hB => ?_)
  have hm := iv_Md.put (x := x_0) a_h0 (j := 6) (by decide) (by decide)
  have h9 := iv_up_eq (G := G) (a := h0) (k := (7, upd g_h0 6 x_0, r_h0))
  generalize iv_up G h0 _ = G1 at hB hm h9
  have hM := hM.stp hm (by decide)
  generalize hgn_g2 : upd g_h0 _ _ = g2 at h9
  have a_h0 := h9
  have e9_g2 : x_0 = g2 6 := by rw [← hgn_g2]; simp [upd]
  have n_g2 : iv_R 0 400 (g2 1) := by rw [← hgn_g2]; exact n_g_h0
  refine lv_aload_n hx hb dX7_refuse_5 rfl (lv_at hl 0 rfl) ?_
  refine lv_aload_n hx hb dX7_refuse_6 rfl (lv_at hl 0 rfl) ?_
  refine iv_getr X ft_X7 hB a_h0 sh_7 0 (by decide) rfl k_fl_X7_12 dX7_refuse_7 (fun b3 g_b3 r_b3 e_b3 a_b3 => ?_)
  refine iv_getr X ft_X10 hB a_b3 sh_10 1 (by decide) rfl k_fl_X7_95 dX7_refuse_10 (fun b4 g_b4 r_b4 e_b4 a_b4 => ?_)
  refine lv_aload_n hx hb dX7_refuse_13 rfl (lv_at hl 0 rfl) ?_
  refine iv_geti X ft_X7 hB a_h0 sh_7 1 (by decide) rfl k_fl_X7_80 dX7_refuse_14 (fun x5 e_x5 i_x5 => ?_)
  have i5_x5 : iv_R 0 400 x5 := by rw [e_x5]; exact n_g2
  refine iv_ald X hB a_b4 sh_43 (iv_in i5_x5 (by decide)) dX7_refuse_17 (fun x7 e_x7 i_x7 => ?_)
  refine iv_puti X ft_X7 hB a_h0 sh_7 7 (by decide) rfl rfl k_fl_X7_18 rfl i_x7 rfl rfl dX7_refuse_18 (fun H locs hB => ?_)
  have hm := iv_Md.put (x := x7) a_h0 (j := 7) (by decide) (by decide)
  have h9 := iv_up_eq (G := G1) (a := h0) (k := (7, upd g2 7 x7, r_h0))
  generalize iv_up G1 h0 _ = G8 at hB hm h9
  have hM := hM.stp hm (by decide)
  generalize hgn_g9 : upd g2 _ _ = g9 at h9
  have a_h0 := h9
  have e10 : x_0 = g9 6 := by rw [← hgn_g9]; exact e9_g2
  have e11 : x5 = g9 1 := by rw [← hgn_g9]; exact e_x5
  have e9_g9 : x7 = g9 7 := by rw [← hgn_g9]; simp [upd]
  have n_g9 : iv_R 0 400 (g9 1) := by rw [← hgn_g9]; exact n_g2
  refine lv_iconst (v := 0) hx hb dX7_refuse_21 (by decide) ?_
  exact iv_zret X hr hlocks hB (q_0.wk (by decide)) ⟨hM, q_0⟩ dX7_refuse_22
theorem dX7_readUnit_0 : decode cX7_readUnit 0 = .ok (.aload_n 0, 1) := by decide +kernel
theorem dX7_readUnit_1 : decode cX7_readUnit 1 = .ok (.getfield 53, 3) := by decide +kernel
theorem dX7_readUnit_4 : decode cX7_readUnit 4 = .ok (.sipush 138, 3) := by decide +kernel
theorem dX7_readUnit_7 : decode cX7_readUnit 7 = .ok (.sipush 142, 3) := by decide +kernel
theorem dX7_readUnit_10 : decode cX7_readUnit 10 = .ok (.invokestatic 101, 3) := by decide +kernel
theorem dX7_readUnit_13 : decode cX7_readUnit 13 = .ok (.istore_n 1, 1) := by decide +kernel
theorem dX7_readUnit_14 : decode cX7_readUnit 14 = .ok (.aload_n 0, 1) := by decide +kernel
theorem dX7_readUnit_15 : decode cX7_readUnit 15 = .ok (.getfield 60, 3) := by decide +kernel
theorem dX7_readUnit_18 : decode cX7_readUnit 18 = .ok (.ifCond .eq 19, 3) := by decide +kernel
theorem dX7_readUnit_21 : decode cX7_readUnit 21 = .ok (.aload_n 0, 1) := by decide +kernel
theorem dX7_readUnit_22 : decode cX7_readUnit 22 = .ok (.getfield 53, 3) := by decide +kernel
theorem dX7_readUnit_25 : decode cX7_readUnit 25 = .ok (.sipush 143, 3) := by decide +kernel
theorem dX7_readUnit_28 : decode cX7_readUnit 28 = .ok (.sipush 145, 3) := by decide +kernel
theorem dX7_readUnit_31 : decode cX7_readUnit 31 = .ok (.invokestatic 101, 3) := by decide +kernel
theorem dX7_readUnit_34 : decode cX7_readUnit 34 = .ok (.goto 16, 3) := by decide +kernel
theorem dX7_readUnit_37 : decode cX7_readUnit 37 = .ok (.aload_n 0, 1) := by decide +kernel
theorem dX7_readUnit_38 : decode cX7_readUnit 38 = .ok (.getfield 53, 3) := by decide +kernel
theorem dX7_readUnit_41 : decode cX7_readUnit 41 = .ok (.sipush 146, 3) := by decide +kernel
theorem dX7_readUnit_44 : decode cX7_readUnit 44 = .ok (.sipush 148, 3) := by decide +kernel
theorem dX7_readUnit_47 : decode cX7_readUnit 47 = .ok (.invokestatic 101, 3) := by decide +kernel
theorem dX7_readUnit_50 : decode cX7_readUnit 50 = .ok (.istore_n 2, 1) := by decide +kernel
theorem dX7_readUnit_51 : decode cX7_readUnit 51 = .ok (.aload_n 0, 1) := by decide +kernel
theorem dX7_readUnit_52 : decode cX7_readUnit 52 = .ok (.getfield 53, 3) := by decide +kernel
theorem dX7_readUnit_55 : decode cX7_readUnit 55 = .ok (.iconst 2, 1) := by decide +kernel
theorem dX7_readUnit_56 : decode cX7_readUnit 56 = .ok (.if_icmp .eq 17, 3) := by decide +kernel
theorem dX7_readUnit_59 : decode cX7_readUnit 59 = .ok (.iload_n 1, 1) := by decide +kernel
theorem dX7_readUnit_60 : decode cX7_readUnit 60 = .ok (.ifCond .ne 13, 3) := by decide +kernel
theorem dX7_readUnit_63 : decode cX7_readUnit 63 = .ok (.iload_n 2, 1) := by decide +kernel
theorem dX7_readUnit_64 : decode cX7_readUnit 64 = .ok (.ifCond .ne 9, 3) := by decide +kernel
theorem dX7_readUnit_67 : decode cX7_readUnit 67 = .ok (.aload_n 0, 1) := by decide +kernel
theorem dX7_readUnit_68 : decode cX7_readUnit 68 = .ok (.iconst 1, 1) := by decide +kernel
theorem dX7_readUnit_69 : decode cX7_readUnit 69 = .ok (.invokevirtual 98, 3) := by decide +kernel
theorem dX7_readUnit_72 : decode cX7_readUnit 72 = .ok (.ireturn, 1) := by decide +kernel
theorem dX7_readUnit_73 : decode cX7_readUnit 73 = .ok (.aload_n 0, 1) := by decide +kernel
theorem dX7_readUnit_74 : decode cX7_readUnit 74 = .ok (.aload_n 0, 1) := by decide +kernel
theorem dX7_readUnit_75 : decode cX7_readUnit 75 = .ok (.getfield 53, 3) := by decide +kernel
theorem dX7_readUnit_78 : decode cX7_readUnit 78 = .ok (.aload_n 0, 1) := by decide +kernel
theorem dX7_readUnit_79 : decode cX7_readUnit 79 = .ok (.getfield 92, 3) := by decide +kernel
theorem dX7_readUnit_82 : decode cX7_readUnit 82 = .ok (.invokevirtual 125, 3) := by decide +kernel
theorem dX7_readUnit_85 : decode cX7_readUnit 85 = .ok (.aload_n 0, 1) := by decide +kernel
theorem dX7_readUnit_86 : decode cX7_readUnit 86 = .ok (.invokevirtual 83, 3) := by decide +kernel
theorem dX7_readUnit_89 : decode cX7_readUnit 89 = .ok (.iconst 1, 1) := by decide +kernel
theorem dX7_readUnit_90 : decode cX7_readUnit 90 = .ok (.ireturn, 1) := by decide +kernel
set_option maxHeartbeats 4000000 in
set_option maxRecDepth 100000 in
theorem c_X7_readUnit (l : Launch) (D : va_G) (tys : List (ClassId × FieldType)) (base : Nat) (G : iv_G) (h0 : Nat) (g_h0 : Nat → Int32) (r_h0 : Nat → Nat) (a_h0 : G h0 = some (7, g_h0, r_h0)) (n_g_h0 : iv_R 0 400 (g_h0 1)) : Met l yX7_readUnit (Cond.code yX7_readUnit cX7_readUnit 3 (some .boolean) :: iv_W0) ({ frames := 1, cells := 0, slots := 0, locals := 22 }) (iv_Pc iv_sh D classes tys base G [.ref h0]) (iv_Qi iv_sh D classes tys base (fun v G' => iv_Md [7, 37, 38] G G' ∧ iv_R 0 1 v)) 0 0 (iv_A base) := by
  refine iv_head (by decide) (Nat.le_of_ble_eq_true rfl) ?_
  intro p e s m args below meth c ls X hr hlocks hname hB hl
  have X := X
  have hx := X.1.1
  have hb := X.1.2.1
  have hM : iv_Md [7, 37, 38] G G := iv_Md.rf
  have hl : lv_has ls 3 [(0, .ref h0)] := hl
  refine lv_aload_n hx hb dX7_readUnit_0 rfl (lv_at hl 0 rfl) ?_
  refine iv_geti X ft_X7 hB a_h0 sh_7 2 (by decide) rfl k_fl_X7_53 dX7_readUnit_1 (fun x1 e_x1 i_x1 => ?_)
  refine lv_sipush (v := 138) hx hb dX7_readUnit_4 (by decide) ?_
  refine lv_sipush (v := 142) hx hb dX7_readUnit_7 (by decide) ?_
  refine iv_cSNi X k_good k_mf_X11_isWithin k_st_X11_isWithin (k_mn_X7_101 X.2.2) hB (As := [.int x1, .int 138, .int 142]) (c_X11_isWithin l D tys base G x1 i_x1 138 (q_138.wk (by decide)) 142 (q_142.wk (by decide))) ⟨rfl, rfl⟩ ⟨Nat.le_of_ble_eq_true rfl, Nat.le_of_ble_eq_true rfl⟩ ⟨Nat.le_of_ble_eq_true rfl, Nat.le_of_ble_eq_true rfl⟩ rfl rfl hl.1 (Nat.le_of_ble_eq_true rfl) dX7_readUnit_10 (fun x2 G9 H locs hq hB => ?_)
  obtain ⟨rfl, i_x2, hp3⟩ := hq
  have k4 : ¬ x2 = 0 → iv_R 138 142 x1 := fun h => ⟨iv_max i_x1.1 (Int.le_trans q_138.1 (hp3.1 h).1) (by decide), iv_min i_x1.2 (Int.le_trans (hp3.1 h).2 q_142.2) (by decide)⟩
  refine lv_istore_n (lv' := [(1, .int x2), (0, .ref h0)]) hx hb dX7_readUnit_13 rfl hl (by decide) rfl (fun ls hl => ?_)
  refine lv_aload_n hx hb dX7_readUnit_14 rfl (lv_at hl 1 rfl) ?_
  refine iv_geti X ft_X7 hB a_h0 sh_7 4 (by decide) rfl k_fl_X7_60 dX7_readUnit_15 (fun x5 e_x5 i_x5 => ?_)
  refine lv_if_eq (tgt := 37) hx hb dX7_readUnit_18 (by decide) (fun c6 => ?_) (fun c6 => ?_)
  · skip
    have i6_x5 : iv_R 0 0 x5 := (i_x5.cutHi (n := 0) (iv_eq_r c6 q_0).2)
    refine lv_aload_n hx hb dX7_readUnit_37 rfl (lv_at hl 1 rfl) ?_
    refine iv_geti0 X ft_X7 hB a_h0 sh_7 2 (by decide) rfl k_fl_X7_53 dX7_readUnit_38 e_x1 ?_
    refine lv_sipush (v := 146) hx hb dX7_readUnit_41 (by decide) ?_
    refine lv_sipush (v := 148) hx hb dX7_readUnit_44 (by decide) ?_
    refine iv_cSNi X k_good k_mf_X11_isWithin k_st_X11_isWithin (k_mn_X7_101 X.2.2) hB (As := [.int x1, .int 146, .int 148]) (c_X11_isWithin l D tys base G x1 i_x1 146 (q_146.wk (by decide)) 148 (q_148.wk (by decide))) ⟨rfl, rfl⟩ ⟨Nat.le_of_ble_eq_true rfl, Nat.le_of_ble_eq_true rfl⟩ ⟨Nat.le_of_ble_eq_true rfl, Nat.le_of_ble_eq_true rfl⟩ rfl rfl hl.1 (Nat.le_of_ble_eq_true rfl) dX7_readUnit_47 (fun x8 G9 H locs hq hB => ?_)
    obtain ⟨rfl, i_x8, hp9⟩ := hq
    have k10 : ¬ x8 = 0 → iv_R 146 148 x1 := fun h => ⟨iv_max i_x1.1 (Int.le_trans q_146.1 (hp9.1 h).1) (by decide), iv_min i_x1.2 (Int.le_trans (hp9.1 h).2 q_148.2) (by decide)⟩
    refine lv_istore_n (lv' := [(2, .int x8), (1, .int x2), (0, .ref h0)]) hx hb dX7_readUnit_50 rfl hl (by decide) rfl (fun ls hl => ?_)
    refine lv_aload_n hx hb dX7_readUnit_51 rfl (lv_at hl 2 rfl) ?_
    refine iv_geti0 X ft_X7 hB a_h0 sh_7 2 (by decide) rfl k_fl_X7_53 dX7_readUnit_52 e_x1 ?_
    refine lv_iconst (v := 2) hx hb dX7_readUnit_55 (by decide) ?_
    refine lv_icmp_eq (tgt := 73) hx hb dX7_readUnit_56 (by decide) (fun c11 => ?_) (fun c11 => ?_)
    · skip
      have i11_x1 : iv_R 2 2 x1 := ((i_x1.cutLo (n := 2) (iv_eq_r c11 q_2).1).cutHi (n := 2) (iv_eq_r c11 q_2).2)
      refine lv_aload_n hx hb dX7_readUnit_73 rfl (lv_at hl 2 rfl) ?_
      refine lv_aload_n hx hb dX7_readUnit_74 rfl (lv_at hl 2 rfl) ?_
      refine iv_geti0 X ft_X7 hB a_h0 sh_7 2 (by decide) rfl k_fl_X7_53 dX7_readUnit_75 e_x1 ?_
      refine lv_aload_n hx hb dX7_readUnit_78 rfl (lv_at hl 2 rfl) ?_
      refine iv_geti X ft_X7 hB a_h0 sh_7 3 (by decide) rfl k_fl_X7_92 dX7_readUnit_79 (fun x13 e_x13 i_x13 => ?_)
      refine iv_cVv X k_good k_mf_X7_emit k_im_X7_emit k_sel_X7_emit k_ml_X7_125 ft_X7 hB a_h0 sh_7 (As := [.int x1, .int x13]) (c_X7_emit l D tys base G h0 g_h0 r_h0 a_h0 x1 (i11_x1.wk (by decide)) x13 i_x13) ⟨rfl, rfl⟩ ⟨Nat.le_of_ble_eq_true rfl, Nat.le_of_ble_eq_true rfl⟩ ⟨Nat.le_of_ble_eq_true rfl, Nat.le_of_ble_eq_true rfl⟩ rfl rfl hl.1 (Nat.le_of_ble_eq_true rfl) dX7_readUnit_82 (fun G9 H locs hq hB => ?_)
      have hm := hq
      obtain ⟨G14, hG9⟩ : ∃ g, g = G9 := ⟨_, rfl⟩
      rw [← hG9] at hm hB
      have hM := hM.stp hm (by decide)
      obtain ⟨g15, r16, a_h0, f_g15⟩ := hm.ex a_h0
      have n_g15 := iv_nxt hB a_h0 f_g15 n_g_h0
      refine lv_aload_n hx hb dX7_readUnit_85 rfl (lv_at hl 2 rfl) ?_
      refine iv_cVv X k_good k_mf_X7_step k_im_X7_step k_sel_X7_step k_ml_X7_83 ft_X7 hB a_h0 sh_7 (As := []) (c_X7_step l D tys base G14 h0 g15 r16 a_h0) ⟨rfl, rfl⟩ ⟨Nat.le_of_ble_eq_true rfl, Nat.le_of_ble_eq_true rfl⟩ ⟨Nat.le_of_ble_eq_true rfl, Nat.le_of_ble_eq_true rfl⟩ rfl rfl hl.1 (Nat.le_of_ble_eq_true rfl) dX7_readUnit_86 (fun G9 H locs hq hB => ?_)
      obtain ⟨hm, vg⟩ := hq
      obtain ⟨G17, hG9⟩ : ∃ g, g = G9 := ⟨_, rfl⟩
      rw [← hG9] at hm hB vg
      have hM := hM.stp hm (by decide)
      obtain ⟨g18, r19, a_h0, f_g18⟩ := hm.ex a_h0
      have n_g18 := iv_nxt hB a_h0 f_g18 n_g15
      have vg20 := vg _ _ a_h0
      refine lv_iconst (v := 1) hx hb dX7_readUnit_89 (by decide) ?_
      exact iv_zret X hr hlocks hB (q_1.wk (by decide)) ⟨hM, (q_1.wk (by decide))⟩ dX7_readUnit_90
    · skip
      refine lv_iload_n hx hb dX7_readUnit_59 rfl (lv_at hl 1 rfl) ?_
      refine lv_if_ne (tgt := 73) hx hb dX7_readUnit_60 (by decide) (fun c21 => ?_) (fun c21 => ?_)
      · skip
        have i21_x2 : iv_R 1 1 x2 := iv_ne_lo c21 i_x2 q_0 (by decide)
        have i22_x1 : iv_R 138 142 x1 := ((i_x1.cutLo (n := 138) (k4 c21).1).cutHi (n := 142) (k4 c21).2)
        refine lv_aload_n hx hb dX7_readUnit_73 rfl (lv_at hl 2 rfl) ?_
        refine lv_aload_n hx hb dX7_readUnit_74 rfl (lv_at hl 2 rfl) ?_
        refine iv_geti0 X ft_X7 hB a_h0 sh_7 2 (by decide) rfl k_fl_X7_53 dX7_readUnit_75 e_x1 ?_
        refine lv_aload_n hx hb dX7_readUnit_78 rfl (lv_at hl 2 rfl) ?_
        refine iv_geti X ft_X7 hB a_h0 sh_7 3 (by decide) rfl k_fl_X7_92 dX7_readUnit_79 (fun x24 e_x24 i_x24 => ?_)
        refine iv_cVv X k_good k_mf_X7_emit k_im_X7_emit k_sel_X7_emit k_ml_X7_125 ft_X7 hB a_h0 sh_7 (As := [.int x1, .int x24]) (c_X7_emit l D tys base G h0 g_h0 r_h0 a_h0 x1 (i22_x1.wk (by decide)) x24 i_x24) ⟨rfl, rfl⟩ ⟨Nat.le_of_ble_eq_true rfl, Nat.le_of_ble_eq_true rfl⟩ ⟨Nat.le_of_ble_eq_true rfl, Nat.le_of_ble_eq_true rfl⟩ rfl rfl hl.1 (Nat.le_of_ble_eq_true rfl) dX7_readUnit_82 (fun G9 H locs hq hB => ?_)
        have hm := hq
        obtain ⟨G25, hG9⟩ : ∃ g, g = G9 := ⟨_, rfl⟩
        rw [← hG9] at hm hB
        have hM := hM.stp hm (by decide)
        obtain ⟨g26, r27, a_h0, f_g26⟩ := hm.ex a_h0
        have n_g26 := iv_nxt hB a_h0 f_g26 n_g_h0
        refine lv_aload_n hx hb dX7_readUnit_85 rfl (lv_at hl 2 rfl) ?_
        refine iv_cVv X k_good k_mf_X7_step k_im_X7_step k_sel_X7_step k_ml_X7_83 ft_X7 hB a_h0 sh_7 (As := []) (c_X7_step l D tys base G25 h0 g26 r27 a_h0) ⟨rfl, rfl⟩ ⟨Nat.le_of_ble_eq_true rfl, Nat.le_of_ble_eq_true rfl⟩ ⟨Nat.le_of_ble_eq_true rfl, Nat.le_of_ble_eq_true rfl⟩ rfl rfl hl.1 (Nat.le_of_ble_eq_true rfl) dX7_readUnit_86 (fun G9 H locs hq hB => ?_)
        obtain ⟨hm, vg⟩ := hq
        obtain ⟨G28, hG9⟩ : ∃ g, g = G9 := ⟨_, rfl⟩
        rw [← hG9] at hm hB vg
        have hM := hM.stp hm (by decide)
        obtain ⟨g29, r30, a_h0, f_g29⟩ := hm.ex a_h0
        have n_g29 := iv_nxt hB a_h0 f_g29 n_g26
        have vg31 := vg _ _ a_h0
        refine lv_iconst (v := 1) hx hb dX7_readUnit_89 (by decide) ?_
        exact iv_zret X hr hlocks hB (q_1.wk (by decide)) ⟨hM, (q_1.wk (by decide))⟩ dX7_readUnit_90
      · skip
        have i31_x2 : iv_R 0 0 x2 := (i_x2.cutHi (n := 0) (iv_eq_r c21 q_0).2)
        refine lv_iload_n hx hb dX7_readUnit_63 rfl (lv_at hl 0 rfl) ?_
        refine lv_if_ne (tgt := 73) hx hb dX7_readUnit_64 (by decide) (fun c33 => ?_) (fun c33 => ?_)
        · skip
          have i33_x8 : iv_R 1 1 x8 := iv_ne_lo c33 i_x8 q_0 (by decide)
          have i34_x1 : iv_R 146 148 x1 := ((i_x1.cutLo (n := 146) (k10 c33).1).cutHi (n := 148) (k10 c33).2)
          refine lv_aload_n hx hb dX7_readUnit_73 rfl (lv_at hl 2 rfl) ?_
          refine lv_aload_n hx hb dX7_readUnit_74 rfl (lv_at hl 2 rfl) ?_
          refine iv_geti0 X ft_X7 hB a_h0 sh_7 2 (by decide) rfl k_fl_X7_53 dX7_readUnit_75 e_x1 ?_
          refine lv_aload_n hx hb dX7_readUnit_78 rfl (lv_at hl 2 rfl) ?_
          refine iv_geti X ft_X7 hB a_h0 sh_7 3 (by decide) rfl k_fl_X7_92 dX7_readUnit_79 (fun x36 e_x36 i_x36 => ?_)
          refine iv_cVv X k_good k_mf_X7_emit k_im_X7_emit k_sel_X7_emit k_ml_X7_125 ft_X7 hB a_h0 sh_7 (As := [.int x1, .int x36]) (c_X7_emit l D tys base G h0 g_h0 r_h0 a_h0 x1 (i34_x1.wk (by decide)) x36 i_x36) ⟨rfl, rfl⟩ ⟨Nat.le_of_ble_eq_true rfl, Nat.le_of_ble_eq_true rfl⟩ ⟨Nat.le_of_ble_eq_true rfl, Nat.le_of_ble_eq_true rfl⟩ rfl rfl hl.1 (Nat.le_of_ble_eq_true rfl) dX7_readUnit_82 (fun G9 H locs hq hB => ?_)
          have hm := hq
          obtain ⟨G37, hG9⟩ : ∃ g, g = G9 := ⟨_, rfl⟩
          rw [← hG9] at hm hB
          have hM := hM.stp hm (by decide)
          obtain ⟨g38, r39, a_h0, f_g38⟩ := hm.ex a_h0
          have n_g38 := iv_nxt hB a_h0 f_g38 n_g_h0
          refine lv_aload_n hx hb dX7_readUnit_85 rfl (lv_at hl 2 rfl) ?_
          refine iv_cVv X k_good k_mf_X7_step k_im_X7_step k_sel_X7_step k_ml_X7_83 ft_X7 hB a_h0 sh_7 (As := []) (c_X7_step l D tys base G37 h0 g38 r39 a_h0) ⟨rfl, rfl⟩ ⟨Nat.le_of_ble_eq_true rfl, Nat.le_of_ble_eq_true rfl⟩ ⟨Nat.le_of_ble_eq_true rfl, Nat.le_of_ble_eq_true rfl⟩ rfl rfl hl.1 (Nat.le_of_ble_eq_true rfl) dX7_readUnit_86 (fun G9 H locs hq hB => ?_)
          obtain ⟨hm, vg⟩ := hq
          obtain ⟨G40, hG9⟩ : ∃ g, g = G9 := ⟨_, rfl⟩
          rw [← hG9] at hm hB vg
          have hM := hM.stp hm (by decide)
          obtain ⟨g41, r42, a_h0, f_g41⟩ := hm.ex a_h0
          have n_g41 := iv_nxt hB a_h0 f_g41 n_g38
          have vg43 := vg _ _ a_h0
          refine lv_iconst (v := 1) hx hb dX7_readUnit_89 (by decide) ?_
          exact iv_zret X hr hlocks hB (q_1.wk (by decide)) ⟨hM, (q_1.wk (by decide))⟩ dX7_readUnit_90
        · skip
          have i43_x8 : iv_R 0 0 x8 := (i_x8.cutHi (n := 0) (iv_eq_r c33 q_0).2)
          refine lv_aload_n hx hb dX7_readUnit_67 rfl (lv_at hl 2 rfl) ?_
          refine lv_iconst (v := 1) hx hb dX7_readUnit_68 (by decide) ?_
          refine iv_cVi X k_good k_mf_X7_refuse k_im_X7_refuse k_sel_X7_refuse k_ml_X7_98 ft_X7 hB a_h0 sh_7 (As := [.int 1]) (c_X7_refuse l D tys base G h0 g_h0 r_h0 a_h0 n_g_h0 1 (q_1.wk (by decide))) ⟨rfl, rfl⟩ ⟨Nat.le_of_ble_eq_true rfl, Nat.le_of_ble_eq_true rfl⟩ ⟨Nat.le_of_ble_eq_true rfl, Nat.le_of_ble_eq_true rfl⟩ rfl rfl hl.1 (Nat.le_of_ble_eq_true rfl) dX7_readUnit_69 (fun x45 G9 H locs hq hB => ?_)
          obtain ⟨hm, i_x45⟩ := hq
          obtain ⟨G46, hG9⟩ : ∃ g, g = G9 := ⟨_, rfl⟩
          rw [← hG9] at hm hB
          have hM := hM.stp hm (by decide)
          obtain ⟨g47, r48, a_h0, f_g47⟩ := hm.ex a_h0
          have n_g47 := iv_nxt hB a_h0 f_g47 n_g_h0
          exact iv_zret X hr hlocks hB (i_x45.wk (by decide)) ⟨hM, (i_x45.wk (by decide))⟩ dX7_readUnit_72
  · skip
    have i48_x5 : iv_R 1 1 x5 := iv_ne_lo c6 i_x5 q_0 (by decide)
    refine lv_aload_n hx hb dX7_readUnit_21 rfl (lv_at hl 1 rfl) ?_
    refine iv_geti0 X ft_X7 hB a_h0 sh_7 2 (by decide) rfl k_fl_X7_53 dX7_readUnit_22 e_x1 ?_
    refine lv_sipush (v := 143) hx hb dX7_readUnit_25 (by decide) ?_
    refine lv_sipush (v := 145) hx hb dX7_readUnit_28 (by decide) ?_
    refine iv_cSNi X k_good k_mf_X11_isWithin k_st_X11_isWithin (k_mn_X7_101 X.2.2) hB (As := [.int x1, .int 143, .int 145]) (c_X11_isWithin l D tys base G x1 i_x1 143 (q_143.wk (by decide)) 145 (q_145.wk (by decide))) ⟨rfl, rfl⟩ ⟨Nat.le_of_ble_eq_true rfl, Nat.le_of_ble_eq_true rfl⟩ ⟨Nat.le_of_ble_eq_true rfl, Nat.le_of_ble_eq_true rfl⟩ rfl rfl hl.1 (Nat.le_of_ble_eq_true rfl) dX7_readUnit_31 (fun x50 G9 H locs hq hB => ?_)
    obtain ⟨rfl, i_x50, hp51⟩ := hq
    have k52 : ¬ x50 = 0 → iv_R 143 145 x1 := fun h => ⟨iv_max i_x1.1 (Int.le_trans q_143.1 (hp51.1 h).1) (by decide), iv_min i_x1.2 (Int.le_trans (hp51.1 h).2 q_145.2) (by decide)⟩
    refine lv_goto (tgt := 50) hx hb dX7_readUnit_34 (by decide) ?_
    refine lv_istore_n (lv' := [(2, .int x50), (1, .int x2), (0, .ref h0)]) hx hb dX7_readUnit_50 rfl hl (by decide) rfl (fun ls hl => ?_)
    refine lv_aload_n hx hb dX7_readUnit_51 rfl (lv_at hl 2 rfl) ?_
    refine iv_geti0 X ft_X7 hB a_h0 sh_7 2 (by decide) rfl k_fl_X7_53 dX7_readUnit_52 e_x1 ?_
    refine lv_iconst (v := 2) hx hb dX7_readUnit_55 (by decide) ?_
    refine lv_icmp_eq (tgt := 73) hx hb dX7_readUnit_56 (by decide) (fun c53 => ?_) (fun c53 => ?_)
    · skip
      have i53_x1 : iv_R 2 2 x1 := ((i_x1.cutLo (n := 2) (iv_eq_r c53 q_2).1).cutHi (n := 2) (iv_eq_r c53 q_2).2)
      refine lv_aload_n hx hb dX7_readUnit_73 rfl (lv_at hl 2 rfl) ?_
      refine lv_aload_n hx hb dX7_readUnit_74 rfl (lv_at hl 2 rfl) ?_
      refine iv_geti0 X ft_X7 hB a_h0 sh_7 2 (by decide) rfl k_fl_X7_53 dX7_readUnit_75 e_x1 ?_
      refine lv_aload_n hx hb dX7_readUnit_78 rfl (lv_at hl 2 rfl) ?_
      refine iv_geti X ft_X7 hB a_h0 sh_7 3 (by decide) rfl k_fl_X7_92 dX7_readUnit_79 (fun x55 e_x55 i_x55 => ?_)
      refine iv_cVv X k_good k_mf_X7_emit k_im_X7_emit k_sel_X7_emit k_ml_X7_125 ft_X7 hB a_h0 sh_7 (As := [.int x1, .int x55]) (c_X7_emit l D tys base G h0 g_h0 r_h0 a_h0 x1 (i53_x1.wk (by decide)) x55 i_x55) ⟨rfl, rfl⟩ ⟨Nat.le_of_ble_eq_true rfl, Nat.le_of_ble_eq_true rfl⟩ ⟨Nat.le_of_ble_eq_true rfl, Nat.le_of_ble_eq_true rfl⟩ rfl rfl hl.1 (Nat.le_of_ble_eq_true rfl) dX7_readUnit_82 (fun G9 H locs hq hB => ?_)
      have hm := hq
      obtain ⟨G56, hG9⟩ : ∃ g, g = G9 := ⟨_, rfl⟩
      rw [← hG9] at hm hB
      have hM := hM.stp hm (by decide)
      obtain ⟨g57, r58, a_h0, f_g57⟩ := hm.ex a_h0
      have n_g57 := iv_nxt hB a_h0 f_g57 n_g_h0
      refine lv_aload_n hx hb dX7_readUnit_85 rfl (lv_at hl 2 rfl) ?_
      refine iv_cVv X k_good k_mf_X7_step k_im_X7_step k_sel_X7_step k_ml_X7_83 ft_X7 hB a_h0 sh_7 (As := []) (c_X7_step l D tys base G56 h0 g57 r58 a_h0) ⟨rfl, rfl⟩ ⟨Nat.le_of_ble_eq_true rfl, Nat.le_of_ble_eq_true rfl⟩ ⟨Nat.le_of_ble_eq_true rfl, Nat.le_of_ble_eq_true rfl⟩ rfl rfl hl.1 (Nat.le_of_ble_eq_true rfl) dX7_readUnit_86 (fun G9 H locs hq hB => ?_)
      obtain ⟨hm, vg⟩ := hq
      obtain ⟨G59, hG9⟩ : ∃ g, g = G9 := ⟨_, rfl⟩
      rw [← hG9] at hm hB vg
      have hM := hM.stp hm (by decide)
      obtain ⟨g60, r61, a_h0, f_g60⟩ := hm.ex a_h0
      have n_g60 := iv_nxt hB a_h0 f_g60 n_g57
      have vg62 := vg _ _ a_h0
      refine lv_iconst (v := 1) hx hb dX7_readUnit_89 (by decide) ?_
      exact iv_zret X hr hlocks hB (q_1.wk (by decide)) ⟨hM, (q_1.wk (by decide))⟩ dX7_readUnit_90
    · skip
      refine lv_iload_n hx hb dX7_readUnit_59 rfl (lv_at hl 1 rfl) ?_
      refine lv_if_ne (tgt := 73) hx hb dX7_readUnit_60 (by decide) (fun c63 => ?_) (fun c63 => ?_)
      · skip
        have i63_x2 : iv_R 1 1 x2 := iv_ne_lo c63 i_x2 q_0 (by decide)
        have i64_x1 : iv_R 138 142 x1 := ((i_x1.cutLo (n := 138) (k4 c63).1).cutHi (n := 142) (k4 c63).2)
        refine lv_aload_n hx hb dX7_readUnit_73 rfl (lv_at hl 2 rfl) ?_
        refine lv_aload_n hx hb dX7_readUnit_74 rfl (lv_at hl 2 rfl) ?_
        refine iv_geti0 X ft_X7 hB a_h0 sh_7 2 (by decide) rfl k_fl_X7_53 dX7_readUnit_75 e_x1 ?_
        refine lv_aload_n hx hb dX7_readUnit_78 rfl (lv_at hl 2 rfl) ?_
        refine iv_geti X ft_X7 hB a_h0 sh_7 3 (by decide) rfl k_fl_X7_92 dX7_readUnit_79 (fun x66 e_x66 i_x66 => ?_)
        refine iv_cVv X k_good k_mf_X7_emit k_im_X7_emit k_sel_X7_emit k_ml_X7_125 ft_X7 hB a_h0 sh_7 (As := [.int x1, .int x66]) (c_X7_emit l D tys base G h0 g_h0 r_h0 a_h0 x1 (i64_x1.wk (by decide)) x66 i_x66) ⟨rfl, rfl⟩ ⟨Nat.le_of_ble_eq_true rfl, Nat.le_of_ble_eq_true rfl⟩ ⟨Nat.le_of_ble_eq_true rfl, Nat.le_of_ble_eq_true rfl⟩ rfl rfl hl.1 (Nat.le_of_ble_eq_true rfl) dX7_readUnit_82 (fun G9 H locs hq hB => ?_)
        have hm := hq
        obtain ⟨G67, hG9⟩ : ∃ g, g = G9 := ⟨_, rfl⟩
        rw [← hG9] at hm hB
        have hM := hM.stp hm (by decide)
        obtain ⟨g68, r69, a_h0, f_g68⟩ := hm.ex a_h0
        have n_g68 := iv_nxt hB a_h0 f_g68 n_g_h0
        refine lv_aload_n hx hb dX7_readUnit_85 rfl (lv_at hl 2 rfl) ?_
        refine iv_cVv X k_good k_mf_X7_step k_im_X7_step k_sel_X7_step k_ml_X7_83 ft_X7 hB a_h0 sh_7 (As := []) (c_X7_step l D tys base G67 h0 g68 r69 a_h0) ⟨rfl, rfl⟩ ⟨Nat.le_of_ble_eq_true rfl, Nat.le_of_ble_eq_true rfl⟩ ⟨Nat.le_of_ble_eq_true rfl, Nat.le_of_ble_eq_true rfl⟩ rfl rfl hl.1 (Nat.le_of_ble_eq_true rfl) dX7_readUnit_86 (fun G9 H locs hq hB => ?_)
        obtain ⟨hm, vg⟩ := hq
        obtain ⟨G70, hG9⟩ : ∃ g, g = G9 := ⟨_, rfl⟩
        rw [← hG9] at hm hB vg
        have hM := hM.stp hm (by decide)
        obtain ⟨g71, r72, a_h0, f_g71⟩ := hm.ex a_h0
        have n_g71 := iv_nxt hB a_h0 f_g71 n_g68
        have vg73 := vg _ _ a_h0
        refine lv_iconst (v := 1) hx hb dX7_readUnit_89 (by decide) ?_
        exact iv_zret X hr hlocks hB (q_1.wk (by decide)) ⟨hM, (q_1.wk (by decide))⟩ dX7_readUnit_90
      · skip
        have i73_x2 : iv_R 0 0 x2 := (i_x2.cutHi (n := 0) (iv_eq_r c63 q_0).2)
        refine lv_iload_n hx hb dX7_readUnit_63 rfl (lv_at hl 0 rfl) ?_
        refine lv_if_ne (tgt := 73) hx hb dX7_readUnit_64 (by decide) (fun c75 => ?_) (fun c75 => ?_)
        · skip
          have i75_x50 : iv_R 1 1 x50 := iv_ne_lo c75 i_x50 q_0 (by decide)
          have i76_x1 : iv_R 143 145 x1 := ((i_x1.cutLo (n := 143) (k52 c75).1).cutHi (n := 145) (k52 c75).2)
          refine lv_aload_n hx hb dX7_readUnit_73 rfl (lv_at hl 2 rfl) ?_
          refine lv_aload_n hx hb dX7_readUnit_74 rfl (lv_at hl 2 rfl) ?_
          refine iv_geti0 X ft_X7 hB a_h0 sh_7 2 (by decide) rfl k_fl_X7_53 dX7_readUnit_75 e_x1 ?_
          refine lv_aload_n hx hb dX7_readUnit_78 rfl (lv_at hl 2 rfl) ?_
          refine iv_geti X ft_X7 hB a_h0 sh_7 3 (by decide) rfl k_fl_X7_92 dX7_readUnit_79 (fun x78 e_x78 i_x78 => ?_)
          refine iv_cVv X k_good k_mf_X7_emit k_im_X7_emit k_sel_X7_emit k_ml_X7_125 ft_X7 hB a_h0 sh_7 (As := [.int x1, .int x78]) (c_X7_emit l D tys base G h0 g_h0 r_h0 a_h0 x1 (i76_x1.wk (by decide)) x78 i_x78) ⟨rfl, rfl⟩ ⟨Nat.le_of_ble_eq_true rfl, Nat.le_of_ble_eq_true rfl⟩ ⟨Nat.le_of_ble_eq_true rfl, Nat.le_of_ble_eq_true rfl⟩ rfl rfl hl.1 (Nat.le_of_ble_eq_true rfl) dX7_readUnit_82 (fun G9 H locs hq hB => ?_)
          have hm := hq
          obtain ⟨G79, hG9⟩ : ∃ g, g = G9 := ⟨_, rfl⟩
          rw [← hG9] at hm hB
          have hM := hM.stp hm (by decide)
          obtain ⟨g80, r81, a_h0, f_g80⟩ := hm.ex a_h0
          have n_g80 := iv_nxt hB a_h0 f_g80 n_g_h0
          refine lv_aload_n hx hb dX7_readUnit_85 rfl (lv_at hl 2 rfl) ?_
          refine iv_cVv X k_good k_mf_X7_step k_im_X7_step k_sel_X7_step k_ml_X7_83 ft_X7 hB a_h0 sh_7 (As := []) (c_X7_step l D tys base G79 h0 g80 r81 a_h0) ⟨rfl, rfl⟩ ⟨Nat.le_of_ble_eq_true rfl, Nat.le_of_ble_eq_true rfl⟩ ⟨Nat.le_of_ble_eq_true rfl, Nat.le_of_ble_eq_true rfl⟩ rfl rfl hl.1 (Nat.le_of_ble_eq_true rfl) dX7_readUnit_86 (fun G9 H locs hq hB => ?_)
          obtain ⟨hm, vg⟩ := hq
          obtain ⟨G82, hG9⟩ : ∃ g, g = G9 := ⟨_, rfl⟩
          rw [← hG9] at hm hB vg
          have hM := hM.stp hm (by decide)
          obtain ⟨g83, r84, a_h0, f_g83⟩ := hm.ex a_h0
          have n_g83 := iv_nxt hB a_h0 f_g83 n_g80
          have vg85 := vg _ _ a_h0
          refine lv_iconst (v := 1) hx hb dX7_readUnit_89 (by decide) ?_
          exact iv_zret X hr hlocks hB (q_1.wk (by decide)) ⟨hM, (q_1.wk (by decide))⟩ dX7_readUnit_90
        · skip
          have i85_x50 : iv_R 0 0 x50 := (i_x50.cutHi (n := 0) (iv_eq_r c75 q_0).2)
          refine lv_aload_n hx hb dX7_readUnit_67 rfl (lv_at hl 2 rfl) ?_
          refine lv_iconst (v := 1) hx hb dX7_readUnit_68 (by decide) ?_
          refine iv_cVi X k_good k_mf_X7_refuse k_im_X7_refuse k_sel_X7_refuse k_ml_X7_98 ft_X7 hB a_h0 sh_7 (As := [.int 1]) (c_X7_refuse l D tys base G h0 g_h0 r_h0 a_h0 n_g_h0 1 (q_1.wk (by decide))) ⟨rfl, rfl⟩ ⟨Nat.le_of_ble_eq_true rfl, Nat.le_of_ble_eq_true rfl⟩ ⟨Nat.le_of_ble_eq_true rfl, Nat.le_of_ble_eq_true rfl⟩ rfl rfl hl.1 (Nat.le_of_ble_eq_true rfl) dX7_readUnit_69 (fun x87 G9 H locs hq hB => ?_)
          obtain ⟨hm, i_x87⟩ := hq
          obtain ⟨G88, hG9⟩ : ∃ g, g = G9 := ⟨_, rfl⟩
          rw [← hG9] at hm hB
          have hM := hM.stp hm (by decide)
          obtain ⟨g89, r90, a_h0, f_g89⟩ := hm.ex a_h0
          have n_g89 := iv_nxt hB a_h0 f_g89 n_g_h0
          exact iv_zret X hr hlocks hB (i_x87.wk (by decide)) ⟨hM, (i_x87.wk (by decide))⟩ dX7_readUnit_72
theorem dX7_takesNumber_0 : decode cX7_takesNumber 0 = .ok (.aload_n 0, 1) := by decide +kernel
theorem dX7_takesNumber_1 : decode cX7_takesNumber 1 = .ok (.getfield 53, 3) := by decide +kernel
theorem dX7_takesNumber_4 : decode cX7_takesNumber 4 = .ok (.iconst 2, 1) := by decide +kernel
theorem dX7_takesNumber_5 : decode cX7_takesNumber 5 = .ok (.if_icmp .eq 9, 3) := by decide +kernel
theorem dX7_takesNumber_8 : decode cX7_takesNumber 8 = .ok (.aload_n 0, 1) := by decide +kernel
theorem dX7_takesNumber_9 : decode cX7_takesNumber 9 = .ok (.iconst 1, 1) := by decide +kernel
theorem dX7_takesNumber_10 : decode cX7_takesNumber 10 = .ok (.invokevirtual 98, 3) := by decide +kernel
theorem dX7_takesNumber_13 : decode cX7_takesNumber 13 = .ok (.ireturn, 1) := by decide +kernel
theorem dX7_takesNumber_14 : decode cX7_takesNumber 14 = .ok (.aload_n 0, 1) := by decide +kernel
theorem dX7_takesNumber_15 : decode cX7_takesNumber 15 = .ok (.getfield 92, 3) := by decide +kernel
theorem dX7_takesNumber_18 : decode cX7_takesNumber 18 = .ok (.iload_n 1, 1) := by decide +kernel
theorem dX7_takesNumber_19 : decode cX7_takesNumber 19 = .ok (.iload_n 2, 1) := by decide +kernel
theorem dX7_takesNumber_20 : decode cX7_takesNumber 20 = .ok (.invokestatic 101, 3) := by decide +kernel
theorem dX7_takesNumber_23 : decode cX7_takesNumber 23 = .ok (.ifCond .ne 9, 3) := by decide +kernel
theorem dX7_takesNumber_26 : decode cX7_takesNumber 26 = .ok (.aload_n 0, 1) := by decide +kernel
theorem dX7_takesNumber_27 : decode cX7_takesNumber 27 = .ok (.iconst 2, 1) := by decide +kernel
theorem dX7_takesNumber_28 : decode cX7_takesNumber 28 = .ok (.invokevirtual 98, 3) := by decide +kernel
theorem dX7_takesNumber_31 : decode cX7_takesNumber 31 = .ok (.ireturn, 1) := by decide +kernel
theorem dX7_takesNumber_32 : decode cX7_takesNumber 32 = .ok (.aload_n 0, 1) := by decide +kernel
theorem dX7_takesNumber_33 : decode cX7_takesNumber 33 = .ok (.invokevirtual 83, 3) := by decide +kernel
theorem dX7_takesNumber_36 : decode cX7_takesNumber 36 = .ok (.iconst 1, 1) := by decide +kernel
theorem dX7_takesNumber_37 : decode cX7_takesNumber 37 = .ok (.ireturn, 1) := by decide +kernel
set_option maxHeartbeats 4000000 in
set_option maxRecDepth 100000 in
theorem c_X7_takesNumber (l : Launch) (D : va_G) (tys : List (ClassId × FieldType)) (base : Nat) (G : iv_G) (h0 : Nat) (g_h0 : Nat → Int32) (r_h0 : Nat → Nat) (a_h0 : G h0 = some (7, g_h0, r_h0)) (n_g_h0 : iv_R 0 400 (g_h0 1)) (x_0 : Int32) (i_x_0 : iv_R 0 1 x_0) (x_1 : Int32) (i_x_1 : iv_R (-1) 9999 x_1) : Met l yX7_takesNumber (Cond.code yX7_takesNumber cX7_takesNumber 3 (some .boolean) :: iv_W0) ({ frames := 1, cells := 0, slots := 0, locals := 22 }) (iv_Pc iv_sh D classes tys base G [.ref h0, .int x_0, .int x_1]) (iv_Qi iv_sh D classes tys base (fun v G' => iv_Md [7] G G' ∧ iv_R 0 1 v)) 0 0 (iv_A base) := by
  refine iv_head (by decide) (Nat.le_of_ble_eq_true rfl) ?_
  intro p e s m args below meth c ls X hr hlocks hname hB hl
  have X := X
  have hx := X.1.1
  have hb := X.1.2.1
  have hM : iv_Md [7] G G := iv_Md.rf
  have hl : lv_has ls 3 [(0, .ref h0), (1, .int x_0), (2, .int x_1)] := hl
  refine lv_aload_n hx hb dX7_takesNumber_0 rfl (lv_at hl 0 rfl) ?_
  refine iv_geti X ft_X7 hB a_h0 sh_7 2 (by decide) rfl k_fl_X7_53 dX7_takesNumber_1 (fun x1 e_x1 i_x1 => ?_)
  refine lv_iconst (v := 2) hx hb dX7_takesNumber_4 (by decide) ?_
  refine lv_icmp_eq (tgt := 14) hx hb dX7_takesNumber_5 (by decide) (fun c2 => ?_) (fun c2 => ?_)
  · skip
    have i2_x1 : iv_R 2 2 x1 := ((i_x1.cutLo (n := 2) (iv_eq_r c2 q_2).1).cutHi (n := 2) (iv_eq_r c2 q_2).2)
    refine lv_aload_n hx hb dX7_takesNumber_14 rfl (lv_at hl 0 rfl) ?_
    refine iv_geti X ft_X7 hB a_h0 sh_7 3 (by decide) rfl k_fl_X7_92 dX7_takesNumber_15 (fun x4 e_x4 i_x4 => ?_)
    refine lv_iload_n hx hb dX7_takesNumber_18 rfl (lv_at hl 1 rfl) ?_
    refine lv_iload_n hx hb dX7_takesNumber_19 rfl (lv_at hl 2 rfl) ?_
    refine iv_cSNi X k_good k_mf_X11_isWithin k_st_X11_isWithin (k_mn_X7_101 X.2.2) hB (As := [.int x4, .int x_0, .int x_1]) (c_X11_isWithin l D tys base G x4 i_x4 x_0 (i_x_0.wk (by decide)) x_1 (i_x_1.wk (by decide))) ⟨rfl, rfl⟩ ⟨Nat.le_of_ble_eq_true rfl, Nat.le_of_ble_eq_true rfl⟩ ⟨Nat.le_of_ble_eq_true rfl, Nat.le_of_ble_eq_true rfl⟩ rfl rfl hl.1 (Nat.le_of_ble_eq_true rfl) dX7_takesNumber_20 (fun x5 G9 H locs hq hB => ?_)
    obtain ⟨rfl, i_x5, hp6⟩ := hq
    have k7 : ¬ x5 = 0 → iv_R 0 9999 x4 := fun h => ⟨iv_max i_x4.1 (Int.le_trans i_x_0.1 (hp6.1 h).1) (by decide), iv_min i_x4.2 (Int.le_trans (hp6.1 h).2 i_x_1.2) (by decide)⟩
    refine lv_if_ne (tgt := 32) hx hb dX7_takesNumber_23 (by decide) (fun c8 => ?_) (fun c8 => ?_)
    · skip
      have i8_x5 : iv_R 1 1 x5 := iv_ne_lo c8 i_x5 q_0 (by decide)
      have i9_x4 : iv_R 0 9999 x4 := ((i_x4.cutLo (n := 0) (k7 c8).1).cutHi (n := 9999) (k7 c8).2)
      refine lv_aload_n hx hb dX7_takesNumber_32 rfl (lv_at hl 0 rfl) ?_
      refine iv_cVv X k_good k_mf_X7_step k_im_X7_step k_sel_X7_step k_ml_X7_83 ft_X7 hB a_h0 sh_7 (As := []) (c_X7_step l D tys base G h0 g_h0 r_h0 a_h0) ⟨rfl, rfl⟩ ⟨Nat.le_of_ble_eq_true rfl, Nat.le_of_ble_eq_true rfl⟩ ⟨Nat.le_of_ble_eq_true rfl, Nat.le_of_ble_eq_true rfl⟩ rfl rfl hl.1 (Nat.le_of_ble_eq_true rfl) dX7_takesNumber_33 (fun G9 H locs hq hB => ?_)
      obtain ⟨hm, vg⟩ := hq
      obtain ⟨G11, hG9⟩ : ∃ g, g = G9 := ⟨_, rfl⟩
      rw [← hG9] at hm hB vg
      have hM := hM.stp hm (by decide)
      obtain ⟨g12, r13, a_h0, f_g12⟩ := hm.ex a_h0
      have n_g12 := iv_nxt hB a_h0 f_g12 n_g_h0
      have vg14 := vg _ _ a_h0
      refine lv_iconst (v := 1) hx hb dX7_takesNumber_36 (by decide) ?_
      exact iv_zret X hr hlocks hB (q_1.wk (by decide)) ⟨hM, (q_1.wk (by decide))⟩ dX7_takesNumber_37
    · skip
      have i14_x5 : iv_R 0 0 x5 := (i_x5.cutHi (n := 0) (iv_eq_r c8 q_0).2)
      refine lv_aload_n hx hb dX7_takesNumber_26 rfl (lv_at hl 0 rfl) ?_
      refine lv_iconst (v := 2) hx hb dX7_takesNumber_27 (by decide) ?_
      refine iv_cVi X k_good k_mf_X7_refuse k_im_X7_refuse k_sel_X7_refuse k_ml_X7_98 ft_X7 hB a_h0 sh_7 (As := [.int 2]) (c_X7_refuse l D tys base G h0 g_h0 r_h0 a_h0 n_g_h0 2 (q_2.wk (by decide))) ⟨rfl, rfl⟩ ⟨Nat.le_of_ble_eq_true rfl, Nat.le_of_ble_eq_true rfl⟩ ⟨Nat.le_of_ble_eq_true rfl, Nat.le_of_ble_eq_true rfl⟩ rfl rfl hl.1 (Nat.le_of_ble_eq_true rfl) dX7_takesNumber_28 (fun x16 G9 H locs hq hB => ?_)
      obtain ⟨hm, i_x16⟩ := hq
      obtain ⟨G17, hG9⟩ : ∃ g, g = G9 := ⟨_, rfl⟩
      rw [← hG9] at hm hB
      have hM := hM.stp hm (by decide)
      obtain ⟨g18, r19, a_h0, f_g18⟩ := hm.ex a_h0
      have n_g18 := iv_nxt hB a_h0 f_g18 n_g_h0
      exact iv_zret X hr hlocks hB (i_x16.wk (by decide)) ⟨hM, (i_x16.wk (by decide))⟩ dX7_takesNumber_31
  · skip
    refine lv_aload_n hx hb dX7_takesNumber_8 rfl (lv_at hl 0 rfl) ?_
    refine lv_iconst (v := 1) hx hb dX7_takesNumber_9 (by decide) ?_
    refine iv_cVi X k_good k_mf_X7_refuse k_im_X7_refuse k_sel_X7_refuse k_ml_X7_98 ft_X7 hB a_h0 sh_7 (As := [.int 1]) (c_X7_refuse l D tys base G h0 g_h0 r_h0 a_h0 n_g_h0 1 (q_1.wk (by decide))) ⟨rfl, rfl⟩ ⟨Nat.le_of_ble_eq_true rfl, Nat.le_of_ble_eq_true rfl⟩ ⟨Nat.le_of_ble_eq_true rfl, Nat.le_of_ble_eq_true rfl⟩ rfl rfl hl.1 (Nat.le_of_ble_eq_true rfl) dX7_takesNumber_10 (fun x20 G9 H locs hq hB => ?_)
    obtain ⟨hm, i_x20⟩ := hq
    obtain ⟨G21, hG9⟩ : ∃ g, g = G9 := ⟨_, rfl⟩
    rw [← hG9] at hm hB
    have hM := hM.stp hm (by decide)
    obtain ⟨g22, r23, a_h0, f_g22⟩ := hm.ex a_h0
    have n_g22 := iv_nxt hB a_h0 f_g22 n_g_h0
    exact iv_zret X hr hlocks hB (i_x20.wk (by decide)) ⟨hM, (i_x20.wk (by decide))⟩ dX7_takesNumber_13
theorem dX7_readSum_0 : decode cX7_readSum 0 = .ok (.iconst 0, 1) := by decide +kernel
theorem dX7_readSum_1 : decode cX7_readSum 1 = .ok (.istore_n 1, 1) := by decide +kernel
theorem dX7_readSum_2 : decode cX7_readSum 2 = .ok (.aload_n 0, 1) := by decide +kernel
theorem dX7_readSum_3 : decode cX7_readSum 3 = .ok (.invokevirtual 135, 3) := by decide +kernel
theorem dX7_readSum_6 : decode cX7_readSum 6 = .ok (.istore_n 2, 1) := by decide +kernel
theorem dX7_readSum_7 : decode cX7_readSum 7 = .ok (.iconst 0, 1) := by decide +kernel
theorem dX7_readSum_8 : decode cX7_readSum 8 = .ok (.istore_n 3, 1) := by decide +kernel
theorem dX7_readSum_9 : decode cX7_readSum 9 = .ok (.iload_n 3, 1) := by decide +kernel
theorem dX7_readSum_10 : decode cX7_readSum 10 = .ok (.sipush 400, 3) := by decide +kernel
theorem dX7_readSum_13 : decode cX7_readSum 13 = .ok (.if_icmp .ge 101, 3) := by decide +kernel
theorem dX7_readSum_16 : decode cX7_readSum 16 = .ok (.iload_n 2, 1) := by decide +kernel
theorem dX7_readSum_17 : decode cX7_readSum 17 = .ok (.ifCond .eq 97, 3) := by decide +kernel
theorem dX7_readSum_20 : decode cX7_readSum 20 = .ok (.aload_n 0, 1) := by decide +kernel
theorem dX7_readSum_21 : decode cX7_readSum 21 = .ok (.getfield 53, 3) := by decide +kernel
theorem dX7_readSum_24 : decode cX7_readSum 24 = .ok (.invokestatic 138, 3) := by decide +kernel
theorem dX7_readSum_27 : decode cX7_readSum 27 = .ok (.ifCond .eq 87, 3) := by decide +kernel
theorem dX7_readSum_30 : decode cX7_readSum 30 = .ok (.aload_n 0, 1) := by decide +kernel
theorem dX7_readSum_31 : decode cX7_readSum 31 = .ok (.getfield 53, 3) := by decide +kernel
theorem dX7_readSum_34 : decode cX7_readSum 34 = .ok (.istore 4, 2) := by decide +kernel
theorem dX7_readSum_36 : decode cX7_readSum 36 = .ok (.aload_n 0, 1) := by decide +kernel
theorem dX7_readSum_37 : decode cX7_readSum 37 = .ok (.invokevirtual 83, 3) := by decide +kernel
theorem dX7_readSum_40 : decode cX7_readSum 40 = .ok (.iload 4, 2) := by decide +kernel
theorem dX7_readSum_42 : decode cX7_readSum 42 = .ok (.bipush 47, 2) := by decide +kernel
theorem dX7_readSum_44 : decode cX7_readSum 44 = .ok (.if_icmp .ne 29, 3) := by decide +kernel
theorem dX7_readSum_47 : decode cX7_readSum 47 = .ok (.aload_n 0, 1) := by decide +kernel
theorem dX7_readSum_48 : decode cX7_readSum 48 = .ok (.getfield 92, 3) := by decide +kernel
theorem dX7_readSum_51 : decode cX7_readSum 51 = .ok (.istore 5, 2) := by decide +kernel
theorem dX7_readSum_53 : decode cX7_readSum 53 = .ok (.aload_n 0, 1) := by decide +kernel
theorem dX7_readSum_54 : decode cX7_readSum 54 = .ok (.iconst 1, 1) := by decide +kernel
theorem dX7_readSum_55 : decode cX7_readSum 55 = .ok (.sipush 9999, 3) := by decide +kernel
theorem dX7_readSum_58 : decode cX7_readSum 58 = .ok (.invokevirtual 108, 3) := by decide +kernel
theorem dX7_readSum_61 : decode cX7_readSum 61 = .ok (.istore_n 2, 1) := by decide +kernel
theorem dX7_readSum_62 : decode cX7_readSum 62 = .ok (.aload_n 0, 1) := by decide +kernel
theorem dX7_readSum_63 : decode cX7_readSum 63 = .ok (.bipush 47, 2) := by decide +kernel
theorem dX7_readSum_65 : decode cX7_readSum 65 = .ok (.iload 5, 2) := by decide +kernel
theorem dX7_readSum_67 : decode cX7_readSum 67 = .ok (.invokevirtual 125, 3) := by decide +kernel
theorem dX7_readSum_70 : decode cX7_readSum 70 = .ok (.goto 38, 3) := by decide +kernel
theorem dX7_readSum_73 : decode cX7_readSum 73 = .ok (.iload 4, 2) := by decide +kernel
theorem dX7_readSum_75 : decode cX7_readSum 75 = .ok (.bipush 42, 2) := by decide +kernel
theorem dX7_readSum_77 : decode cX7_readSum 77 = .ok (.if_icmp .ne 18, 3) := by decide +kernel
theorem dX7_readSum_80 : decode cX7_readSum 80 = .ok (.aload_n 0, 1) := by decide +kernel
theorem dX7_readSum_81 : decode cX7_readSum 81 = .ok (.invokevirtual 135, 3) := by decide +kernel
theorem dX7_readSum_84 : decode cX7_readSum 84 = .ok (.istore_n 2, 1) := by decide +kernel
theorem dX7_readSum_85 : decode cX7_readSum 85 = .ok (.aload_n 0, 1) := by decide +kernel
theorem dX7_readSum_86 : decode cX7_readSum 86 = .ok (.bipush 42, 2) := by decide +kernel
theorem dX7_readSum_88 : decode cX7_readSum 88 = .ok (.iconst 0, 1) := by decide +kernel
theorem dX7_readSum_89 : decode cX7_readSum 89 = .ok (.invokevirtual 125, 3) := by decide +kernel
theorem dX7_readSum_92 : decode cX7_readSum 92 = .ok (.goto 16, 3) := by decide +kernel
theorem dX7_readSum_95 : decode cX7_readSum 95 = .ok (.aload_n 0, 1) := by decide +kernel
theorem dX7_readSum_96 : decode cX7_readSum 96 = .ok (.iload_n 1, 1) := by decide +kernel
theorem dX7_readSum_97 : decode cX7_readSum 97 = .ok (.invokevirtual 121, 3) := by decide +kernel
theorem dX7_readSum_100 : decode cX7_readSum 100 = .ok (.iload 4, 2) := by decide +kernel
theorem dX7_readSum_102 : decode cX7_readSum 102 = .ok (.istore_n 1, 1) := by decide +kernel
theorem dX7_readSum_103 : decode cX7_readSum 103 = .ok (.aload_n 0, 1) := by decide +kernel
theorem dX7_readSum_104 : decode cX7_readSum 104 = .ok (.invokevirtual 135, 3) := by decide +kernel
theorem dX7_readSum_107 : decode cX7_readSum 107 = .ok (.istore_n 2, 1) := by decide +kernel
theorem dX7_readSum_108 : decode cX7_readSum 108 = .ok (.iinc 3 1, 3) := by decide +kernel
theorem dX7_readSum_111 : decode cX7_readSum 111 = .ok (.goto (-102), 3) := by decide +kernel
theorem dX7_readSum_114 : decode cX7_readSum 114 = .ok (.aload_n 0, 1) := by decide +kernel
theorem dX7_readSum_115 : decode cX7_readSum 115 = .ok (.iload_n 1, 1) := by decide +kernel
theorem dX7_readSum_116 : decode cX7_readSum 116 = .ok (.invokevirtual 121, 3) := by decide +kernel
theorem dX7_readSum_119 : decode cX7_readSum 119 = .ok (.iload_n 2, 1) := by decide +kernel
theorem dX7_readSum_120 : decode cX7_readSum 120 = .ok (.ireturn, 1) := by decide +kernel
set_option maxHeartbeats 4000000 in
set_option maxRecDepth 100000 in
theorem c_X7_readSum (l : Launch) (D : va_G) (tys : List (ClassId × FieldType)) (base : Nat) (G : iv_G) (h0 : Nat) (g_h0 : Nat → Int32) (r_h0 : Nat → Nat) (a_h0 : G h0 = some (7, g_h0, r_h0)) (n_g_h0 : iv_R 0 400 (g_h0 1)) : Met l yX7_readSum (Cond.code yX7_readSum cX7_readSum 6 (some .boolean) :: iv_W0) ({ frames := 2, cells := 0, slots := 0, locals := 44 }) (iv_Pc iv_sh D classes tys base G [.ref h0]) (iv_Qi iv_sh D classes tys base (fun v G' => iv_Md [7, 37, 38] G G' ∧ iv_R 0 1 v)) 0 0 (iv_A base) := by
  refine iv_head (by decide) (Nat.le_of_ble_eq_true rfl) ?_
  intro p e s m args below meth c ls X hr hlocks hname hB hl
  have X := X
  have hx := X.1.1
  have hb := X.1.2.1
  have hM : iv_Md [7, 37, 38] G G := iv_Md.rf
  have hl : lv_has ls 6 [(0, .ref h0)] := hl
  refine lv_iconst (v := 0) hx hb dX7_readSum_0 (by decide) ?_
  refine lv_istore_n (lv' := [(1, .int 0), (0, .ref h0)]) hx hb dX7_readSum_1 rfl hl (by decide) rfl (fun ls hl => ?_)
  refine lv_aload_n hx hb dX7_readSum_2 rfl (lv_at hl 1 rfl) ?_
  refine iv_cVi X k_good k_mf_X7_readUnit k_im_X7_readUnit k_sel_X7_readUnit k_ml_X7_135 ft_X7 hB a_h0 sh_7 (As := []) (c_X7_readUnit l D tys base G h0 g_h0 r_h0 a_h0 n_g_h0) ⟨rfl, rfl⟩ ⟨Nat.le_of_ble_eq_true rfl, Nat.le_of_ble_eq_true rfl⟩ ⟨Nat.le_of_ble_eq_true rfl, Nat.le_of_ble_eq_true rfl⟩ rfl rfl hl.1 (Nat.le_of_ble_eq_true rfl) dX7_readSum_3 (fun x1 G9 H locs hq hB => ?_)
  obtain ⟨hm, i_x1⟩ := hq
  obtain ⟨G2, hG9⟩ : ∃ g, g = G9 := ⟨_, rfl⟩
  rw [← hG9] at hm hB
  have hM := hM.stp hm (by decide)
  obtain ⟨g3, r4, a_h0, f_g3⟩ := hm.ex a_h0
  have n_g3 := iv_nxt hB a_h0 f_g3 n_g_h0
  refine lv_istore_n (lv' := [(2, .int x1), (1, .int 0), (0, .ref h0)]) hx hb dX7_readSum_6 rfl hl (by decide) rfl (fun ls hl => ?_)
  refine lv_iconst (v := 0) hx hb dX7_readSum_7 (by decide) ?_
  refine lv_istore_n (lv' := [(3, .int 0), (2, .int x1), (1, .int 0), (0, .ref h0)]) hx hb dX7_readSum_8 rfl hl (by decide) rfl (fun ls hl => ?_)
  have L_9 : ∀ (n_9 : Nat) (G10 : iv_G) (hM : iv_Md [7, 37, 38] G G10) (H : Heap) (locs : List Loc) (hB : iv_B iv_sh D classes tys base G10 s.heap H locs) (g8 : Nat → Int32) (r9 : Nat → Nat) (a_h0 : G10 h0 = some (7, g8, r9)) (n_g8 : iv_R 0 400 (g8 1)) (x5 : Int32) (i_x5 : iv_R 0 46 x5) (x6 : Int32) (i_x6 : iv_R 0 1 x6) (x7 : Int32) (i_x7 : iv_R 0 400 x7) (hn_9 : (401 - x7.toInt).toNat < n_9) (ls : Array Slot) (hl : lv_has ls 6 [(3, .int x7), (2, .int x6), (1, .int x5), (0, .ref h0)]), W p l e ({ frames := 2, cells := 0, slots := 0, locals := 44 } : Room) s m args below meth c H locs 0 0 (MQ below (iv_Qi iv_sh D classes tys base (fun v G' => iv_Md [7, 37, 38] G G' ∧ iv_R 0 1 v)) args s 0 0 (iv_A base)) (F0 m 9 ls []) := by
    intro n_9
    induction n_9 with
    | zero => intro G10 hM H locs hB g8 r9 a_h0 n_g8 x5 i_x5 x6 i_x6 x7 i_x7 hn_9 ls hl; exact absurd hn_9 (Nat.not_lt_zero _)
    | succ n_9 ih_9 =>
      intro G10 hM H locs hB g8 r9 a_h0 n_g8 x5 i_x5 x6 i_x6 x7 i_x7 hn_9 ls hl
      refine lv_iload_n hx hb dX7_readSum_9 rfl (lv_at hl 0 rfl) ?_
      refine lv_sipush (v := 400) hx hb dX7_readSum_10 (by decide) ?_
      refine lv_icmp_ge (tgt := 114) hx hb dX7_readSum_13 (by decide) (fun c11 => ?_) (fun c11 => ?_)
      · skip
        have i11_x7 : iv_R 400 400 x7 := (i_x7.cutLo (n := 400) (iv_le_l c11 q_400))
        refine lv_aload_n hx hb dX7_readSum_114 rfl (lv_at hl 3 rfl) ?_
        refine lv_iload_n hx hb dX7_readSum_115 rfl (lv_at hl 2 rfl) ?_
        refine iv_cVv X k_good k_mf_X7_emitWaiting k_im_X7_emitWaiting k_sel_X7_emitWaiting k_ml_X7_121 ft_X7 hB a_h0 sh_7 (As := [.int x5]) (c_X7_emitWaiting l D tys base G10 h0 g8 r9 a_h0 x5 (i_x5.wk (by decide))) ⟨rfl, rfl⟩ ⟨Nat.le_of_ble_eq_true rfl, Nat.le_of_ble_eq_true rfl⟩ ⟨Nat.le_of_ble_eq_true rfl, Nat.le_of_ble_eq_true rfl⟩ rfl rfl hl.1 (Nat.le_of_ble_eq_true rfl) dX7_readSum_116 (fun G9 H locs hq hB => ?_)
        have hm := hq
        obtain ⟨G13, hG9⟩ : ∃ g, g = G9 := ⟨_, rfl⟩
        rw [← hG9] at hm hB
        have hM := hM.stp hm (by decide)
        obtain ⟨g14, r15, a_h0, f_g14⟩ := hm.ex a_h0
        have n_g14 := iv_nxt hB a_h0 f_g14 n_g8
        refine lv_iload_n hx hb dX7_readSum_119 rfl (lv_at hl 1 rfl) ?_
        exact iv_zret X hr hlocks hB i_x6 ⟨hM, i_x6⟩ dX7_readSum_120
      · skip
        have i15_x7 : iv_R 0 399 x7 := (i_x7.cutHi (n := 399) (iv_lt_r (iv_nle c11) q_400 (by decide)))
        refine lv_iload_n hx hb dX7_readSum_16 rfl (lv_at hl 1 rfl) ?_
        refine lv_if_eq (tgt := 114) hx hb dX7_readSum_17 (by decide) (fun c17 => ?_) (fun c17 => ?_)
        · skip
          have i17_x6 : iv_R 0 0 x6 := (i_x6.cutHi (n := 0) (iv_eq_r c17 q_0).2)
          refine lv_aload_n hx hb dX7_readSum_114 rfl (lv_at hl 3 rfl) ?_
          refine lv_iload_n hx hb dX7_readSum_115 rfl (lv_at hl 2 rfl) ?_
          refine iv_cVv X k_good k_mf_X7_emitWaiting k_im_X7_emitWaiting k_sel_X7_emitWaiting k_ml_X7_121 ft_X7 hB a_h0 sh_7 (As := [.int x5]) (c_X7_emitWaiting l D tys base G10 h0 g8 r9 a_h0 x5 (i_x5.wk (by decide))) ⟨rfl, rfl⟩ ⟨Nat.le_of_ble_eq_true rfl, Nat.le_of_ble_eq_true rfl⟩ ⟨Nat.le_of_ble_eq_true rfl, Nat.le_of_ble_eq_true rfl⟩ rfl rfl hl.1 (Nat.le_of_ble_eq_true rfl) dX7_readSum_116 (fun G9 H locs hq hB => ?_)
          have hm := hq
          obtain ⟨G19, hG9⟩ : ∃ g, g = G9 := ⟨_, rfl⟩
          rw [← hG9] at hm hB
          have hM := hM.stp hm (by decide)
          obtain ⟨g20, r21, a_h0, f_g20⟩ := hm.ex a_h0
          have n_g20 := iv_nxt hB a_h0 f_g20 n_g8
          refine lv_iload_n hx hb dX7_readSum_119 rfl (lv_at hl 1 rfl) ?_
          exact iv_zret X hr hlocks hB (i17_x6.wk (by decide)) ⟨hM, (i17_x6.wk (by decide))⟩ dX7_readSum_120
        · skip
          have i21_x6 : iv_R 1 1 x6 := iv_ne_lo c17 i_x6 q_0 (by decide)
          refine lv_aload_n hx hb dX7_readSum_20 rfl (lv_at hl 3 rfl) ?_
          refine iv_geti X ft_X7 hB a_h0 sh_7 2 (by decide) rfl k_fl_X7_53 dX7_readSum_21 (fun x23 e_x23 i_x23 => ?_)
          refine iv_cSi X k_good k_mf_X7_isSignOfSums k_st_X7_isSignOfSums k_ml_X7_138 hB (As := [.int x23]) (c_X7_isSignOfSums l D tys base G10 x23 i_x23) ⟨rfl, rfl⟩ ⟨Nat.le_of_ble_eq_true rfl, Nat.le_of_ble_eq_true rfl⟩ ⟨Nat.le_of_ble_eq_true rfl, Nat.le_of_ble_eq_true rfl⟩ rfl rfl hl.1 (Nat.le_of_ble_eq_true rfl) dX7_readSum_24 (fun x24 G9 H locs hq hB => ?_)
          obtain ⟨rfl, i_x24, hp25⟩ := hq
          refine lv_if_eq (tgt := 114) hx hb dX7_readSum_27 (by decide) (fun c26 => ?_) (fun c26 => ?_)
          · skip
            have i26_x24 : iv_R 0 0 x24 := (i_x24.cutHi (n := 0) (iv_eq_r c26 q_0).2)
            refine lv_aload_n hx hb dX7_readSum_114 rfl (lv_at hl 3 rfl) ?_
            refine lv_iload_n hx hb dX7_readSum_115 rfl (lv_at hl 2 rfl) ?_
            refine iv_cVv X k_good k_mf_X7_emitWaiting k_im_X7_emitWaiting k_sel_X7_emitWaiting k_ml_X7_121 ft_X7 hB a_h0 sh_7 (As := [.int x5]) (c_X7_emitWaiting l D tys base G10 h0 g8 r9 a_h0 x5 (i_x5.wk (by decide))) ⟨rfl, rfl⟩ ⟨Nat.le_of_ble_eq_true rfl, Nat.le_of_ble_eq_true rfl⟩ ⟨Nat.le_of_ble_eq_true rfl, Nat.le_of_ble_eq_true rfl⟩ rfl rfl hl.1 (Nat.le_of_ble_eq_true rfl) dX7_readSum_116 (fun G9 H locs hq hB => ?_)
            have hm := hq
            obtain ⟨G28, hG9⟩ : ∃ g, g = G9 := ⟨_, rfl⟩
            rw [← hG9] at hm hB
            have hM := hM.stp hm (by decide)
            obtain ⟨g29, r30, a_h0, f_g29⟩ := hm.ex a_h0
            have n_g29 := iv_nxt hB a_h0 f_g29 n_g8
            refine lv_iload_n hx hb dX7_readSum_119 rfl (lv_at hl 1 rfl) ?_
            exact iv_zret X hr hlocks hB (i21_x6.wk (by decide)) ⟨hM, (i21_x6.wk (by decide))⟩ dX7_readSum_120
          · skip
            have i30_x24 : iv_R 1 1 x24 := iv_ne_lo c26 i_x24 q_0 (by decide)
            have i31_x23 : iv_R 42 47 x23 := ((i_x23.cutLo (n := 42) (hp25 c26).1).cutHi (n := 47) (hp25 c26).2)
            refine lv_aload_n hx hb dX7_readSum_30 rfl (lv_at hl 3 rfl) ?_
            refine iv_geti0 X ft_X7 hB a_h0 sh_7 2 (by decide) rfl k_fl_X7_53 dX7_readSum_31 e_x23 ?_
            refine lv_istore (lv' := [(4, .int x23), (3, .int x7), (2, .int x6), (1, .int x5), (0, .ref h0)]) hx hb dX7_readSum_34 hl (by decide) rfl (fun ls hl => ?_)
            refine lv_aload_n hx hb dX7_readSum_36 rfl (lv_at hl 4 rfl) ?_
            refine iv_cVv X k_good k_mf_X7_step k_im_X7_step k_sel_X7_step k_ml_X7_83 ft_X7 hB a_h0 sh_7 (As := []) (c_X7_step l D tys base G10 h0 g8 r9 a_h0) ⟨rfl, rfl⟩ ⟨Nat.le_of_ble_eq_true rfl, Nat.le_of_ble_eq_true rfl⟩ ⟨Nat.le_of_ble_eq_true rfl, Nat.le_of_ble_eq_true rfl⟩ rfl rfl hl.1 (Nat.le_of_ble_eq_true rfl) dX7_readSum_37 (fun G9 H locs hq hB => ?_)
            obtain ⟨hm, vg⟩ := hq
            obtain ⟨G33, hG9⟩ : ∃ g, g = G9 := ⟨_, rfl⟩
            rw [← hG9] at hm hB vg
            have hM := hM.stp hm (by decide)
            obtain ⟨g34, r35, a_h0, f_g34⟩ := hm.ex a_h0
            have n_g34 := iv_nxt hB a_h0 f_g34 n_g8
            have vg36 := vg _ _ a_h0
            refine lv_iload hx hb dX7_readSum_40 (lv_at hl 0 rfl) ?_
            refine lv_bipush (v := 47) hx hb dX7_readSum_42 (by decide) ?_
            refine lv_icmp_ne (tgt := 73) hx hb dX7_readSum_44 (by decide) (fun c37 => ?_) (fun c37 => ?_)
            · skip
              have i37_x23 : iv_R 42 46 x23 := iv_ne_hi c37 i31_x23 q_47 (by decide)
              refine lv_iload hx hb dX7_readSum_73 (lv_at hl 0 rfl) ?_
              refine lv_bipush (v := 42) hx hb dX7_readSum_75 (by decide) ?_
              refine lv_icmp_ne (tgt := 95) hx hb dX7_readSum_77 (by decide) (fun c39 => ?_) (fun c39 => ?_)
              · skip
                have i39_x23 : iv_R 43 46 x23 := iv_ne_lo c39 i37_x23 q_42 (by decide)
                refine lv_aload_n hx hb dX7_readSum_95 rfl (lv_at hl 4 rfl) ?_
                refine lv_iload_n hx hb dX7_readSum_96 rfl (lv_at hl 3 rfl) ?_
                refine iv_cVv X k_good k_mf_X7_emitWaiting k_im_X7_emitWaiting k_sel_X7_emitWaiting k_ml_X7_121 ft_X7 hB a_h0 sh_7 (As := [.int x5]) (c_X7_emitWaiting l D tys base G33 h0 g34 r35 a_h0 x5 (i_x5.wk (by decide))) ⟨rfl, rfl⟩ ⟨Nat.le_of_ble_eq_true rfl, Nat.le_of_ble_eq_true rfl⟩ ⟨Nat.le_of_ble_eq_true rfl, Nat.le_of_ble_eq_true rfl⟩ rfl rfl hl.1 (Nat.le_of_ble_eq_true rfl) dX7_readSum_97 (fun G9 H locs hq hB => ?_)
                have hm := hq
                obtain ⟨G41, hG9⟩ : ∃ g, g = G9 := ⟨_, rfl⟩
                rw [← hG9] at hm hB
                have hM := hM.stp hm (by decide)
                obtain ⟨g42, r43, a_h0, f_g42⟩ := hm.ex a_h0
                have n_g42 := iv_nxt hB a_h0 f_g42 vg36
                refine lv_iload hx hb dX7_readSum_100 (lv_at hl 0 rfl) ?_
                refine lv_istore_n (lv' := [(1, .int x23), (4, .int x23), (3, .int x7), (2, .int x6), (0, .ref h0)]) hx hb dX7_readSum_102 rfl hl (by decide) rfl (fun ls hl => ?_)
                refine lv_aload_n hx hb dX7_readSum_103 rfl (lv_at hl 4 rfl) ?_
                refine iv_cVi X k_good k_mf_X7_readUnit k_im_X7_readUnit k_sel_X7_readUnit k_ml_X7_135 ft_X7 hB a_h0 sh_7 (As := []) (c_X7_readUnit l D tys base G41 h0 g42 r43 a_h0 n_g42) ⟨rfl, rfl⟩ ⟨Nat.le_of_ble_eq_true rfl, Nat.le_of_ble_eq_true rfl⟩ ⟨Nat.le_of_ble_eq_true rfl, Nat.le_of_ble_eq_true rfl⟩ rfl rfl hl.1 (Nat.le_of_ble_eq_true rfl) dX7_readSum_104 (fun x44 G9 H locs hq hB => ?_)
                obtain ⟨hm, i_x44⟩ := hq
                obtain ⟨G45, hG9⟩ : ∃ g, g = G9 := ⟨_, rfl⟩
                rw [← hG9] at hm hB
                have hM := hM.stp hm (by decide)
                obtain ⟨g46, r47, a_h0, f_g46⟩ := hm.ex a_h0
                have n_g46 := iv_nxt hB a_h0 f_g46 n_g42
                refine lv_istore_n (lv' := [(2, .int x44), (1, .int x23), (4, .int x23), (3, .int x7), (0, .ref h0)]) hx hb dX7_readSum_107 rfl hl (by decide) rfl (fun ls hl => ?_)
                refine iv_iinc hx hb i15_x7 (lo := 1) (hi := 400) (by decide) dX7_readSum_108 hl (k := 3) rfl (by decide) (fun x48 ls e_x48 i_x48 hl => ?_)
                have hl : lv_has ls 6 [(3, .int x48), (2, .int x44), (1, .int x23), (4, .int x23), (0, .ref h0)] := hl
                refine lv_goto (tgt := 9) hx hb dX7_readSum_111 (by decide) ?_
                exact ih_9 G45 hM _ _ hB g46 r47 a_h0 n_g46 x23 (i39_x23.wk (by decide)) x44 i_x44 x48 (i_x48.wk (by decide)) (iv_mup (c := 1) i_x7 (by decide) (by decide) (by omega) hn_9) _ (lv_sub hl [0, 1, 2, 4] rfl)
              · skip
                have i48_x23 : iv_R 42 42 x23 := (i37_x23.cutHi (n := 42) (iv_eq_r c39 q_42).2)
                refine lv_aload_n hx hb dX7_readSum_80 rfl (lv_at hl 4 rfl) ?_
                refine iv_cVi X k_good k_mf_X7_readUnit k_im_X7_readUnit k_sel_X7_readUnit k_ml_X7_135 ft_X7 hB a_h0 sh_7 (As := []) (c_X7_readUnit l D tys base G33 h0 g34 r35 a_h0 vg36) ⟨rfl, rfl⟩ ⟨Nat.le_of_ble_eq_true rfl, Nat.le_of_ble_eq_true rfl⟩ ⟨Nat.le_of_ble_eq_true rfl, Nat.le_of_ble_eq_true rfl⟩ rfl rfl hl.1 (Nat.le_of_ble_eq_true rfl) dX7_readSum_81 (fun x50 G9 H locs hq hB => ?_)
                obtain ⟨hm, i_x50⟩ := hq
                obtain ⟨G51, hG9⟩ : ∃ g, g = G9 := ⟨_, rfl⟩
                rw [← hG9] at hm hB
                have hM := hM.stp hm (by decide)
                obtain ⟨g52, r53, a_h0, f_g52⟩ := hm.ex a_h0
                have n_g52 := iv_nxt hB a_h0 f_g52 vg36
                refine lv_istore_n (lv' := [(2, .int x50), (4, .int x23), (3, .int x7), (1, .int x5), (0, .ref h0)]) hx hb dX7_readSum_84 rfl hl (by decide) rfl (fun ls hl => ?_)
                refine lv_aload_n hx hb dX7_readSum_85 rfl (lv_at hl 4 rfl) ?_
                refine lv_bipush (v := 42) hx hb dX7_readSum_86 (by decide) ?_
                refine lv_iconst (v := 0) hx hb dX7_readSum_88 (by decide) ?_
                refine iv_cVv X k_good k_mf_X7_emit k_im_X7_emit k_sel_X7_emit k_ml_X7_125 ft_X7 hB a_h0 sh_7 (As := [.int 42, .int 0]) (c_X7_emit l D tys base G51 h0 g52 r53 a_h0 42 (q_42.wk (by decide)) 0 (q_0.wk (by decide))) ⟨rfl, rfl⟩ ⟨Nat.le_of_ble_eq_true rfl, Nat.le_of_ble_eq_true rfl⟩ ⟨Nat.le_of_ble_eq_true rfl, Nat.le_of_ble_eq_true rfl⟩ rfl rfl hl.1 (Nat.le_of_ble_eq_true rfl) dX7_readSum_89 (fun G9 H locs hq hB => ?_)
                have hm := hq
                obtain ⟨G54, hG9⟩ : ∃ g, g = G9 := ⟨_, rfl⟩
                rw [← hG9] at hm hB
                have hM := hM.stp hm (by decide)
                obtain ⟨g55, r56, a_h0, f_g55⟩ := hm.ex a_h0
                have n_g55 := iv_nxt hB a_h0 f_g55 n_g52
                refine lv_goto (tgt := 108) hx hb dX7_readSum_92 (by decide) ?_
                refine iv_iinc hx hb i15_x7 (lo := 1) (hi := 400) (by decide) dX7_readSum_108 hl (k := 2) rfl (by decide) (fun x57 ls e_x57 i_x57 hl => ?_)
                have hl : lv_has ls 6 [(3, .int x57), (2, .int x50), (4, .int x23), (1, .int x5), (0, .ref h0)] := hl
                refine lv_goto (tgt := 9) hx hb dX7_readSum_111 (by decide) ?_
                exact ih_9 G54 hM _ _ hB g55 r56 a_h0 n_g55 x5 i_x5 x50 i_x50 x57 (i_x57.wk (by decide)) (iv_mup (c := 1) i_x7 (by decide) (by decide) (by omega) hn_9) _ (lv_sub hl [0, 1, 3, 4] rfl)
            · skip
              have i57_x23 : iv_R 47 47 x23 := (i31_x23.cutLo (n := 47) (iv_eq_r c37 q_47).1)
              refine lv_aload_n hx hb dX7_readSum_47 rfl (lv_at hl 4 rfl) ?_
              refine iv_geti X ft_X7 hB a_h0 sh_7 3 (by decide) rfl k_fl_X7_92 dX7_readSum_48 (fun x59 e_x59 i_x59 => ?_)
              refine lv_istore (lv' := [(5, .int x59), (4, .int x23), (3, .int x7), (2, .int x6), (1, .int x5), (0, .ref h0)]) hx hb dX7_readSum_51 hl (by decide) rfl (fun ls hl => ?_)
              refine lv_aload_n hx hb dX7_readSum_53 rfl (lv_at hl 5 rfl) ?_
              refine lv_iconst (v := 1) hx hb dX7_readSum_54 (by decide) ?_
              refine lv_sipush (v := 9999) hx hb dX7_readSum_55 (by decide) ?_
              refine iv_cVi X k_good k_mf_X7_takesNumber k_im_X7_takesNumber k_sel_X7_takesNumber k_ml_X7_108 ft_X7 hB a_h0 sh_7 (As := [.int 1, .int 9999]) (c_X7_takesNumber l D tys base G33 h0 g34 r35 a_h0 vg36 1 (q_1.wk (by decide)) 9999 (q_9999.wk (by decide))) ⟨rfl, rfl⟩ ⟨Nat.le_of_ble_eq_true rfl, Nat.le_of_ble_eq_true rfl⟩ ⟨Nat.le_of_ble_eq_true rfl, Nat.le_of_ble_eq_true rfl⟩ rfl rfl hl.1 (Nat.le_of_ble_eq_true rfl) dX7_readSum_58 (fun x60 G9 H locs hq hB => ?_)
              obtain ⟨hm, i_x60⟩ := hq
              obtain ⟨G61, hG9⟩ : ∃ g, g = G9 := ⟨_, rfl⟩
              rw [← hG9] at hm hB
              have hM := hM.stp hm (by decide)
              obtain ⟨g62, r63, a_h0, f_g62⟩ := hm.ex a_h0
              have n_g62 := iv_nxt hB a_h0 f_g62 vg36
              refine lv_istore_n (lv' := [(2, .int x60), (5, .int x59), (4, .int x23), (3, .int x7), (1, .int x5), (0, .ref h0)]) hx hb dX7_readSum_61 rfl hl (by decide) rfl (fun ls hl => ?_)
              refine lv_aload_n hx hb dX7_readSum_62 rfl (lv_at hl 5 rfl) ?_
              refine lv_bipush (v := 47) hx hb dX7_readSum_63 (by decide) ?_
              refine lv_iload hx hb dX7_readSum_65 (lv_at hl 1 rfl) ?_
              refine iv_cVv X k_good k_mf_X7_emit k_im_X7_emit k_sel_X7_emit k_ml_X7_125 ft_X7 hB a_h0 sh_7 (As := [.int 47, .int x59]) (c_X7_emit l D tys base G61 h0 g62 r63 a_h0 47 (q_47.wk (by decide)) x59 i_x59) ⟨rfl, rfl⟩ ⟨Nat.le_of_ble_eq_true rfl, Nat.le_of_ble_eq_true rfl⟩ ⟨Nat.le_of_ble_eq_true rfl, Nat.le_of_ble_eq_true rfl⟩ rfl rfl hl.1 (Nat.le_of_ble_eq_true rfl) dX7_readSum_67 (fun G9 H locs hq hB => ?_)
              have hm := hq
              obtain ⟨G64, hG9⟩ : ∃ g, g = G9 := ⟨_, rfl⟩
              rw [← hG9] at hm hB
              have hM := hM.stp hm (by decide)
              obtain ⟨g65, r66, a_h0, f_g65⟩ := hm.ex a_h0
              have n_g65 := iv_nxt hB a_h0 f_g65 n_g62
              refine lv_goto (tgt := 108) hx hb dX7_readSum_70 (by decide) ?_
              refine iv_iinc hx hb i15_x7 (lo := 1) (hi := 400) (by decide) dX7_readSum_108 hl (k := 3) rfl (by decide) (fun x67 ls e_x67 i_x67 hl => ?_)
              have hl : lv_has ls 6 [(3, .int x67), (2, .int x60), (5, .int x59), (4, .int x23), (1, .int x5), (0, .ref h0)] := hl
              refine lv_goto (tgt := 9) hx hb dX7_readSum_111 (by decide) ?_
              exact ih_9 G64 hM _ _ hB g65 r66 a_h0 n_g65 x5 i_x5 x60 i_x60 x67 (i_x67.wk (by decide)) (iv_mup (c := 1) i_x7 (by decide) (by decide) (by omega) hn_9) _ (lv_sub hl [0, 1, 4, 5] rfl)
  exact L_9 _ G2 hM _ _ hB g3 r4 a_h0 n_g3 0 (q_0.wk (by decide)) x1 i_x1 0 (q_0.wk (by decide)) (Nat.lt_succ_self _) _ (lv_sub hl [0, 1, 2, 3] rfl)
theorem dX7_readComparison_0 : decode cX7_readComparison 0 = .ok (.aload_n 0, 1) := by decide +kernel
theorem dX7_readComparison_1 : decode cX7_readComparison 1 = .ok (.invokevirtual 112, 3) := by decide +kernel
theorem dX7_readComparison_4 : decode cX7_readComparison 4 = .ok (.ifCond .ne 5, 3) := by decide +kernel
theorem dX7_readComparison_7 : decode cX7_readComparison 7 = .ok (.iconst 0, 1) := by decide +kernel
theorem dX7_readComparison_8 : decode cX7_readComparison 8 = .ok (.ireturn, 1) := by decide +kernel
theorem dX7_readComparison_9 : decode cX7_readComparison 9 = .ok (.aload_n 0, 1) := by decide +kernel
theorem dX7_readComparison_10 : decode cX7_readComparison 10 = .ok (.getfield 53, 3) := by decide +kernel
theorem dX7_readComparison_13 : decode cX7_readComparison 13 = .ok (.istore_n 1, 1) := by decide +kernel
theorem dX7_readComparison_14 : decode cX7_readComparison 14 = .ok (.iload_n 1, 1) := by decide +kernel
theorem dX7_readComparison_15 : decode cX7_readComparison 15 = .ok (.bipush 60, 2) := by decide +kernel
theorem dX7_readComparison_17 : decode cX7_readComparison 17 = .ok (.if_icmp .eq 21, 3) := by decide +kernel
theorem dX7_readComparison_20 : decode cX7_readComparison 20 = .ok (.iload_n 1, 1) := by decide +kernel
theorem dX7_readComparison_21 : decode cX7_readComparison 21 = .ok (.bipush 61, 2) := by decide +kernel
theorem dX7_readComparison_23 : decode cX7_readComparison 23 = .ok (.if_icmp .eq 15, 3) := by decide +kernel
theorem dX7_readComparison_26 : decode cX7_readComparison 26 = .ok (.iload_n 1, 1) := by decide +kernel
theorem dX7_readComparison_27 : decode cX7_readComparison 27 = .ok (.bipush 62, 2) := by decide +kernel
theorem dX7_readComparison_29 : decode cX7_readComparison 29 = .ok (.if_icmp .eq 9, 3) := by decide +kernel
theorem dX7_readComparison_32 : decode cX7_readComparison 32 = .ok (.aload_n 0, 1) := by decide +kernel
theorem dX7_readComparison_33 : decode cX7_readComparison 33 = .ok (.iconst 1, 1) := by decide +kernel
theorem dX7_readComparison_34 : decode cX7_readComparison 34 = .ok (.invokevirtual 98, 3) := by decide +kernel
theorem dX7_readComparison_37 : decode cX7_readComparison 37 = .ok (.ireturn, 1) := by decide +kernel
theorem dX7_readComparison_38 : decode cX7_readComparison 38 = .ok (.aload_n 0, 1) := by decide +kernel
theorem dX7_readComparison_39 : decode cX7_readComparison 39 = .ok (.invokevirtual 83, 3) := by decide +kernel
theorem dX7_readComparison_42 : decode cX7_readComparison 42 = .ok (.aload_n 0, 1) := by decide +kernel
theorem dX7_readComparison_43 : decode cX7_readComparison 43 = .ok (.invokevirtual 112, 3) := by decide +kernel
theorem dX7_readComparison_46 : decode cX7_readComparison 46 = .ok (.ifCond .ne 5, 3) := by decide +kernel
theorem dX7_readComparison_49 : decode cX7_readComparison 49 = .ok (.iconst 0, 1) := by decide +kernel
theorem dX7_readComparison_50 : decode cX7_readComparison 50 = .ok (.ireturn, 1) := by decide +kernel
theorem dX7_readComparison_51 : decode cX7_readComparison 51 = .ok (.aload_n 0, 1) := by decide +kernel
theorem dX7_readComparison_52 : decode cX7_readComparison 52 = .ok (.iload_n 1, 1) := by decide +kernel
theorem dX7_readComparison_53 : decode cX7_readComparison 53 = .ok (.iconst 0, 1) := by decide +kernel
theorem dX7_readComparison_54 : decode cX7_readComparison 54 = .ok (.invokevirtual 125, 3) := by decide +kernel
theorem dX7_readComparison_57 : decode cX7_readComparison 57 = .ok (.iconst 1, 1) := by decide +kernel
theorem dX7_readComparison_58 : decode cX7_readComparison 58 = .ok (.ireturn, 1) := by decide +kernel
set_option maxHeartbeats 4000000 in
set_option maxRecDepth 100000 in
theorem c_X7_readComparison (l : Launch) (D : va_G) (tys : List (ClassId × FieldType)) (base : Nat) (G : iv_G) (h0 : Nat) (g_h0 : Nat → Int32) (r_h0 : Nat → Nat) (a_h0 : G h0 = some (7, g_h0, r_h0)) (n_g_h0 : iv_R 0 400 (g_h0 1)) : Met l yX7_readComparison (Cond.code yX7_readComparison cX7_readComparison 2 (some .boolean) :: iv_W0) ({ frames := 3, cells := 0, slots := 0, locals := 69 }) (iv_Pc iv_sh D classes tys base G [.ref h0]) (iv_Qi iv_sh D classes tys base (fun v G' => iv_Md [7, 37, 38] G G' ∧ iv_R 0 1 v)) 0 0 (iv_A base) := by
  refine iv_head (by decide) (Nat.le_of_ble_eq_true rfl) ?_
  intro p e s m args below meth c ls X hr hlocks hname hB hl
  have X := X
  have hx := X.1.1
  have hb := X.1.2.1
  have hM : iv_Md [7, 37, 38] G G := iv_Md.rf
  have hl : lv_has ls 2 [(0, .ref h0)] := hl
  refine lv_aload_n hx hb dX7_readComparison_0 rfl (lv_at hl 0 rfl) ?_
  refine iv_cVi X k_good k_mf_X7_readSum k_im_X7_readSum k_sel_X7_readSum k_ml_X7_112 ft_X7 hB a_h0 sh_7 (As := []) (c_X7_readSum l D tys base G h0 g_h0 r_h0 a_h0 n_g_h0) ⟨rfl, rfl⟩ ⟨Nat.le_of_ble_eq_true rfl, Nat.le_of_ble_eq_true rfl⟩ ⟨Nat.le_of_ble_eq_true rfl, Nat.le_of_ble_eq_true rfl⟩ rfl rfl hl.1 (Nat.le_of_ble_eq_true rfl) dX7_readComparison_1 (fun x1 G9 H locs hq hB => ?_)
  obtain ⟨hm, i_x1⟩ := hq
  obtain ⟨G2, hG9⟩ : ∃ g, g = G9 := ⟨_, rfl⟩
  rw [← hG9] at hm hB
  have hM := hM.stp hm (by decide)
  obtain ⟨g3, r4, a_h0, f_g3⟩ := hm.ex a_h0
  have n_g3 := iv_nxt hB a_h0 f_g3 n_g_h0
  refine lv_if_ne (tgt := 9) hx hb dX7_readComparison_4 (by decide) (fun c5 => ?_) (fun c5 => ?_)
  · skip
    have i5_x1 : iv_R 1 1 x1 := iv_ne_lo c5 i_x1 q_0 (by decide)
    refine lv_aload_n hx hb dX7_readComparison_9 rfl (lv_at hl 0 rfl) ?_
    refine iv_geti X ft_X7 hB a_h0 sh_7 2 (by decide) rfl k_fl_X7_53 dX7_readComparison_10 (fun x7 e_x7 i_x7 => ?_)
    refine lv_istore_n (lv' := [(1, .int x7), (0, .ref h0)]) hx hb dX7_readComparison_13 rfl hl (by decide) rfl (fun ls hl => ?_)
    refine lv_iload_n hx hb dX7_readComparison_14 rfl (lv_at hl 0 rfl) ?_
    refine lv_bipush (v := 60) hx hb dX7_readComparison_15 (by decide) ?_
    refine lv_icmp_eq (tgt := 38) hx hb dX7_readComparison_17 (by decide) (fun c8 => ?_) (fun c8 => ?_)
    · skip
      have i8_x7 : iv_R 60 60 x7 := ((i_x7.cutLo (n := 60) (iv_eq_r c8 q_60).1).cutHi (n := 60) (iv_eq_r c8 q_60).2)
      refine lv_aload_n hx hb dX7_readComparison_38 rfl (lv_at hl 1 rfl) ?_
      refine iv_cVv X k_good k_mf_X7_step k_im_X7_step k_sel_X7_step k_ml_X7_83 ft_X7 hB a_h0 sh_7 (As := []) (c_X7_step l D tys base G2 h0 g3 r4 a_h0) ⟨rfl, rfl⟩ ⟨Nat.le_of_ble_eq_true rfl, Nat.le_of_ble_eq_true rfl⟩ ⟨Nat.le_of_ble_eq_true rfl, Nat.le_of_ble_eq_true rfl⟩ rfl rfl hl.1 (Nat.le_of_ble_eq_true rfl) dX7_readComparison_39 (fun G9 H locs hq hB => ?_)
      obtain ⟨hm, vg⟩ := hq
      obtain ⟨G10, hG9⟩ : ∃ g, g = G9 := ⟨_, rfl⟩
      rw [← hG9] at hm hB vg
      have hM := hM.stp hm (by decide)
      obtain ⟨g11, r12, a_h0, f_g11⟩ := hm.ex a_h0
      have n_g11 := iv_nxt hB a_h0 f_g11 n_g3
      have vg13 := vg _ _ a_h0
      refine lv_aload_n hx hb dX7_readComparison_42 rfl (lv_at hl 1 rfl) ?_
      refine iv_cVi X k_good k_mf_X7_readSum k_im_X7_readSum k_sel_X7_readSum k_ml_X7_112 ft_X7 hB a_h0 sh_7 (As := []) (c_X7_readSum l D tys base G10 h0 g11 r12 a_h0 vg13) ⟨rfl, rfl⟩ ⟨Nat.le_of_ble_eq_true rfl, Nat.le_of_ble_eq_true rfl⟩ ⟨Nat.le_of_ble_eq_true rfl, Nat.le_of_ble_eq_true rfl⟩ rfl rfl hl.1 (Nat.le_of_ble_eq_true rfl) dX7_readComparison_43 (fun x14 G9 H locs hq hB => ?_)
      obtain ⟨hm, i_x14⟩ := hq
      obtain ⟨G15, hG9⟩ : ∃ g, g = G9 := ⟨_, rfl⟩
      rw [← hG9] at hm hB
      have hM := hM.stp hm (by decide)
      obtain ⟨g16, r17, a_h0, f_g16⟩ := hm.ex a_h0
      have n_g16 := iv_nxt hB a_h0 f_g16 vg13
      refine lv_if_ne (tgt := 51) hx hb dX7_readComparison_46 (by decide) (fun c18 => ?_) (fun c18 => ?_)
      · skip
        have i18_x14 : iv_R 1 1 x14 := iv_ne_lo c18 i_x14 q_0 (by decide)
        refine lv_aload_n hx hb dX7_readComparison_51 rfl (lv_at hl 1 rfl) ?_
        refine lv_iload_n hx hb dX7_readComparison_52 rfl (lv_at hl 0 rfl) ?_
        refine lv_iconst (v := 0) hx hb dX7_readComparison_53 (by decide) ?_
        refine iv_cVv X k_good k_mf_X7_emit k_im_X7_emit k_sel_X7_emit k_ml_X7_125 ft_X7 hB a_h0 sh_7 (As := [.int x7, .int 0]) (c_X7_emit l D tys base G15 h0 g16 r17 a_h0 x7 (i8_x7.wk (by decide)) 0 (q_0.wk (by decide))) ⟨rfl, rfl⟩ ⟨Nat.le_of_ble_eq_true rfl, Nat.le_of_ble_eq_true rfl⟩ ⟨Nat.le_of_ble_eq_true rfl, Nat.le_of_ble_eq_true rfl⟩ rfl rfl hl.1 (Nat.le_of_ble_eq_true rfl) dX7_readComparison_54 (fun G9 H locs hq hB => ?_)
        have hm := hq
        obtain ⟨G20, hG9⟩ : ∃ g, g = G9 := ⟨_, rfl⟩
        rw [← hG9] at hm hB
        have hM := hM.stp hm (by decide)
        obtain ⟨g21, r22, a_h0, f_g21⟩ := hm.ex a_h0
        have n_g21 := iv_nxt hB a_h0 f_g21 n_g16
        refine lv_iconst (v := 1) hx hb dX7_readComparison_57 (by decide) ?_
        exact iv_zret X hr hlocks hB (q_1.wk (by decide)) ⟨hM, (q_1.wk (by decide))⟩ dX7_readComparison_58
      · skip
        have i22_x14 : iv_R 0 0 x14 := (i_x14.cutHi (n := 0) (iv_eq_r c18 q_0).2)
        refine lv_iconst (v := 0) hx hb dX7_readComparison_49 (by decide) ?_
        exact iv_zret X hr hlocks hB (q_0.wk (by decide)) ⟨hM, (q_0.wk (by decide))⟩ dX7_readComparison_50
    · skip
      refine lv_iload_n hx hb dX7_readComparison_20 rfl (lv_at hl 0 rfl) ?_
      refine lv_bipush (v := 61) hx hb dX7_readComparison_21 (by decide) ?_
      refine lv_icmp_eq (tgt := 38) hx hb dX7_readComparison_23 (by decide) (fun c24 => ?_) (fun c24 => ?_)
      · skip
        have i24_x7 : iv_R 61 61 x7 := ((i_x7.cutLo (n := 61) (iv_eq_r c24 q_61).1).cutHi (n := 61) (iv_eq_r c24 q_61).2)
        refine lv_aload_n hx hb dX7_readComparison_38 rfl (lv_at hl 1 rfl) ?_
        refine iv_cVv X k_good k_mf_X7_step k_im_X7_step k_sel_X7_step k_ml_X7_83 ft_X7 hB a_h0 sh_7 (As := []) (c_X7_step l D tys base G2 h0 g3 r4 a_h0) ⟨rfl, rfl⟩ ⟨Nat.le_of_ble_eq_true rfl, Nat.le_of_ble_eq_true rfl⟩ ⟨Nat.le_of_ble_eq_true rfl, Nat.le_of_ble_eq_true rfl⟩ rfl rfl hl.1 (Nat.le_of_ble_eq_true rfl) dX7_readComparison_39 (fun G9 H locs hq hB => ?_)
        obtain ⟨hm, vg⟩ := hq
        obtain ⟨G26, hG9⟩ : ∃ g, g = G9 := ⟨_, rfl⟩
        rw [← hG9] at hm hB vg
        have hM := hM.stp hm (by decide)
        obtain ⟨g27, r28, a_h0, f_g27⟩ := hm.ex a_h0
        have n_g27 := iv_nxt hB a_h0 f_g27 n_g3
        have vg29 := vg _ _ a_h0
        refine lv_aload_n hx hb dX7_readComparison_42 rfl (lv_at hl 1 rfl) ?_
        refine iv_cVi X k_good k_mf_X7_readSum k_im_X7_readSum k_sel_X7_readSum k_ml_X7_112 ft_X7 hB a_h0 sh_7 (As := []) (c_X7_readSum l D tys base G26 h0 g27 r28 a_h0 vg29) ⟨rfl, rfl⟩ ⟨Nat.le_of_ble_eq_true rfl, Nat.le_of_ble_eq_true rfl⟩ ⟨Nat.le_of_ble_eq_true rfl, Nat.le_of_ble_eq_true rfl⟩ rfl rfl hl.1 (Nat.le_of_ble_eq_true rfl) dX7_readComparison_43 (fun x30 G9 H locs hq hB => ?_)
        obtain ⟨hm, i_x30⟩ := hq
        obtain ⟨G31, hG9⟩ : ∃ g, g = G9 := ⟨_, rfl⟩
        rw [← hG9] at hm hB
        have hM := hM.stp hm (by decide)
        obtain ⟨g32, r33, a_h0, f_g32⟩ := hm.ex a_h0
        have n_g32 := iv_nxt hB a_h0 f_g32 vg29
        refine lv_if_ne (tgt := 51) hx hb dX7_readComparison_46 (by decide) (fun c34 => ?_) (fun c34 => ?_)
        · skip
          have i34_x30 : iv_R 1 1 x30 := iv_ne_lo c34 i_x30 q_0 (by decide)
          refine lv_aload_n hx hb dX7_readComparison_51 rfl (lv_at hl 1 rfl) ?_
          refine lv_iload_n hx hb dX7_readComparison_52 rfl (lv_at hl 0 rfl) ?_
          refine lv_iconst (v := 0) hx hb dX7_readComparison_53 (by decide) ?_
          refine iv_cVv X k_good k_mf_X7_emit k_im_X7_emit k_sel_X7_emit k_ml_X7_125 ft_X7 hB a_h0 sh_7 (As := [.int x7, .int 0]) (c_X7_emit l D tys base G31 h0 g32 r33 a_h0 x7 (i24_x7.wk (by decide)) 0 (q_0.wk (by decide))) ⟨rfl, rfl⟩ ⟨Nat.le_of_ble_eq_true rfl, Nat.le_of_ble_eq_true rfl⟩ ⟨Nat.le_of_ble_eq_true rfl, Nat.le_of_ble_eq_true rfl⟩ rfl rfl hl.1 (Nat.le_of_ble_eq_true rfl) dX7_readComparison_54 (fun G9 H locs hq hB => ?_)
          have hm := hq
          obtain ⟨G36, hG9⟩ : ∃ g, g = G9 := ⟨_, rfl⟩
          rw [← hG9] at hm hB
          have hM := hM.stp hm (by decide)
          obtain ⟨g37, r38, a_h0, f_g37⟩ := hm.ex a_h0
          have n_g37 := iv_nxt hB a_h0 f_g37 n_g32
          refine lv_iconst (v := 1) hx hb dX7_readComparison_57 (by decide) ?_
          exact iv_zret X hr hlocks hB (q_1.wk (by decide)) ⟨hM, (q_1.wk (by decide))⟩ dX7_readComparison_58
        · skip
          have i38_x30 : iv_R 0 0 x30 := (i_x30.cutHi (n := 0) (iv_eq_r c34 q_0).2)
          refine lv_iconst (v := 0) hx hb dX7_readComparison_49 (by decide) ?_
          exact iv_zret X hr hlocks hB (q_0.wk (by decide)) ⟨hM, (q_0.wk (by decide))⟩ dX7_readComparison_50
      · skip
        refine lv_iload_n hx hb dX7_readComparison_26 rfl (lv_at hl 0 rfl) ?_
        refine lv_bipush (v := 62) hx hb dX7_readComparison_27 (by decide) ?_
        refine lv_icmp_eq (tgt := 38) hx hb dX7_readComparison_29 (by decide) (fun c40 => ?_) (fun c40 => ?_)
        · skip
          have i40_x7 : iv_R 62 62 x7 := ((i_x7.cutLo (n := 62) (iv_eq_r c40 q_62).1).cutHi (n := 62) (iv_eq_r c40 q_62).2)
          refine lv_aload_n hx hb dX7_readComparison_38 rfl (lv_at hl 1 rfl) ?_
          refine iv_cVv X k_good k_mf_X7_step k_im_X7_step k_sel_X7_step k_ml_X7_83 ft_X7 hB a_h0 sh_7 (As := []) (c_X7_step l D tys base G2 h0 g3 r4 a_h0) ⟨rfl, rfl⟩ ⟨Nat.le_of_ble_eq_true rfl, Nat.le_of_ble_eq_true rfl⟩ ⟨Nat.le_of_ble_eq_true rfl, Nat.le_of_ble_eq_true rfl⟩ rfl rfl hl.1 (Nat.le_of_ble_eq_true rfl) dX7_readComparison_39 (fun G9 H locs hq hB => ?_)
          obtain ⟨hm, vg⟩ := hq
          obtain ⟨G42, hG9⟩ : ∃ g, g = G9 := ⟨_, rfl⟩
          rw [← hG9] at hm hB vg
          have hM := hM.stp hm (by decide)
          obtain ⟨g43, r44, a_h0, f_g43⟩ := hm.ex a_h0
          have n_g43 := iv_nxt hB a_h0 f_g43 n_g3
          have vg45 := vg _ _ a_h0
          refine lv_aload_n hx hb dX7_readComparison_42 rfl (lv_at hl 1 rfl) ?_
          refine iv_cVi X k_good k_mf_X7_readSum k_im_X7_readSum k_sel_X7_readSum k_ml_X7_112 ft_X7 hB a_h0 sh_7 (As := []) (c_X7_readSum l D tys base G42 h0 g43 r44 a_h0 vg45) ⟨rfl, rfl⟩ ⟨Nat.le_of_ble_eq_true rfl, Nat.le_of_ble_eq_true rfl⟩ ⟨Nat.le_of_ble_eq_true rfl, Nat.le_of_ble_eq_true rfl⟩ rfl rfl hl.1 (Nat.le_of_ble_eq_true rfl) dX7_readComparison_43 (fun x46 G9 H locs hq hB => ?_)
          obtain ⟨hm, i_x46⟩ := hq
          obtain ⟨G47, hG9⟩ : ∃ g, g = G9 := ⟨_, rfl⟩
          rw [← hG9] at hm hB
          have hM := hM.stp hm (by decide)
          obtain ⟨g48, r49, a_h0, f_g48⟩ := hm.ex a_h0
          have n_g48 := iv_nxt hB a_h0 f_g48 vg45
          refine lv_if_ne (tgt := 51) hx hb dX7_readComparison_46 (by decide) (fun c50 => ?_) (fun c50 => ?_)
          · skip
            have i50_x46 : iv_R 1 1 x46 := iv_ne_lo c50 i_x46 q_0 (by decide)
            refine lv_aload_n hx hb dX7_readComparison_51 rfl (lv_at hl 1 rfl) ?_
            refine lv_iload_n hx hb dX7_readComparison_52 rfl (lv_at hl 0 rfl) ?_
            refine lv_iconst (v := 0) hx hb dX7_readComparison_53 (by decide) ?_
            refine iv_cVv X k_good k_mf_X7_emit k_im_X7_emit k_sel_X7_emit k_ml_X7_125 ft_X7 hB a_h0 sh_7 (As := [.int x7, .int 0]) (c_X7_emit l D tys base G47 h0 g48 r49 a_h0 x7 (i40_x7.wk (by decide)) 0 (q_0.wk (by decide))) ⟨rfl, rfl⟩ ⟨Nat.le_of_ble_eq_true rfl, Nat.le_of_ble_eq_true rfl⟩ ⟨Nat.le_of_ble_eq_true rfl, Nat.le_of_ble_eq_true rfl⟩ rfl rfl hl.1 (Nat.le_of_ble_eq_true rfl) dX7_readComparison_54 (fun G9 H locs hq hB => ?_)
            have hm := hq
            obtain ⟨G52, hG9⟩ : ∃ g, g = G9 := ⟨_, rfl⟩
            rw [← hG9] at hm hB
            have hM := hM.stp hm (by decide)
            obtain ⟨g53, r54, a_h0, f_g53⟩ := hm.ex a_h0
            have n_g53 := iv_nxt hB a_h0 f_g53 n_g48
            refine lv_iconst (v := 1) hx hb dX7_readComparison_57 (by decide) ?_
            exact iv_zret X hr hlocks hB (q_1.wk (by decide)) ⟨hM, (q_1.wk (by decide))⟩ dX7_readComparison_58
          · skip
            have i54_x46 : iv_R 0 0 x46 := (i_x46.cutHi (n := 0) (iv_eq_r c50 q_0).2)
            refine lv_iconst (v := 0) hx hb dX7_readComparison_49 (by decide) ?_
            exact iv_zret X hr hlocks hB (q_0.wk (by decide)) ⟨hM, (q_0.wk (by decide))⟩ dX7_readComparison_50
        · skip
          refine lv_aload_n hx hb dX7_readComparison_32 rfl (lv_at hl 1 rfl) ?_
          refine lv_iconst (v := 1) hx hb dX7_readComparison_33 (by decide) ?_
          refine iv_cVi X k_good k_mf_X7_refuse k_im_X7_refuse k_sel_X7_refuse k_ml_X7_98 ft_X7 hB a_h0 sh_7 (As := [.int 1]) (c_X7_refuse l D tys base G2 h0 g3 r4 a_h0 n_g3 1 (q_1.wk (by decide))) ⟨rfl, rfl⟩ ⟨Nat.le_of_ble_eq_true rfl, Nat.le_of_ble_eq_true rfl⟩ ⟨Nat.le_of_ble_eq_true rfl, Nat.le_of_ble_eq_true rfl⟩ rfl rfl hl.1 (Nat.le_of_ble_eq_true rfl) dX7_readComparison_34 (fun x56 G9 H locs hq hB => ?_)
          obtain ⟨hm, i_x56⟩ := hq
          obtain ⟨G57, hG9⟩ : ∃ g, g = G9 := ⟨_, rfl⟩
          rw [← hG9] at hm hB
          have hM := hM.stp hm (by decide)
          obtain ⟨g58, r59, a_h0, f_g58⟩ := hm.ex a_h0
          have n_g58 := iv_nxt hB a_h0 f_g58 n_g3
          exact iv_zret X hr hlocks hB (i_x56.wk (by decide)) ⟨hM, (i_x56.wk (by decide))⟩ dX7_readComparison_37
  · skip
    have i59_x1 : iv_R 0 0 x1 := (i_x1.cutHi (n := 0) (iv_eq_r c5 q_0).2)
    refine lv_iconst (v := 0) hx hb dX7_readComparison_7 (by decide) ?_
    exact iv_zret X hr hlocks hB (q_0.wk (by decide)) ⟨hM, (q_0.wk (by decide))⟩ dX7_readComparison_8
theorem dX7_readClaim_0 : decode cX7_readClaim 0 = .ok (.iload_n 1, 1) := by decide +kernel
theorem dX7_readClaim_1 : decode cX7_readClaim 1 = .ok (.istore_n 2, 1) := by decide +kernel
theorem dX7_readClaim_2 : decode cX7_readClaim 2 = .ok (.aload_n 0, 1) := by decide +kernel
theorem dX7_readClaim_3 : decode cX7_readClaim 3 = .ok (.getfield 53, 3) := by decide +kernel
theorem dX7_readClaim_6 : decode cX7_readClaim 6 = .ok (.sipush 137, 3) := by decide +kernel
theorem dX7_readClaim_9 : decode cX7_readClaim 9 = .ok (.if_icmp .ne 19, 3) := by decide +kernel
theorem dX7_readClaim_12 : decode cX7_readClaim 12 = .ok (.iload_n 2, 1) := by decide +kernel
theorem dX7_readClaim_13 : decode cX7_readClaim 13 = .ok (.bipush 8, 2) := by decide +kernel
theorem dX7_readClaim_15 : decode cX7_readClaim 15 = .ok (.if_icmp .ge 13, 3) := by decide +kernel
theorem dX7_readClaim_18 : decode cX7_readClaim 18 = .ok (.iinc 2 1, 3) := by decide +kernel
theorem dX7_readClaim_21 : decode cX7_readClaim 21 = .ok (.aload_n 0, 1) := by decide +kernel
theorem dX7_readClaim_22 : decode cX7_readClaim 22 = .ok (.invokevirtual 83, 3) := by decide +kernel
theorem dX7_readClaim_25 : decode cX7_readClaim 25 = .ok (.goto (-23), 3) := by decide +kernel
theorem dX7_readClaim_28 : decode cX7_readClaim 28 = .ok (.aload_n 0, 1) := by decide +kernel
theorem dX7_readClaim_29 : decode cX7_readClaim 29 = .ok (.getfield 53, 3) := by decide +kernel
theorem dX7_readClaim_32 : decode cX7_readClaim 32 = .ok (.sipush 137, 3) := by decide +kernel
theorem dX7_readClaim_35 : decode cX7_readClaim 35 = .ok (.if_icmp .eq 12, 3) := by decide +kernel
theorem dX7_readClaim_38 : decode cX7_readClaim 38 = .ok (.aload_n 0, 1) := by decide +kernel
theorem dX7_readClaim_39 : decode cX7_readClaim 39 = .ok (.getfield 53, 3) := by decide +kernel
theorem dX7_readClaim_42 : decode cX7_readClaim 42 = .ok (.bipush 40, 2) := by decide +kernel
theorem dX7_readClaim_44 : decode cX7_readClaim 44 = .ok (.if_icmp .ne 15, 3) := by decide +kernel
theorem dX7_readClaim_47 : decode cX7_readClaim 47 = .ok (.iload_n 2, 1) := by decide +kernel
theorem dX7_readClaim_48 : decode cX7_readClaim 48 = .ok (.bipush 8, 2) := by decide +kernel
theorem dX7_readClaim_50 : decode cX7_readClaim 50 = .ok (.if_icmp .lt 9, 3) := by decide +kernel
theorem dX7_readClaim_53 : decode cX7_readClaim 53 = .ok (.aload_n 0, 1) := by decide +kernel
theorem dX7_readClaim_54 : decode cX7_readClaim 54 = .ok (.iconst 3, 1) := by decide +kernel
theorem dX7_readClaim_55 : decode cX7_readClaim 55 = .ok (.invokevirtual 98, 3) := by decide +kernel
theorem dX7_readClaim_58 : decode cX7_readClaim 58 = .ok (.ireturn, 1) := by decide +kernel
theorem dX7_readClaim_59 : decode cX7_readClaim 59 = .ok (.aload_n 0, 1) := by decide +kernel
theorem dX7_readClaim_60 : decode cX7_readClaim 60 = .ok (.getfield 53, 3) := by decide +kernel
theorem dX7_readClaim_63 : decode cX7_readClaim 63 = .ok (.bipush 40, 2) := by decide +kernel
theorem dX7_readClaim_65 : decode cX7_readClaim 65 = .ok (.if_icmp .ne 13, 3) := by decide +kernel
theorem dX7_readClaim_68 : decode cX7_readClaim 68 = .ok (.aload_n 0, 1) := by decide +kernel
theorem dX7_readClaim_69 : decode cX7_readClaim 69 = .ok (.iload_n 2, 1) := by decide +kernel
theorem dX7_readClaim_70 : decode cX7_readClaim 70 = .ok (.iconst 1, 1) := by decide +kernel
theorem dX7_readClaim_71 : decode cX7_readClaim 71 = .ok (.iadd, 1) := by decide +kernel
theorem dX7_readClaim_72 : decode cX7_readClaim 72 = .ok (.invokevirtual 129, 3) := by decide +kernel
theorem dX7_readClaim_75 : decode cX7_readClaim 75 = .ok (.goto 7, 3) := by decide +kernel
theorem dX7_readClaim_78 : decode cX7_readClaim 78 = .ok (.aload_n 0, 1) := by decide +kernel
theorem dX7_readClaim_79 : decode cX7_readClaim 79 = .ok (.invokevirtual 132, 3) := by decide +kernel
theorem dX7_readClaim_82 : decode cX7_readClaim 82 = .ok (.istore_n 3, 1) := by decide +kernel
theorem dX7_readClaim_83 : decode cX7_readClaim 83 = .ok (.iload_n 1, 1) := by decide +kernel
theorem dX7_readClaim_84 : decode cX7_readClaim 84 = .ok (.istore 4, 2) := by decide +kernel
theorem dX7_readClaim_86 : decode cX7_readClaim 86 = .ok (.iload 4, 2) := by decide +kernel
theorem dX7_readClaim_88 : decode cX7_readClaim 88 = .ok (.iload_n 2, 1) := by decide +kernel
theorem dX7_readClaim_89 : decode cX7_readClaim 89 = .ok (.if_icmp .ge 17, 3) := by decide +kernel
theorem dX7_readClaim_92 : decode cX7_readClaim 92 = .ok (.aload_n 0, 1) := by decide +kernel
theorem dX7_readClaim_93 : decode cX7_readClaim 93 = .ok (.sipush 137, 3) := by decide +kernel
theorem dX7_readClaim_96 : decode cX7_readClaim 96 = .ok (.iconst 0, 1) := by decide +kernel
theorem dX7_readClaim_97 : decode cX7_readClaim 97 = .ok (.invokevirtual 125, 3) := by decide +kernel
theorem dX7_readClaim_100 : decode cX7_readClaim 100 = .ok (.iinc 4 1, 3) := by decide +kernel
theorem dX7_readClaim_103 : decode cX7_readClaim 103 = .ok (.goto (-17), 3) := by decide +kernel
theorem dX7_readClaim_106 : decode cX7_readClaim 106 = .ok (.iload_n 3, 1) := by decide +kernel
theorem dX7_readClaim_107 : decode cX7_readClaim 107 = .ok (.ireturn, 1) := by decide +kernel
set_option maxHeartbeats 4000000 in
set_option maxRecDepth 100000 in
theorem c_X7_readClaim_h (l : Launch) (D : va_G) (tys : List (ClassId × FieldType)) (base : Nat) (d : Nat) (ihB : ∀ (G : iv_G) (h0 : Nat) (g_h0 : Nat → Int32) (r_h0 : Nat → Nat) (a_h0 : G h0 = some (7, g_h0, r_h0)) (n_g_h0 : iv_R 0 400 (g_h0 1)) (x_0 : Int32) (i_x_0 : iv_R 1 8 x_0) (hd : (9 - x_0.toInt).toNat ≤ d), Met l yX7_readBracket (Cond.code yX7_readBracket cX7_readBracket 2 (some .boolean) :: iv_W0) ({ frames := 4 + 3 * d, cells := 0, slots := 0, locals := 90 + 70 * d }) (iv_Pc iv_sh D classes tys base G [.ref h0, .int x_0]) (iv_Qi iv_sh D classes tys base (fun v G' => iv_Md [7, 37, 38] G G' ∧ iv_R 0 1 v)) 0 0 (iv_A base)) (G : iv_G) (h0 : Nat) (g_h0 : Nat → Int32) (r_h0 : Nat → Nat) (a_h0 : G h0 = some (7, g_h0, r_h0)) (n_g_h0 : iv_R 0 400 (g_h0 1)) (x_0 : Int32) (i_x_0 : iv_R 0 8 x_0) (hd : (8 - x_0.toInt).toNat ≤ d) : Met l yX7_readClaim (Cond.code yX7_readClaim cX7_readClaim 5 (some .boolean) :: iv_W0) ({ frames := 5 + 3 * d, cells := 0, slots := 0, locals := 111 + 70 * d }) (iv_Pc iv_sh D classes tys base G [.ref h0, .int x_0]) (iv_Qi iv_sh D classes tys base (fun v G' => iv_Md [7, 37, 38] G G' ∧ iv_R 0 1 v)) 0 0 (iv_A base) := by
  refine iv_head (by decide) (Nat.le_of_ble_eq_true rfl) ?_
  intro p e s m args below meth c ls X hr hlocks hname hB hl
  have X := X
  have hx := X.1.1
  have hb := X.1.2.1
  have hM : iv_Md [7, 37, 38] G G := iv_Md.rf
  have hl : lv_has ls 5 [(0, .ref h0), (1, .int x_0)] := hl
  refine lv_iload_n hx hb dX7_readClaim_0 rfl (lv_at hl 1 rfl) ?_
  refine lv_istore_n (lv' := [(2, .int x_0), (0, .ref h0), (1, .int x_0)]) hx hb dX7_readClaim_1 rfl hl (by decide) rfl (fun ls hl => ?_)
  have L_2 : ∀ (n_2 : Nat) (G4 : iv_G) (hM : iv_Md [7, 37, 38] G G4) (H : Heap) (locs : List Loc) (hB : iv_B iv_sh D classes tys base G4 s.heap H locs) (g2 : Nat → Int32) (r3 : Nat → Nat) (a_h0 : G4 h0 = some (7, g2, r3)) (n_g2 : iv_R 0 400 (g2 1)) (x1 : Int32) (i_x1 : iv_R 0 8 x1) (hn_2 : (9 - x1.toInt).toNat < n_2) (inv_2 : x_0.toInt ≤ x1.toInt) (ls : Array Slot) (hl : lv_has ls 5 [(2, .int x1), (0, .ref h0), (1, .int x_0)]), W p l e ({ frames := 5 + 3 * d, cells := 0, slots := 0, locals := 111 + 70 * d } : Room) s m args below meth c H locs 0 0 (MQ below (iv_Qi iv_sh D classes tys base (fun v G' => iv_Md [7, 37, 38] G G' ∧ iv_R 0 1 v)) args s 0 0 (iv_A base)) (F0 m 2 ls []) := by
    intro n_2
    induction n_2 with
    | zero => intro G4 hM H locs hB g2 r3 a_h0 n_g2 x1 i_x1 hn_2 inv_2 ls hl; exact absurd hn_2 (Nat.not_lt_zero _)
    | succ n_2 ih_2 =>
      intro G4 hM H locs hB g2 r3 a_h0 n_g2 x1 i_x1 hn_2 inv_2 ls hl
      refine lv_aload_n hx hb dX7_readClaim_2 rfl (lv_at hl 1 rfl) ?_
      refine iv_geti X ft_X7 hB a_h0 sh_7 2 (by decide) rfl k_fl_X7_53 dX7_readClaim_3 (fun x5 e_x5 i_x5 => ?_)
      refine lv_sipush (v := 137) hx hb dX7_readClaim_6 (by decide) ?_
      refine lv_icmp_ne (tgt := 28) hx hb dX7_readClaim_9 (by decide) (fun c6 => ?_) (fun c6 => ?_)
      · skip
        refine lv_aload_n hx hb dX7_readClaim_28 rfl (lv_at hl 1 rfl) ?_
        refine iv_geti0 X ft_X7 hB a_h0 sh_7 2 (by decide) rfl k_fl_X7_53 dX7_readClaim_29 e_x5 ?_
        refine lv_sipush (v := 137) hx hb dX7_readClaim_32 (by decide) ?_
        refine lv_icmp_eq (tgt := 47) hx hb dX7_readClaim_35 (by decide) (fun c7 => ?_) (fun c7 => ?_)
        · skip
          exact absurd c7 c6
        · skip
          refine lv_aload_n hx hb dX7_readClaim_38 rfl (lv_at hl 1 rfl) ?_
          refine iv_geti0 X ft_X7 hB a_h0 sh_7 2 (by decide) rfl k_fl_X7_53 dX7_readClaim_39 e_x5 ?_
          refine lv_bipush (v := 40) hx hb dX7_readClaim_42 (by decide) ?_
          refine lv_icmp_ne (tgt := 59) hx hb dX7_readClaim_44 (by decide) (fun c8 => ?_) (fun c8 => ?_)
          · skip
            refine lv_aload_n hx hb dX7_readClaim_59 rfl (lv_at hl 1 rfl) ?_
            refine iv_geti0 X ft_X7 hB a_h0 sh_7 2 (by decide) rfl k_fl_X7_53 dX7_readClaim_60 e_x5 ?_
            refine lv_bipush (v := 40) hx hb dX7_readClaim_63 (by decide) ?_
            refine lv_icmp_ne (tgt := 78) hx hb dX7_readClaim_65 (by decide) (fun c9 => ?_) (fun c9 => ?_)
            · skip
              refine lv_aload_n hx hb dX7_readClaim_78 rfl (lv_at hl 1 rfl) ?_
              refine iv_cVi X k_good k_mf_X7_readComparison k_im_X7_readComparison k_sel_X7_readComparison k_ml_X7_132 ft_X7 hB a_h0 sh_7 (As := []) (c_X7_readComparison l D tys base G4 h0 g2 r3 a_h0 n_g2) ⟨rfl, rfl⟩ ⟨by dsimp only; omega, by dsimp only; omega⟩ ⟨Nat.le_of_ble_eq_true rfl, Nat.le_of_ble_eq_true rfl⟩ rfl rfl hl.1 (Nat.le_of_ble_eq_true rfl) dX7_readClaim_79 (fun x10 G9 H locs hq hB => ?_)
              obtain ⟨hm, i_x10⟩ := hq
              obtain ⟨G11, hG9⟩ : ∃ g, g = G9 := ⟨_, rfl⟩
              rw [← hG9] at hm hB
              have hM := hM.stp hm (by decide)
              obtain ⟨g12, r13, a_h0, f_g12⟩ := hm.ex a_h0
              have n_g12 := iv_nxt hB a_h0 f_g12 n_g2
              refine lv_istore_n (lv' := [(3, .int x10), (2, .int x1), (0, .ref h0), (1, .int x_0)]) hx hb dX7_readClaim_82 rfl hl (by decide) rfl (fun ls hl => ?_)
              refine lv_iload_n hx hb dX7_readClaim_83 rfl (lv_at hl 3 rfl) ?_
              refine lv_istore (lv' := [(4, .int x_0), (3, .int x10), (2, .int x1), (0, .ref h0), (1, .int x_0)]) hx hb dX7_readClaim_84 hl (by decide) rfl (fun ls hl => ?_)
              have L_86 : ∀ (n_86 : Nat) (G17 : iv_G) (hM : iv_Md [7, 37, 38] G G17) (H : Heap) (locs : List Loc) (hB : iv_B iv_sh D classes tys base G17 s.heap H locs) (g15 : Nat → Int32) (r16 : Nat → Nat) (a_h0 : G17 h0 = some (7, g15, r16)) (n_g15 : iv_R 0 400 (g15 1)) (x14 : Int32) (i_x14 : iv_R 0 8 x14) (hn_86 : (9 - x14.toInt).toNat < n_86) (ls : Array Slot) (hl : lv_has ls 5 [(4, .int x14), (3, .int x10), (2, .int x1), (0, .ref h0)]), W p l e ({ frames := 5 + 3 * d, cells := 0, slots := 0, locals := 111 + 70 * d } : Room) s m args below meth c H locs 0 0 (MQ below (iv_Qi iv_sh D classes tys base (fun v G' => iv_Md [7, 37, 38] G G' ∧ iv_R 0 1 v)) args s 0 0 (iv_A base)) (F0 m 86 ls []) := by
                intro n_86
                induction n_86 with
                | zero => intro G17 hM H locs hB g15 r16 a_h0 n_g15 x14 i_x14 hn_86 ls hl; exact absurd hn_86 (Nat.not_lt_zero _)
                | succ n_86 ih_86 =>
                  intro G17 hM H locs hB g15 r16 a_h0 n_g15 x14 i_x14 hn_86 ls hl
                  refine lv_iload hx hb dX7_readClaim_86 (lv_at hl 0 rfl) ?_
                  refine lv_iload_n hx hb dX7_readClaim_88 rfl (lv_at hl 2 rfl) ?_
                  refine lv_icmp_ge (tgt := 106) hx hb dX7_readClaim_89 (by decide) (fun c18 => ?_) (fun c18 => ?_)
                  · skip
                    refine lv_iload_n hx hb dX7_readClaim_106 rfl (lv_at hl 1 rfl) ?_
                    exact iv_zret X hr hlocks hB i_x10 ⟨hM, i_x10⟩ dX7_readClaim_107
                  · skip
                    have i18_x14 : iv_R 0 7 x14 := (i_x14.cutHi (n := 7) (iv_lt_r (iv_nle c18) i_x1 (by decide)))
                    have i19_x1 : iv_R 1 8 x1 := (i_x1.cutLo (n := 1) (iv_lt_l (iv_nle c18) i_x14 (by decide)))
                    refine lv_aload_n hx hb dX7_readClaim_92 rfl (lv_at hl 3 rfl) ?_
                    refine lv_sipush (v := 137) hx hb dX7_readClaim_93 (by decide) ?_
                    refine lv_iconst (v := 0) hx hb dX7_readClaim_96 (by decide) ?_
                    refine iv_cVv X k_good k_mf_X7_emit k_im_X7_emit k_sel_X7_emit k_ml_X7_125 ft_X7 hB a_h0 sh_7 (As := [.int 137, .int 0]) (c_X7_emit l D tys base G17 h0 g15 r16 a_h0 137 (q_137.wk (by decide)) 0 (q_0.wk (by decide))) ⟨rfl, rfl⟩ ⟨by dsimp only; omega, by dsimp only; omega⟩ ⟨Nat.le_of_ble_eq_true rfl, Nat.le_of_ble_eq_true rfl⟩ rfl rfl hl.1 (Nat.le_of_ble_eq_true rfl) dX7_readClaim_97 (fun G9 H locs hq hB => ?_)
                    have hm := hq
                    obtain ⟨G21, hG9⟩ : ∃ g, g = G9 := ⟨_, rfl⟩
                    rw [← hG9] at hm hB
                    have hM := hM.stp hm (by decide)
                    obtain ⟨g22, r23, a_h0, f_g22⟩ := hm.ex a_h0
                    have n_g22 := iv_nxt hB a_h0 f_g22 n_g15
                    refine iv_iinc hx hb i18_x14 (lo := 1) (hi := 8) (by decide) dX7_readClaim_100 hl (k := 0) rfl (by decide) (fun x24 ls e_x24 i_x24 hl => ?_)
                    have hl : lv_has ls 5 [(4, .int x24), (3, .int x10), (2, .int x1), (0, .ref h0)] := hl
                    refine lv_goto (tgt := 86) hx hb dX7_readClaim_103 (by decide) ?_
                    exact ih_86 G21 hM _ _ hB g22 r23 a_h0 n_g22 x24 (i_x24.wk (by decide)) (iv_mup (c := 1) i_x14 (by decide) (by decide) (by omega) hn_86) _ (lv_sub hl [0, 1, 2, 3] rfl)
              exact L_86 _ G11 hM _ _ hB g12 r13 a_h0 n_g12 x_0 i_x_0 (Nat.lt_succ_self _) _ (lv_sub hl [0, 1, 2, 3] rfl)
            · skip
              exact absurd c9 c8
          · skip
            have i24_x5 : iv_R 40 40 x5 := ((i_x5.cutLo (n := 40) (iv_eq_r c8 q_40).1).cutHi (n := 40) (iv_eq_r c8 q_40).2)
            refine lv_iload_n hx hb dX7_readClaim_47 rfl (lv_at hl 0 rfl) ?_
            refine lv_bipush (v := 8) hx hb dX7_readClaim_48 (by decide) ?_
            refine lv_icmp_lt (tgt := 59) hx hb dX7_readClaim_50 (by decide) (fun c26 => ?_) (fun c26 => ?_)
            · skip
              have i26_x1 : iv_R 0 7 x1 := (i_x1.cutHi (n := 7) (iv_lt_r c26 q_8 (by decide)))
              refine lv_aload_n hx hb dX7_readClaim_59 rfl (lv_at hl 1 rfl) ?_
              refine iv_geti0 X ft_X7 hB a_h0 sh_7 2 (by decide) rfl k_fl_X7_53 dX7_readClaim_60 e_x5 ?_
              refine lv_bipush (v := 40) hx hb dX7_readClaim_63 (by decide) ?_
              refine lv_icmp_ne (tgt := 78) hx hb dX7_readClaim_65 (by decide) (fun c28 => ?_) (fun c28 => ?_)
              · skip
                exact (iv_ne_lo c28 i24_x5 q_40 (a' := 41) (by decide)).no (by decide)
              · skip
                refine lv_aload_n hx hb dX7_readClaim_68 rfl (lv_at hl 1 rfl) ?_
                refine lv_iload_n hx hb dX7_readClaim_69 rfl (lv_at hl 0 rfl) ?_
                refine lv_iconst (v := 1) hx hb dX7_readClaim_70 (by decide) ?_
                refine iv_iadd hx hb i26_x1 q_1 (lo := 1) (hi := 8) (by decide) dX7_readClaim_71 (fun x29 e_x29 i_x29 => ?_)
                have e_x29 : x29.toInt = x1.toInt + 1 := e_x29
                refine iv_cVi X k_good k_mf_X7_readBracket k_im_X7_readBracket k_sel_X7_readBracket k_ml_X7_129 ft_X7 hB a_h0 sh_7 (As := [.int x29]) (ihB G4 h0 g2 r3 a_h0 n_g2 x29 i_x29 (by have e8 := i_x_0.2; have e9 : x29.toInt = x1.toInt + 1 := e_x29; omega)) ⟨rfl, rfl⟩ ⟨by dsimp only; omega, by dsimp only; omega⟩ ⟨Nat.le_of_ble_eq_true rfl, Nat.le_of_ble_eq_true rfl⟩ rfl rfl hl.1 (Nat.le_of_ble_eq_true rfl) dX7_readClaim_72 (fun x30 G9 H locs hq hB => ?_)
                obtain ⟨hm, i_x30⟩ := hq
                obtain ⟨G31, hG9⟩ : ∃ g, g = G9 := ⟨_, rfl⟩
                rw [← hG9] at hm hB
                have hM := hM.stp hm (by decide)
                obtain ⟨g32, r33, a_h0, f_g32⟩ := hm.ex a_h0
                have n_g32 := iv_nxt hB a_h0 f_g32 n_g2
                refine lv_goto (tgt := 82) hx hb dX7_readClaim_75 (by decide) ?_
                refine lv_istore_n (lv' := [(3, .int x30), (2, .int x1), (0, .ref h0), (1, .int x_0)]) hx hb dX7_readClaim_82 rfl hl (by decide) rfl (fun ls hl => ?_)
                refine lv_iload_n hx hb dX7_readClaim_83 rfl (lv_at hl 3 rfl) ?_
                refine lv_istore (lv' := [(4, .int x_0), (3, .int x30), (2, .int x1), (0, .ref h0), (1, .int x_0)]) hx hb dX7_readClaim_84 hl (by decide) rfl (fun ls hl => ?_)
                have L_86 : ∀ (n_86 : Nat) (G37 : iv_G) (hM : iv_Md [7, 37, 38] G G37) (H : Heap) (locs : List Loc) (hB : iv_B iv_sh D classes tys base G37 s.heap H locs) (g35 : Nat → Int32) (r36 : Nat → Nat) (a_h0 : G37 h0 = some (7, g35, r36)) (n_g35 : iv_R 0 400 (g35 1)) (x34 : Int32) (i_x34 : iv_R 0 8 x34) (hn_86 : (9 - x34.toInt).toNat < n_86) (ls : Array Slot) (hl : lv_has ls 5 [(4, .int x34), (3, .int x30), (2, .int x1), (0, .ref h0)]), W p l e ({ frames := 5 + 3 * d, cells := 0, slots := 0, locals := 111 + 70 * d } : Room) s m args below meth c H locs 0 0 (MQ below (iv_Qi iv_sh D classes tys base (fun v G' => iv_Md [7, 37, 38] G G' ∧ iv_R 0 1 v)) args s 0 0 (iv_A base)) (F0 m 86 ls []) := by
                  intro n_86
                  induction n_86 with
                  | zero => intro G37 hM H locs hB g35 r36 a_h0 n_g35 x34 i_x34 hn_86 ls hl; exact absurd hn_86 (Nat.not_lt_zero _)
                  | succ n_86 ih_86 =>
                    intro G37 hM H locs hB g35 r36 a_h0 n_g35 x34 i_x34 hn_86 ls hl
                    refine lv_iload hx hb dX7_readClaim_86 (lv_at hl 0 rfl) ?_
                    refine lv_iload_n hx hb dX7_readClaim_88 rfl (lv_at hl 2 rfl) ?_
                    refine lv_icmp_ge (tgt := 106) hx hb dX7_readClaim_89 (by decide) (fun c38 => ?_) (fun c38 => ?_)
                    · skip
                      refine lv_iload_n hx hb dX7_readClaim_106 rfl (lv_at hl 1 rfl) ?_
                      exact iv_zret X hr hlocks hB i_x30 ⟨hM, i_x30⟩ dX7_readClaim_107
                    · skip
                      have i38_x34 : iv_R 0 6 x34 := (i_x34.cutHi (n := 6) (iv_lt_r (iv_nle c38) i26_x1 (by decide)))
                      have i39_x1 : iv_R 1 7 x1 := (i26_x1.cutLo (n := 1) (iv_lt_l (iv_nle c38) i_x34 (by decide)))
                      refine lv_aload_n hx hb dX7_readClaim_92 rfl (lv_at hl 3 rfl) ?_
                      refine lv_sipush (v := 137) hx hb dX7_readClaim_93 (by decide) ?_
                      refine lv_iconst (v := 0) hx hb dX7_readClaim_96 (by decide) ?_
                      refine iv_cVv X k_good k_mf_X7_emit k_im_X7_emit k_sel_X7_emit k_ml_X7_125 ft_X7 hB a_h0 sh_7 (As := [.int 137, .int 0]) (c_X7_emit l D tys base G37 h0 g35 r36 a_h0 137 (q_137.wk (by decide)) 0 (q_0.wk (by decide))) ⟨rfl, rfl⟩ ⟨by dsimp only; omega, by dsimp only; omega⟩ ⟨Nat.le_of_ble_eq_true rfl, Nat.le_of_ble_eq_true rfl⟩ rfl rfl hl.1 (Nat.le_of_ble_eq_true rfl) dX7_readClaim_97 (fun G9 H locs hq hB => ?_)
                      have hm := hq
                      obtain ⟨G41, hG9⟩ : ∃ g, g = G9 := ⟨_, rfl⟩
                      rw [← hG9] at hm hB
                      have hM := hM.stp hm (by decide)
                      obtain ⟨g42, r43, a_h0, f_g42⟩ := hm.ex a_h0
                      have n_g42 := iv_nxt hB a_h0 f_g42 n_g35
                      refine iv_iinc hx hb i38_x34 (lo := 1) (hi := 7) (by decide) dX7_readClaim_100 hl (k := 0) rfl (by decide) (fun x44 ls e_x44 i_x44 hl => ?_)
                      have hl : lv_has ls 5 [(4, .int x44), (3, .int x30), (2, .int x1), (0, .ref h0)] := hl
                      refine lv_goto (tgt := 86) hx hb dX7_readClaim_103 (by decide) ?_
                      exact ih_86 G41 hM _ _ hB g42 r43 a_h0 n_g42 x44 (i_x44.wk (by decide)) (iv_mup (c := 1) i_x34 (by decide) (by decide) (by omega) hn_86) _ (lv_sub hl [0, 1, 2, 3] rfl)
                exact L_86 _ G31 hM _ _ hB g32 r33 a_h0 n_g32 x_0 i_x_0 (Nat.lt_succ_self _) _ (lv_sub hl [0, 1, 2, 3] rfl)
            · skip
              have i44_x1 : iv_R 8 8 x1 := (i_x1.cutLo (n := 8) (iv_le_l (iv_nlt c26) q_8))
              refine lv_aload_n hx hb dX7_readClaim_53 rfl (lv_at hl 1 rfl) ?_
              refine lv_iconst (v := 3) hx hb dX7_readClaim_54 (by decide) ?_
              refine iv_cVi X k_good k_mf_X7_refuse k_im_X7_refuse k_sel_X7_refuse k_ml_X7_98 ft_X7 hB a_h0 sh_7 (As := [.int 3]) (c_X7_refuse l D tys base G4 h0 g2 r3 a_h0 n_g2 3 (q_3.wk (by decide))) ⟨rfl, rfl⟩ ⟨by dsimp only; omega, by dsimp only; omega⟩ ⟨Nat.le_of_ble_eq_true rfl, Nat.le_of_ble_eq_true rfl⟩ rfl rfl hl.1 (Nat.le_of_ble_eq_true rfl) dX7_readClaim_55 (fun x46 G9 H locs hq hB => ?_)
              obtain ⟨hm, i_x46⟩ := hq
              obtain ⟨G47, hG9⟩ : ∃ g, g = G9 := ⟨_, rfl⟩
              rw [← hG9] at hm hB
              have hM := hM.stp hm (by decide)
              obtain ⟨g48, r49, a_h0, f_g48⟩ := hm.ex a_h0
              have n_g48 := iv_nxt hB a_h0 f_g48 n_g2
              exact iv_zret X hr hlocks hB (i_x46.wk (by decide)) ⟨hM, (i_x46.wk (by decide))⟩ dX7_readClaim_58
      · skip
        have i49_x5 : iv_R 137 137 x5 := ((i_x5.cutLo (n := 137) (iv_eq_r c6 q_137).1).cutHi (n := 137) (iv_eq_r c6 q_137).2)
        refine lv_iload_n hx hb dX7_readClaim_12 rfl (lv_at hl 0 rfl) ?_
        refine lv_bipush (v := 8) hx hb dX7_readClaim_13 (by decide) ?_
        refine lv_icmp_ge (tgt := 28) hx hb dX7_readClaim_15 (by decide) (fun c51 => ?_) (fun c51 => ?_)
        · skip
          have i51_x1 : iv_R 8 8 x1 := (i_x1.cutLo (n := 8) (iv_le_l c51 q_8))
          refine lv_aload_n hx hb dX7_readClaim_28 rfl (lv_at hl 1 rfl) ?_
          refine iv_geti0 X ft_X7 hB a_h0 sh_7 2 (by decide) rfl k_fl_X7_53 dX7_readClaim_29 e_x5 ?_
          refine lv_sipush (v := 137) hx hb dX7_readClaim_32 (by decide) ?_
          refine lv_icmp_eq (tgt := 47) hx hb dX7_readClaim_35 (by decide) (fun c53 => ?_) (fun c53 => ?_)
          · skip
            refine lv_iload_n hx hb dX7_readClaim_47 rfl (lv_at hl 0 rfl) ?_
            refine lv_bipush (v := 8) hx hb dX7_readClaim_48 (by decide) ?_
            refine lv_icmp_lt (tgt := 59) hx hb dX7_readClaim_50 (by decide) (fun c54 => ?_) (fun c54 => ?_)
            · skip
              exact (i51_x1.cutHi (n := 7) (iv_lt_r c54 q_8 (by decide))).no (by decide)
            · skip
              refine lv_aload_n hx hb dX7_readClaim_53 rfl (lv_at hl 1 rfl) ?_
              refine lv_iconst (v := 3) hx hb dX7_readClaim_54 (by decide) ?_
              refine iv_cVi X k_good k_mf_X7_refuse k_im_X7_refuse k_sel_X7_refuse k_ml_X7_98 ft_X7 hB a_h0 sh_7 (As := [.int 3]) (c_X7_refuse l D tys base G4 h0 g2 r3 a_h0 n_g2 3 (q_3.wk (by decide))) ⟨rfl, rfl⟩ ⟨by dsimp only; omega, by dsimp only; omega⟩ ⟨Nat.le_of_ble_eq_true rfl, Nat.le_of_ble_eq_true rfl⟩ rfl rfl hl.1 (Nat.le_of_ble_eq_true rfl) dX7_readClaim_55 (fun x55 G9 H locs hq hB => ?_)
              obtain ⟨hm, i_x55⟩ := hq
              obtain ⟨G56, hG9⟩ : ∃ g, g = G9 := ⟨_, rfl⟩
              rw [← hG9] at hm hB
              have hM := hM.stp hm (by decide)
              obtain ⟨g57, r58, a_h0, f_g57⟩ := hm.ex a_h0
              have n_g57 := iv_nxt hB a_h0 f_g57 n_g2
              exact iv_zret X hr hlocks hB (i_x55.wk (by decide)) ⟨hM, (i_x55.wk (by decide))⟩ dX7_readClaim_58
          · skip
            exact (iv_ne_lo c53 i49_x5 q_137 (a' := 138) (by decide)).no (by decide)
        · skip
          have i58_x1 : iv_R 0 7 x1 := (i_x1.cutHi (n := 7) (iv_lt_r (iv_nle c51) q_8 (by decide)))
          refine iv_iinc hx hb i58_x1 (lo := 1) (hi := 8) (by decide) dX7_readClaim_18 hl (k := 0) rfl (by decide) (fun x60 ls e_x60 i_x60 hl => ?_)
          have hl : lv_has ls 5 [(2, .int x60), (0, .ref h0), (1, .int x_0)] := hl
          refine lv_aload_n hx hb dX7_readClaim_21 rfl (lv_at hl 1 rfl) ?_
          refine iv_cVv X k_good k_mf_X7_step k_im_X7_step k_sel_X7_step k_ml_X7_83 ft_X7 hB a_h0 sh_7 (As := []) (c_X7_step l D tys base G4 h0 g2 r3 a_h0) ⟨rfl, rfl⟩ ⟨by dsimp only; omega, by dsimp only; omega⟩ ⟨Nat.le_of_ble_eq_true rfl, Nat.le_of_ble_eq_true rfl⟩ rfl rfl hl.1 (Nat.le_of_ble_eq_true rfl) dX7_readClaim_22 (fun G9 H locs hq hB => ?_)
          obtain ⟨hm, vg⟩ := hq
          obtain ⟨G61, hG9⟩ : ∃ g, g = G9 := ⟨_, rfl⟩
          rw [← hG9] at hm hB vg
          have hM := hM.stp hm (by decide)
          obtain ⟨g62, r63, a_h0, f_g62⟩ := hm.ex a_h0
          have n_g62 := iv_nxt hB a_h0 f_g62 n_g2
          have vg64 := vg _ _ a_h0
          refine lv_goto (tgt := 2) hx hb dX7_readClaim_25 (by decide) ?_
          exact ih_2 G61 hM _ _ hB g62 r63 a_h0 vg64 x60 (i_x60.wk (by decide)) (iv_mup (c := 1) i_x1 (by decide) (by decide) (by omega) hn_2) (by omega) _ (lv_sub hl [0, 1, 2] rfl)
  exact L_2 _ G hM _ _ hB g_h0 r_h0 a_h0 n_g_h0 x_0 i_x_0 (Nat.lt_succ_self _) (Int.le_refl _) _ (lv_sub hl [0, 1, 2] rfl)
theorem dX7_readChoice_0 : decode cX7_readChoice 0 = .ok (.iconst 0, 1) := by decide +kernel
theorem dX7_readChoice_1 : decode cX7_readChoice 1 = .ok (.istore_n 2, 1) := by decide +kernel
theorem dX7_readChoice_2 : decode cX7_readChoice 2 = .ok (.aload_n 0, 1) := by decide +kernel
theorem dX7_readChoice_3 : decode cX7_readChoice 3 = .ok (.iload_n 1, 1) := by decide +kernel
theorem dX7_readChoice_4 : decode cX7_readChoice 4 = .ok (.invokevirtual 118, 3) := by decide +kernel
theorem dX7_readChoice_7 : decode cX7_readChoice 7 = .ok (.istore_n 3, 1) := by decide +kernel
theorem dX7_readChoice_8 : decode cX7_readChoice 8 = .ok (.iconst 0, 1) := by decide +kernel
theorem dX7_readChoice_9 : decode cX7_readChoice 9 = .ok (.istore 4, 2) := by decide +kernel
theorem dX7_readChoice_11 : decode cX7_readChoice 11 = .ok (.iload 4, 2) := by decide +kernel
theorem dX7_readChoice_13 : decode cX7_readChoice 13 = .ok (.sipush 400, 3) := by decide +kernel
theorem dX7_readChoice_16 : decode cX7_readChoice 16 = .ok (.if_icmp .ge 82, 3) := by decide +kernel
theorem dX7_readChoice_19 : decode cX7_readChoice 19 = .ok (.iload_n 3, 1) := by decide +kernel
theorem dX7_readChoice_20 : decode cX7_readChoice 20 = .ok (.ifCond .eq 78, 3) := by decide +kernel
theorem dX7_readChoice_23 : decode cX7_readChoice 23 = .ok (.aload_n 0, 1) := by decide +kernel
theorem dX7_readChoice_24 : decode cX7_readChoice 24 = .ok (.getfield 53, 3) := by decide +kernel
theorem dX7_readChoice_27 : decode cX7_readChoice 27 = .ok (.sipush 136, 3) := by decide +kernel
theorem dX7_readChoice_30 : decode cX7_readChoice 30 = .ok (.if_icmp .eq 13, 3) := by decide +kernel
theorem dX7_readChoice_33 : decode cX7_readChoice 33 = .ok (.aload_n 0, 1) := by decide +kernel
theorem dX7_readChoice_34 : decode cX7_readChoice 34 = .ok (.getfield 53, 3) := by decide +kernel
theorem dX7_readChoice_37 : decode cX7_readChoice 37 = .ok (.sipush 135, 3) := by decide +kernel
theorem dX7_readChoice_40 : decode cX7_readChoice 40 = .ok (.if_icmp .ne 58, 3) := by decide +kernel
theorem dX7_readChoice_43 : decode cX7_readChoice 43 = .ok (.aload_n 0, 1) := by decide +kernel
theorem dX7_readChoice_44 : decode cX7_readChoice 44 = .ok (.getfield 53, 3) := by decide +kernel
theorem dX7_readChoice_47 : decode cX7_readChoice 47 = .ok (.istore 5, 2) := by decide +kernel
theorem dX7_readChoice_49 : decode cX7_readChoice 49 = .ok (.aload_n 0, 1) := by decide +kernel
theorem dX7_readChoice_50 : decode cX7_readChoice 50 = .ok (.invokevirtual 83, 3) := by decide +kernel
theorem dX7_readChoice_53 : decode cX7_readChoice 53 = .ok (.iload 5, 2) := by decide +kernel
theorem dX7_readChoice_55 : decode cX7_readChoice 55 = .ok (.sipush 135, 3) := by decide +kernel
theorem dX7_readChoice_58 : decode cX7_readChoice 58 = .ok (.if_icmp .ne 12, 3) := by decide +kernel
theorem dX7_readChoice_61 : decode cX7_readChoice 61 = .ok (.aload_n 0, 1) := by decide +kernel
theorem dX7_readChoice_62 : decode cX7_readChoice 62 = .ok (.iload_n 2, 1) := by decide +kernel
theorem dX7_readChoice_63 : decode cX7_readChoice 63 = .ok (.invokevirtual 121, 3) := by decide +kernel
theorem dX7_readChoice_66 : decode cX7_readChoice 66 = .ok (.sipush 135, 3) := by decide +kernel
theorem dX7_readChoice_69 : decode cX7_readChoice 69 = .ok (.istore_n 2, 1) := by decide +kernel
theorem dX7_readChoice_70 : decode cX7_readChoice 70 = .ok (.aload_n 0, 1) := by decide +kernel
theorem dX7_readChoice_71 : decode cX7_readChoice 71 = .ok (.iload_n 1, 1) := by decide +kernel
theorem dX7_readChoice_72 : decode cX7_readChoice 72 = .ok (.invokevirtual 118, 3) := by decide +kernel
theorem dX7_readChoice_75 : decode cX7_readChoice 75 = .ok (.istore_n 3, 1) := by decide +kernel
theorem dX7_readChoice_76 : decode cX7_readChoice 76 = .ok (.iload 5, 2) := by decide +kernel
theorem dX7_readChoice_78 : decode cX7_readChoice 78 = .ok (.sipush 136, 3) := by decide +kernel
theorem dX7_readChoice_81 : decode cX7_readChoice 81 = .ok (.if_icmp .ne 11, 3) := by decide +kernel
theorem dX7_readChoice_84 : decode cX7_readChoice 84 = .ok (.aload_n 0, 1) := by decide +kernel
theorem dX7_readChoice_85 : decode cX7_readChoice 85 = .ok (.sipush 136, 3) := by decide +kernel
theorem dX7_readChoice_88 : decode cX7_readChoice 88 = .ok (.iconst 0, 1) := by decide +kernel
theorem dX7_readChoice_89 : decode cX7_readChoice 89 = .ok (.invokevirtual 125, 3) := by decide +kernel
theorem dX7_readChoice_92 : decode cX7_readChoice 92 = .ok (.iinc 4 1, 3) := by decide +kernel
theorem dX7_readChoice_95 : decode cX7_readChoice 95 = .ok (.goto (-84), 3) := by decide +kernel
theorem dX7_readChoice_98 : decode cX7_readChoice 98 = .ok (.aload_n 0, 1) := by decide +kernel
theorem dX7_readChoice_99 : decode cX7_readChoice 99 = .ok (.iload_n 2, 1) := by decide +kernel
theorem dX7_readChoice_100 : decode cX7_readChoice 100 = .ok (.invokevirtual 121, 3) := by decide +kernel
theorem dX7_readChoice_103 : decode cX7_readChoice 103 = .ok (.iload_n 3, 1) := by decide +kernel
theorem dX7_readChoice_104 : decode cX7_readChoice 104 = .ok (.ireturn, 1) := by decide +kernel
set_option maxHeartbeats 4000000 in
set_option maxRecDepth 100000 in
theorem c_X7_readChoice_h (l : Launch) (D : va_G) (tys : List (ClassId × FieldType)) (base : Nat) (d : Nat) (ihB : ∀ (G : iv_G) (h0 : Nat) (g_h0 : Nat → Int32) (r_h0 : Nat → Nat) (a_h0 : G h0 = some (7, g_h0, r_h0)) (n_g_h0 : iv_R 0 400 (g_h0 1)) (x_0 : Int32) (i_x_0 : iv_R 1 8 x_0) (hd : (9 - x_0.toInt).toNat ≤ d), Met l yX7_readBracket (Cond.code yX7_readBracket cX7_readBracket 2 (some .boolean) :: iv_W0) ({ frames := 4 + 3 * d, cells := 0, slots := 0, locals := 90 + 70 * d }) (iv_Pc iv_sh D classes tys base G [.ref h0, .int x_0]) (iv_Qi iv_sh D classes tys base (fun v G' => iv_Md [7, 37, 38] G G' ∧ iv_R 0 1 v)) 0 0 (iv_A base)) (G : iv_G) (h0 : Nat) (g_h0 : Nat → Int32) (r_h0 : Nat → Nat) (a_h0 : G h0 = some (7, g_h0, r_h0)) (n_g_h0 : iv_R 0 400 (g_h0 1)) (x_0 : Int32) (i_x_0 : iv_R 0 8 x_0) (hd : (8 - x_0.toInt).toNat ≤ d) : Met l yX7_readChoice (Cond.code yX7_readChoice cX7_readChoice 6 (some .boolean) :: iv_W0) ({ frames := 6 + 3 * d, cells := 0, slots := 0, locals := 135 + 70 * d }) (iv_Pc iv_sh D classes tys base G [.ref h0, .int x_0]) (iv_Qi iv_sh D classes tys base (fun v G' => iv_Md [7, 37, 38] G G' ∧ iv_R 0 1 v)) 0 0 (iv_A base) := by
  refine iv_head (by decide) (Nat.le_of_ble_eq_true rfl) ?_
  intro p e s m args below meth c ls X hr hlocks hname hB hl
  have X := X
  have hx := X.1.1
  have hb := X.1.2.1
  have hM : iv_Md [7, 37, 38] G G := iv_Md.rf
  have hl : lv_has ls 6 [(0, .ref h0), (1, .int x_0)] := hl
  refine lv_iconst (v := 0) hx hb dX7_readChoice_0 (by decide) ?_
  refine lv_istore_n (lv' := [(2, .int 0), (0, .ref h0), (1, .int x_0)]) hx hb dX7_readChoice_1 rfl hl (by decide) rfl (fun ls hl => ?_)
  refine lv_aload_n hx hb dX7_readChoice_2 rfl (lv_at hl 1 rfl) ?_
  refine lv_iload_n hx hb dX7_readChoice_3 rfl (lv_at hl 2 rfl) ?_
  refine iv_cVi X k_good k_mf_X7_readClaim k_im_X7_readClaim k_sel_X7_readClaim k_ml_X7_118 ft_X7 hB a_h0 sh_7 (As := [.int x_0]) (c_X7_readClaim_h l D tys base d ihB G h0 g_h0 r_h0 a_h0 n_g_h0 x_0 i_x_0 (by have e8 := i_x_0.2; omega)) ⟨rfl, rfl⟩ ⟨by dsimp only; omega, by dsimp only; omega⟩ ⟨Nat.le_of_ble_eq_true rfl, Nat.le_of_ble_eq_true rfl⟩ rfl rfl hl.1 (Nat.le_of_ble_eq_true rfl) dX7_readChoice_4 (fun x1 G9 H locs hq hB => ?_)
  obtain ⟨hm, i_x1⟩ := hq
  obtain ⟨G2, hG9⟩ : ∃ g, g = G9 := ⟨_, rfl⟩
  rw [← hG9] at hm hB
  have hM := hM.stp hm (by decide)
  obtain ⟨g3, r4, a_h0, f_g3⟩ := hm.ex a_h0
  have n_g3 := iv_nxt hB a_h0 f_g3 n_g_h0
  refine lv_istore_n (lv' := [(3, .int x1), (2, .int 0), (0, .ref h0), (1, .int x_0)]) hx hb dX7_readChoice_7 rfl hl (by decide) rfl (fun ls hl => ?_)
  refine lv_iconst (v := 0) hx hb dX7_readChoice_8 (by decide) ?_
  refine lv_istore (lv' := [(4, .int 0), (3, .int x1), (2, .int 0), (0, .ref h0), (1, .int x_0)]) hx hb dX7_readChoice_9 hl (by decide) rfl (fun ls hl => ?_)
  have L_11 : ∀ (n_11 : Nat) (G10 : iv_G) (hM : iv_Md [7, 37, 38] G G10) (H : Heap) (locs : List Loc) (hB : iv_B iv_sh D classes tys base G10 s.heap H locs) (g8 : Nat → Int32) (r9 : Nat → Nat) (a_h0 : G10 h0 = some (7, g8, r9)) (n_g8 : iv_R 0 400 (g8 1)) (x5 : Int32) (i_x5 : iv_R 0 135 x5) (x6 : Int32) (i_x6 : iv_R 0 1 x6) (x7 : Int32) (i_x7 : iv_R 0 400 x7) (hn_11 : (401 - x7.toInt).toNat < n_11) (ls : Array Slot) (hl : lv_has ls 6 [(4, .int x7), (3, .int x6), (2, .int x5), (0, .ref h0), (1, .int x_0)]), W p l e ({ frames := 6 + 3 * d, cells := 0, slots := 0, locals := 135 + 70 * d } : Room) s m args below meth c H locs 0 0 (MQ below (iv_Qi iv_sh D classes tys base (fun v G' => iv_Md [7, 37, 38] G G' ∧ iv_R 0 1 v)) args s 0 0 (iv_A base)) (F0 m 11 ls []) := by
    intro n_11
    induction n_11 with
    | zero => intro G10 hM H locs hB g8 r9 a_h0 n_g8 x5 i_x5 x6 i_x6 x7 i_x7 hn_11 ls hl; exact absurd hn_11 (Nat.not_lt_zero _)
    | succ n_11 ih_11 =>
      intro G10 hM H locs hB g8 r9 a_h0 n_g8 x5 i_x5 x6 i_x6 x7 i_x7 hn_11 ls hl
      refine lv_iload hx hb dX7_readChoice_11 (lv_at hl 0 rfl) ?_
      refine lv_sipush (v := 400) hx hb dX7_readChoice_13 (by decide) ?_
      refine lv_icmp_ge (tgt := 98) hx hb dX7_readChoice_16 (by decide) (fun c11 => ?_) (fun c11 => ?_)
      · skip
        have i11_x7 : iv_R 400 400 x7 := (i_x7.cutLo (n := 400) (iv_le_l c11 q_400))
        refine lv_aload_n hx hb dX7_readChoice_98 rfl (lv_at hl 3 rfl) ?_
        refine lv_iload_n hx hb dX7_readChoice_99 rfl (lv_at hl 2 rfl) ?_
        refine iv_cVv X k_good k_mf_X7_emitWaiting k_im_X7_emitWaiting k_sel_X7_emitWaiting k_ml_X7_121 ft_X7 hB a_h0 sh_7 (As := [.int x5]) (c_X7_emitWaiting l D tys base G10 h0 g8 r9 a_h0 x5 i_x5) ⟨rfl, rfl⟩ ⟨by dsimp only; omega, by dsimp only; omega⟩ ⟨Nat.le_of_ble_eq_true rfl, Nat.le_of_ble_eq_true rfl⟩ rfl rfl hl.1 (Nat.le_of_ble_eq_true rfl) dX7_readChoice_100 (fun G9 H locs hq hB => ?_)
        have hm := hq
        obtain ⟨G13, hG9⟩ : ∃ g, g = G9 := ⟨_, rfl⟩
        rw [← hG9] at hm hB
        have hM := hM.stp hm (by decide)
        obtain ⟨g14, r15, a_h0, f_g14⟩ := hm.ex a_h0
        have n_g14 := iv_nxt hB a_h0 f_g14 n_g8
        refine lv_iload_n hx hb dX7_readChoice_103 rfl (lv_at hl 1 rfl) ?_
        exact iv_zret X hr hlocks hB i_x6 ⟨hM, i_x6⟩ dX7_readChoice_104
      · skip
        have i15_x7 : iv_R 0 399 x7 := (i_x7.cutHi (n := 399) (iv_lt_r (iv_nle c11) q_400 (by decide)))
        refine lv_iload_n hx hb dX7_readChoice_19 rfl (lv_at hl 1 rfl) ?_
        refine lv_if_eq (tgt := 98) hx hb dX7_readChoice_20 (by decide) (fun c17 => ?_) (fun c17 => ?_)
        · skip
          have i17_x6 : iv_R 0 0 x6 := (i_x6.cutHi (n := 0) (iv_eq_r c17 q_0).2)
          refine lv_aload_n hx hb dX7_readChoice_98 rfl (lv_at hl 3 rfl) ?_
          refine lv_iload_n hx hb dX7_readChoice_99 rfl (lv_at hl 2 rfl) ?_
          refine iv_cVv X k_good k_mf_X7_emitWaiting k_im_X7_emitWaiting k_sel_X7_emitWaiting k_ml_X7_121 ft_X7 hB a_h0 sh_7 (As := [.int x5]) (c_X7_emitWaiting l D tys base G10 h0 g8 r9 a_h0 x5 i_x5) ⟨rfl, rfl⟩ ⟨by dsimp only; omega, by dsimp only; omega⟩ ⟨Nat.le_of_ble_eq_true rfl, Nat.le_of_ble_eq_true rfl⟩ rfl rfl hl.1 (Nat.le_of_ble_eq_true rfl) dX7_readChoice_100 (fun G9 H locs hq hB => ?_)
          have hm := hq
          obtain ⟨G19, hG9⟩ : ∃ g, g = G9 := ⟨_, rfl⟩
          rw [← hG9] at hm hB
          have hM := hM.stp hm (by decide)
          obtain ⟨g20, r21, a_h0, f_g20⟩ := hm.ex a_h0
          have n_g20 := iv_nxt hB a_h0 f_g20 n_g8
          refine lv_iload_n hx hb dX7_readChoice_103 rfl (lv_at hl 1 rfl) ?_
          exact iv_zret X hr hlocks hB (i17_x6.wk (by decide)) ⟨hM, (i17_x6.wk (by decide))⟩ dX7_readChoice_104
        · skip
          have i21_x6 : iv_R 1 1 x6 := iv_ne_lo c17 i_x6 q_0 (by decide)
          refine lv_aload_n hx hb dX7_readChoice_23 rfl (lv_at hl 3 rfl) ?_
          refine iv_geti X ft_X7 hB a_h0 sh_7 2 (by decide) rfl k_fl_X7_53 dX7_readChoice_24 (fun x23 e_x23 i_x23 => ?_)
          refine lv_sipush (v := 136) hx hb dX7_readChoice_27 (by decide) ?_
          refine lv_icmp_eq (tgt := 43) hx hb dX7_readChoice_30 (by decide) (fun c24 => ?_) (fun c24 => ?_)
          · skip
            have i24_x23 : iv_R 136 136 x23 := ((i_x23.cutLo (n := 136) (iv_eq_r c24 q_136).1).cutHi (n := 136) (iv_eq_r c24 q_136).2)
            refine lv_aload_n hx hb dX7_readChoice_43 rfl (lv_at hl 3 rfl) ?_
            refine iv_geti0 X ft_X7 hB a_h0 sh_7 2 (by decide) rfl k_fl_X7_53 dX7_readChoice_44 e_x23 ?_
            refine lv_istore (lv' := [(5, .int x23), (4, .int x7), (3, .int x6), (2, .int x5), (0, .ref h0), (1, .int x_0)]) hx hb dX7_readChoice_47 hl (by decide) rfl (fun ls hl => ?_)
            refine lv_aload_n hx hb dX7_readChoice_49 rfl (lv_at hl 4 rfl) ?_
            refine iv_cVv X k_good k_mf_X7_step k_im_X7_step k_sel_X7_step k_ml_X7_83 ft_X7 hB a_h0 sh_7 (As := []) (c_X7_step l D tys base G10 h0 g8 r9 a_h0) ⟨rfl, rfl⟩ ⟨by dsimp only; omega, by dsimp only; omega⟩ ⟨Nat.le_of_ble_eq_true rfl, Nat.le_of_ble_eq_true rfl⟩ rfl rfl hl.1 (Nat.le_of_ble_eq_true rfl) dX7_readChoice_50 (fun G9 H locs hq hB => ?_)
            obtain ⟨hm, vg⟩ := hq
            obtain ⟨G26, hG9⟩ : ∃ g, g = G9 := ⟨_, rfl⟩
            rw [← hG9] at hm hB vg
            have hM := hM.stp hm (by decide)
            obtain ⟨g27, r28, a_h0, f_g27⟩ := hm.ex a_h0
            have n_g27 := iv_nxt hB a_h0 f_g27 n_g8
            have vg29 := vg _ _ a_h0
            refine lv_iload hx hb dX7_readChoice_53 (lv_at hl 0 rfl) ?_
            refine lv_sipush (v := 135) hx hb dX7_readChoice_55 (by decide) ?_
            refine lv_icmp_ne (tgt := 70) hx hb dX7_readChoice_58 (by decide) (fun c30 => ?_) (fun c30 => ?_)
            · skip
              refine lv_aload_n hx hb dX7_readChoice_70 rfl (lv_at hl 4 rfl) ?_
              refine lv_iload_n hx hb dX7_readChoice_71 rfl (lv_at hl 5 rfl) ?_
              refine iv_cVi X k_good k_mf_X7_readClaim k_im_X7_readClaim k_sel_X7_readClaim k_ml_X7_118 ft_X7 hB a_h0 sh_7 (As := [.int x_0]) (c_X7_readClaim_h l D tys base d ihB G26 h0 g27 r28 a_h0 vg29 x_0 i_x_0 (by have e8 := i_x_0.2; omega)) ⟨rfl, rfl⟩ ⟨by dsimp only; omega, by dsimp only; omega⟩ ⟨Nat.le_of_ble_eq_true rfl, Nat.le_of_ble_eq_true rfl⟩ rfl rfl hl.1 (Nat.le_of_ble_eq_true rfl) dX7_readChoice_72 (fun x31 G9 H locs hq hB => ?_)
              obtain ⟨hm, i_x31⟩ := hq
              obtain ⟨G32, hG9⟩ : ∃ g, g = G9 := ⟨_, rfl⟩
              rw [← hG9] at hm hB
              have hM := hM.stp hm (by decide)
              obtain ⟨g33, r34, a_h0, f_g33⟩ := hm.ex a_h0
              have n_g33 := iv_nxt hB a_h0 f_g33 vg29
              refine lv_istore_n (lv' := [(3, .int x31), (5, .int x23), (4, .int x7), (2, .int x5), (0, .ref h0), (1, .int x_0)]) hx hb dX7_readChoice_75 rfl hl (by decide) rfl (fun ls hl => ?_)
              refine lv_iload hx hb dX7_readChoice_76 (lv_at hl 1 rfl) ?_
              refine lv_sipush (v := 136) hx hb dX7_readChoice_78 (by decide) ?_
              refine lv_icmp_ne (tgt := 92) hx hb dX7_readChoice_81 (by decide) (fun c35 => ?_) (fun c35 => ?_)
              · skip
                exact (iv_ne_lo c35 i24_x23 q_136 (a' := 137) (by decide)).no (by decide)
              · skip
                refine lv_aload_n hx hb dX7_readChoice_84 rfl (lv_at hl 4 rfl) ?_
                refine lv_sipush (v := 136) hx hb dX7_readChoice_85 (by decide) ?_
                refine lv_iconst (v := 0) hx hb dX7_readChoice_88 (by decide) ?_
                refine iv_cVv X k_good k_mf_X7_emit k_im_X7_emit k_sel_X7_emit k_ml_X7_125 ft_X7 hB a_h0 sh_7 (As := [.int 136, .int 0]) (c_X7_emit l D tys base G32 h0 g33 r34 a_h0 136 (q_136.wk (by decide)) 0 (q_0.wk (by decide))) ⟨rfl, rfl⟩ ⟨by dsimp only; omega, by dsimp only; omega⟩ ⟨Nat.le_of_ble_eq_true rfl, Nat.le_of_ble_eq_true rfl⟩ rfl rfl hl.1 (Nat.le_of_ble_eq_true rfl) dX7_readChoice_89 (fun G9 H locs hq hB => ?_)
                have hm := hq
                obtain ⟨G36, hG9⟩ : ∃ g, g = G9 := ⟨_, rfl⟩
                rw [← hG9] at hm hB
                have hM := hM.stp hm (by decide)
                obtain ⟨g37, r38, a_h0, f_g37⟩ := hm.ex a_h0
                have n_g37 := iv_nxt hB a_h0 f_g37 n_g33
                refine iv_iinc hx hb i15_x7 (lo := 1) (hi := 400) (by decide) dX7_readChoice_92 hl (k := 2) rfl (by decide) (fun x39 ls e_x39 i_x39 hl => ?_)
                have hl : lv_has ls 6 [(4, .int x39), (3, .int x31), (5, .int x23), (2, .int x5), (0, .ref h0), (1, .int x_0)] := hl
                refine lv_goto (tgt := 11) hx hb dX7_readChoice_95 (by decide) ?_
                exact ih_11 G36 hM _ _ hB g37 r38 a_h0 n_g37 x5 i_x5 x31 i_x31 x39 (i_x39.wk (by decide)) (iv_mup (c := 1) i_x7 (by decide) (by decide) (by omega) hn_11) _ (lv_sub hl [0, 1, 3, 4, 5] rfl)
            · skip
              exact (i24_x23.cutHi (n := 135) (iv_eq_r c30 q_135).2).no (by decide)
          · skip
            refine lv_aload_n hx hb dX7_readChoice_33 rfl (lv_at hl 3 rfl) ?_
            refine iv_geti0 X ft_X7 hB a_h0 sh_7 2 (by decide) rfl k_fl_X7_53 dX7_readChoice_34 e_x23 ?_
            refine lv_sipush (v := 135) hx hb dX7_readChoice_37 (by decide) ?_
            refine lv_icmp_ne (tgt := 98) hx hb dX7_readChoice_40 (by decide) (fun c40 => ?_) (fun c40 => ?_)
            · skip
              refine lv_aload_n hx hb dX7_readChoice_98 rfl (lv_at hl 3 rfl) ?_
              refine lv_iload_n hx hb dX7_readChoice_99 rfl (lv_at hl 2 rfl) ?_
              refine iv_cVv X k_good k_mf_X7_emitWaiting k_im_X7_emitWaiting k_sel_X7_emitWaiting k_ml_X7_121 ft_X7 hB a_h0 sh_7 (As := [.int x5]) (c_X7_emitWaiting l D tys base G10 h0 g8 r9 a_h0 x5 i_x5) ⟨rfl, rfl⟩ ⟨by dsimp only; omega, by dsimp only; omega⟩ ⟨Nat.le_of_ble_eq_true rfl, Nat.le_of_ble_eq_true rfl⟩ rfl rfl hl.1 (Nat.le_of_ble_eq_true rfl) dX7_readChoice_100 (fun G9 H locs hq hB => ?_)
              have hm := hq
              obtain ⟨G41, hG9⟩ : ∃ g, g = G9 := ⟨_, rfl⟩
              rw [← hG9] at hm hB
              have hM := hM.stp hm (by decide)
              obtain ⟨g42, r43, a_h0, f_g42⟩ := hm.ex a_h0
              have n_g42 := iv_nxt hB a_h0 f_g42 n_g8
              refine lv_iload_n hx hb dX7_readChoice_103 rfl (lv_at hl 1 rfl) ?_
              exact iv_zret X hr hlocks hB (i21_x6.wk (by decide)) ⟨hM, (i21_x6.wk (by decide))⟩ dX7_readChoice_104
            · skip
              have i43_x23 : iv_R 135 135 x23 := ((i_x23.cutLo (n := 135) (iv_eq_r c40 q_135).1).cutHi (n := 135) (iv_eq_r c40 q_135).2)
              refine lv_aload_n hx hb dX7_readChoice_43 rfl (lv_at hl 3 rfl) ?_
              refine iv_geti0 X ft_X7 hB a_h0 sh_7 2 (by decide) rfl k_fl_X7_53 dX7_readChoice_44 e_x23 ?_
              refine lv_istore (lv' := [(5, .int x23), (4, .int x7), (3, .int x6), (2, .int x5), (0, .ref h0), (1, .int x_0)]) hx hb dX7_readChoice_47 hl (by decide) rfl (fun ls hl => ?_)
              refine lv_aload_n hx hb dX7_readChoice_49 rfl (lv_at hl 4 rfl) ?_
              refine iv_cVv X k_good k_mf_X7_step k_im_X7_step k_sel_X7_step k_ml_X7_83 ft_X7 hB a_h0 sh_7 (As := []) (c_X7_step l D tys base G10 h0 g8 r9 a_h0) ⟨rfl, rfl⟩ ⟨by dsimp only; omega, by dsimp only; omega⟩ ⟨Nat.le_of_ble_eq_true rfl, Nat.le_of_ble_eq_true rfl⟩ rfl rfl hl.1 (Nat.le_of_ble_eq_true rfl) dX7_readChoice_50 (fun G9 H locs hq hB => ?_)
              obtain ⟨hm, vg⟩ := hq
              obtain ⟨G45, hG9⟩ : ∃ g, g = G9 := ⟨_, rfl⟩
              rw [← hG9] at hm hB vg
              have hM := hM.stp hm (by decide)
              obtain ⟨g46, r47, a_h0, f_g46⟩ := hm.ex a_h0
              have n_g46 := iv_nxt hB a_h0 f_g46 n_g8
              have vg48 := vg _ _ a_h0
              refine lv_iload hx hb dX7_readChoice_53 (lv_at hl 0 rfl) ?_
              refine lv_sipush (v := 135) hx hb dX7_readChoice_55 (by decide) ?_
              refine lv_icmp_ne (tgt := 70) hx hb dX7_readChoice_58 (by decide) (fun c49 => ?_) (fun c49 => ?_)
              · skip
                exact (iv_ne_lo c49 i43_x23 q_135 (a' := 136) (by decide)).no (by decide)
              · skip
                refine lv_aload_n hx hb dX7_readChoice_61 rfl (lv_at hl 4 rfl) ?_
                refine lv_iload_n hx hb dX7_readChoice_62 rfl (lv_at hl 3 rfl) ?_
                refine iv_cVv X k_good k_mf_X7_emitWaiting k_im_X7_emitWaiting k_sel_X7_emitWaiting k_ml_X7_121 ft_X7 hB a_h0 sh_7 (As := [.int x5]) (c_X7_emitWaiting l D tys base G45 h0 g46 r47 a_h0 x5 i_x5) ⟨rfl, rfl⟩ ⟨by dsimp only; omega, by dsimp only; omega⟩ ⟨Nat.le_of_ble_eq_true rfl, Nat.le_of_ble_eq_true rfl⟩ rfl rfl hl.1 (Nat.le_of_ble_eq_true rfl) dX7_readChoice_63 (fun G9 H locs hq hB => ?_)
                have hm := hq
                obtain ⟨G50, hG9⟩ : ∃ g, g = G9 := ⟨_, rfl⟩
                rw [← hG9] at hm hB
                have hM := hM.stp hm (by decide)
                obtain ⟨g51, r52, a_h0, f_g51⟩ := hm.ex a_h0
                have n_g51 := iv_nxt hB a_h0 f_g51 vg48
                refine lv_sipush (v := 135) hx hb dX7_readChoice_66 (by decide) ?_
                refine lv_istore_n (lv' := [(2, .int 135), (5, .int x23), (4, .int x7), (3, .int x6), (0, .ref h0), (1, .int x_0)]) hx hb dX7_readChoice_69 rfl hl (by decide) rfl (fun ls hl => ?_)
                refine lv_aload_n hx hb dX7_readChoice_70 rfl (lv_at hl 4 rfl) ?_
                refine lv_iload_n hx hb dX7_readChoice_71 rfl (lv_at hl 5 rfl) ?_
                refine iv_cVi X k_good k_mf_X7_readClaim k_im_X7_readClaim k_sel_X7_readClaim k_ml_X7_118 ft_X7 hB a_h0 sh_7 (As := [.int x_0]) (c_X7_readClaim_h l D tys base d ihB G50 h0 g51 r52 a_h0 n_g51 x_0 i_x_0 (by have e8 := i_x_0.2; omega)) ⟨rfl, rfl⟩ ⟨by dsimp only; omega, by dsimp only; omega⟩ ⟨Nat.le_of_ble_eq_true rfl, Nat.le_of_ble_eq_true rfl⟩ rfl rfl hl.1 (Nat.le_of_ble_eq_true rfl) dX7_readChoice_72 (fun x53 G9 H locs hq hB => ?_)
                obtain ⟨hm, i_x53⟩ := hq
                obtain ⟨G54, hG9⟩ : ∃ g, g = G9 := ⟨_, rfl⟩
                rw [← hG9] at hm hB
                have hM := hM.stp hm (by decide)
                obtain ⟨g55, r56, a_h0, f_g55⟩ := hm.ex a_h0
                have n_g55 := iv_nxt hB a_h0 f_g55 n_g51
                refine lv_istore_n (lv' := [(3, .int x53), (2, .int 135), (5, .int x23), (4, .int x7), (0, .ref h0), (1, .int x_0)]) hx hb dX7_readChoice_75 rfl hl (by decide) rfl (fun ls hl => ?_)
                refine lv_iload hx hb dX7_readChoice_76 (lv_at hl 2 rfl) ?_
                refine lv_sipush (v := 136) hx hb dX7_readChoice_78 (by decide) ?_
                refine lv_icmp_ne (tgt := 92) hx hb dX7_readChoice_81 (by decide) (fun c57 => ?_) (fun c57 => ?_)
                · skip
                  refine iv_iinc hx hb i15_x7 (lo := 1) (hi := 400) (by decide) dX7_readChoice_92 hl (k := 3) rfl (by decide) (fun x58 ls e_x58 i_x58 hl => ?_)
                  have hl : lv_has ls 6 [(4, .int x58), (3, .int x53), (2, .int 135), (5, .int x23), (0, .ref h0), (1, .int x_0)] := hl
                  refine lv_goto (tgt := 11) hx hb dX7_readChoice_95 (by decide) ?_
                  exact ih_11 G54 hM _ _ hB g55 r56 a_h0 n_g55 135 (q_135.wk (by decide)) x53 i_x53 x58 (i_x58.wk (by decide)) (iv_mup (c := 1) i_x7 (by decide) (by decide) (by omega) hn_11) _ (lv_sub hl [0, 1, 2, 4, 5] rfl)
                · skip
                  exact absurd c57 c24
  exact L_11 _ G2 hM _ _ hB g3 r4 a_h0 n_g3 0 (q_0.wk (by decide)) x1 i_x1 0 (q_0.wk (by decide)) (Nat.lt_succ_self _) _ (lv_sub hl [0, 1, 2, 3, 4] rfl)
theorem dX7_takes_0 : decode cX7_takes 0 = .ok (.aload_n 0, 1) := by decide +kernel
theorem dX7_takes_1 : decode cX7_takes 1 = .ok (.getfield 53, 3) := by decide +kernel
theorem dX7_takes_4 : decode cX7_takes 4 = .ok (.iload_n 1, 1) := by decide +kernel
theorem dX7_takes_5 : decode cX7_takes 5 = .ok (.if_icmp .eq 9, 3) := by decide +kernel
theorem dX7_takes_8 : decode cX7_takes 8 = .ok (.aload_n 0, 1) := by decide +kernel
theorem dX7_takes_9 : decode cX7_takes 9 = .ok (.iconst 1, 1) := by decide +kernel
theorem dX7_takes_10 : decode cX7_takes 10 = .ok (.invokevirtual 98, 3) := by decide +kernel
theorem dX7_takes_13 : decode cX7_takes 13 = .ok (.ireturn, 1) := by decide +kernel
theorem dX7_takes_14 : decode cX7_takes 14 = .ok (.aload_n 0, 1) := by decide +kernel
theorem dX7_takes_15 : decode cX7_takes 15 = .ok (.invokevirtual 83, 3) := by decide +kernel
theorem dX7_takes_18 : decode cX7_takes 18 = .ok (.iconst 1, 1) := by decide +kernel
theorem dX7_takes_19 : decode cX7_takes 19 = .ok (.ireturn, 1) := by decide +kernel
set_option maxHeartbeats 4000000 in
set_option maxRecDepth 100000 in
theorem c_X7_takes (l : Launch) (D : va_G) (tys : List (ClassId × FieldType)) (base : Nat) (G : iv_G) (h0 : Nat) (g_h0 : Nat → Int32) (r_h0 : Nat → Nat) (a_h0 : G h0 = some (7, g_h0, r_h0)) (n_g_h0 : iv_R 0 400 (g_h0 1)) (x_0 : Int32) (i_x_0 : iv_R 41 130 x_0) : Met l yX7_takes (Cond.code yX7_takes cX7_takes 2 (some .boolean) :: iv_W0) ({ frames := 1, cells := 0, slots := 0, locals := 21 }) (iv_Pc iv_sh D classes tys base G [.ref h0, .int x_0]) (iv_Qi iv_sh D classes tys base (fun v G' => iv_Md [7] G G' ∧ iv_R 0 1 v ∧ (¬ v = 0 → g_h0 2 = x_0))) 0 0 (iv_A base) := by
  refine iv_head (by decide) (Nat.le_of_ble_eq_true rfl) ?_
  intro p e s m args below meth c ls X hr hlocks hname hB hl
  have X := X
  have hx := X.1.1
  have hb := X.1.2.1
  have hM : iv_Md [7] G G := iv_Md.rf
  have hl : lv_has ls 2 [(0, .ref h0), (1, .int x_0)] := hl
  refine lv_aload_n hx hb dX7_takes_0 rfl (lv_at hl 0 rfl) ?_
  refine iv_geti X ft_X7 hB a_h0 sh_7 2 (by decide) rfl k_fl_X7_53 dX7_takes_1 (fun x1 e_x1 i_x1 => ?_)
  refine lv_iload_n hx hb dX7_takes_4 rfl (lv_at hl 1 rfl) ?_
  refine lv_icmp_eq (tgt := 14) hx hb dX7_takes_5 (by decide) (fun c2 => ?_) (fun c2 => ?_)
  · skip
    have i2_x1 : iv_R 41 130 x1 := ((i_x1.cutLo (n := 41) (iv_eq_r c2 i_x_0).1).cutHi (n := 130) (iv_eq_r c2 i_x_0).2)
    refine lv_aload_n hx hb dX7_takes_14 rfl (lv_at hl 0 rfl) ?_
    refine iv_cVv X k_good k_mf_X7_step k_im_X7_step k_sel_X7_step k_ml_X7_83 ft_X7 hB a_h0 sh_7 (As := []) (c_X7_step l D tys base G h0 g_h0 r_h0 a_h0) ⟨rfl, rfl⟩ ⟨Nat.le_of_ble_eq_true rfl, Nat.le_of_ble_eq_true rfl⟩ ⟨Nat.le_of_ble_eq_true rfl, Nat.le_of_ble_eq_true rfl⟩ rfl rfl hl.1 (Nat.le_of_ble_eq_true rfl) dX7_takes_15 (fun G9 H locs hq hB => ?_)
    obtain ⟨hm, vg⟩ := hq
    obtain ⟨G4, hG9⟩ : ∃ g, g = G9 := ⟨_, rfl⟩
    rw [← hG9] at hm hB vg
    have hM := hM.stp hm (by decide)
    obtain ⟨g5, r6, a_h0, f_g5⟩ := hm.ex a_h0
    have n_g5 := iv_nxt hB a_h0 f_g5 n_g_h0
    have vg7 := vg _ _ a_h0
    refine lv_iconst (v := 1) hx hb dX7_takes_18 (by decide) ?_
    exact iv_zret X hr hlocks hB (q_1.wk (by decide)) ⟨hM, (q_1.wk (by decide)), fun _ => (e_x1.symm.trans c2)⟩ dX7_takes_19
  · skip
    refine lv_aload_n hx hb dX7_takes_8 rfl (lv_at hl 0 rfl) ?_
    refine lv_iconst (v := 1) hx hb dX7_takes_9 (by decide) ?_
    refine iv_cVi X k_good k_mf_X7_refuse k_im_X7_refuse k_sel_X7_refuse k_ml_X7_98 ft_X7 hB a_h0 sh_7 (As := [.int 1]) (c_X7_refuse l D tys base G h0 g_h0 r_h0 a_h0 n_g_h0 1 (q_1.wk (by decide))) ⟨rfl, rfl⟩ ⟨Nat.le_of_ble_eq_true rfl, Nat.le_of_ble_eq_true rfl⟩ ⟨Nat.le_of_ble_eq_true rfl, Nat.le_of_ble_eq_true rfl⟩ rfl rfl hl.1 (Nat.le_of_ble_eq_true rfl) dX7_takes_10 (fun x8 G9 H locs hq hB => ?_)
    obtain ⟨hm, i_x8⟩ := hq
    obtain ⟨G9, hG9⟩ : ∃ g, g = G9 := ⟨_, rfl⟩
    rw [← hG9] at hm hB
    have hM := hM.stp hm (by decide)
    obtain ⟨g10, r11, a_h0, f_g10⟩ := hm.ex a_h0
    have n_g10 := iv_nxt hB a_h0 f_g10 n_g_h0
    exact iv_zret X hr hlocks hB (i_x8.wk (by decide)) ⟨hM, (i_x8.wk (by decide)), fun h => absurd (iv_z i_x8) h⟩ dX7_takes_13
theorem dX7_readBracket_0 : decode cX7_readBracket 0 = .ok (.aload_n 0, 1) := by decide +kernel
theorem dX7_readBracket_1 : decode cX7_readBracket 1 = .ok (.invokevirtual 83, 3) := by decide +kernel
theorem dX7_readBracket_4 : decode cX7_readBracket 4 = .ok (.aload_n 0, 1) := by decide +kernel
theorem dX7_readBracket_5 : decode cX7_readBracket 5 = .ok (.iload_n 1, 1) := by decide +kernel
theorem dX7_readBracket_6 : decode cX7_readBracket 6 = .ok (.invokevirtual 115, 3) := by decide +kernel
theorem dX7_readBracket_9 : decode cX7_readBracket 9 = .ok (.ifCond .eq 16, 3) := by decide +kernel
theorem dX7_readBracket_12 : decode cX7_readBracket 12 = .ok (.aload_n 0, 1) := by decide +kernel
theorem dX7_readBracket_13 : decode cX7_readBracket 13 = .ok (.bipush 41, 2) := by decide +kernel
theorem dX7_readBracket_15 : decode cX7_readBracket 15 = .ok (.invokevirtual 105, 3) := by decide +kernel
theorem dX7_readBracket_18 : decode cX7_readBracket 18 = .ok (.ifCond .eq 7, 3) := by decide +kernel
theorem dX7_readBracket_21 : decode cX7_readBracket 21 = .ok (.iconst 1, 1) := by decide +kernel
theorem dX7_readBracket_22 : decode cX7_readBracket 22 = .ok (.goto 4, 3) := by decide +kernel
theorem dX7_readBracket_25 : decode cX7_readBracket 25 = .ok (.iconst 0, 1) := by decide +kernel
theorem dX7_readBracket_26 : decode cX7_readBracket 26 = .ok (.ireturn, 1) := by decide +kernel
set_option maxHeartbeats 4000000 in
set_option maxRecDepth 100000 in
theorem c_X7_readBracket_rec (l : Launch) (D : va_G) (tys : List (ClassId × FieldType)) (base : Nat) : ∀ (d : Nat) (G : iv_G) (h0 : Nat) (g_h0 : Nat → Int32) (r_h0 : Nat → Nat) (a_h0 : G h0 = some (7, g_h0, r_h0)) (n_g_h0 : iv_R 0 400 (g_h0 1)) (x_0 : Int32) (i_x_0 : iv_R 1 8 x_0) (hd : (9 - x_0.toInt).toNat ≤ d), Met l yX7_readBracket (Cond.code yX7_readBracket cX7_readBracket 2 (some .boolean) :: iv_W0) ({ frames := 4 + 3 * d, cells := 0, slots := 0, locals := 90 + 70 * d }) (iv_Pc iv_sh D classes tys base G [.ref h0, .int x_0]) (iv_Qi iv_sh D classes tys base (fun v G' => iv_Md [7, 37, 38] G G' ∧ iv_R 0 1 v)) 0 0 (iv_A base) := by
  intro d
  induction d with
  | zero => intro G h0 g_h0 r_h0 a_h0 n_g_h0 x_0 i_x_0 hd; exact absurd hd (by have := i_x_0.2; omega)
  | succ d ih =>
    intro G h0 g_h0 r_h0 a_h0 n_g_h0 x_0 i_x_0 hd
    refine iv_head (by decide) (Nat.le_of_ble_eq_true rfl) ?_
    intro p e s m args below meth c ls X hr hlocks hname hB hl
    have X := X
    have hx := X.1.1
    have hb := X.1.2.1
    have hM : iv_Md [7, 37, 38] G G := iv_Md.rf
    have hl : lv_has ls 2 [(0, .ref h0), (1, .int x_0)] := hl
    refine lv_aload_n hx hb dX7_readBracket_0 rfl (lv_at hl 0 rfl) ?_
    refine iv_cVv X k_good k_mf_X7_step k_im_X7_step k_sel_X7_step k_ml_X7_83 ft_X7 hB a_h0 sh_7 (As := []) (c_X7_step l D tys base G h0 g_h0 r_h0 a_h0) ⟨rfl, rfl⟩ ⟨by dsimp only; omega, by dsimp only; omega⟩ ⟨Nat.le_of_ble_eq_true rfl, Nat.le_of_ble_eq_true rfl⟩ rfl rfl hl.1 (Nat.le_of_ble_eq_true rfl) dX7_readBracket_1 (fun G9 H locs hq hB => ?_)
    obtain ⟨hm, vg⟩ := hq
    obtain ⟨G1, hG9⟩ : ∃ g, g = G9 := ⟨_, rfl⟩
    rw [← hG9] at hm hB vg
    have hM := hM.stp hm (by decide)
    obtain ⟨g2, r3, a_h0, f_g2⟩ := hm.ex a_h0
    have n_g2 := iv_nxt hB a_h0 f_g2 n_g_h0
    have vg4 := vg _ _ a_h0
    refine lv_aload_n hx hb dX7_readBracket_4 rfl (lv_at hl 0 rfl) ?_
    refine lv_iload_n hx hb dX7_readBracket_5 rfl (lv_at hl 1 rfl) ?_
    refine iv_cVi X k_good k_mf_X7_readChoice k_im_X7_readChoice k_sel_X7_readChoice k_ml_X7_115 ft_X7 hB a_h0 sh_7 (As := [.int x_0]) (c_X7_readChoice_h l D tys base d ih G1 h0 g2 r3 a_h0 vg4 x_0 (i_x_0.wk (by decide)) (by have e8 := i_x_0.2; omega)) ⟨rfl, rfl⟩ ⟨by dsimp only; omega, by dsimp only; omega⟩ ⟨Nat.le_of_ble_eq_true rfl, Nat.le_of_ble_eq_true rfl⟩ rfl rfl hl.1 (Nat.le_of_ble_eq_true rfl) dX7_readBracket_6 (fun x5 G9 H locs hq hB => ?_)
    obtain ⟨hm, i_x5⟩ := hq
    obtain ⟨G6, hG9⟩ : ∃ g, g = G9 := ⟨_, rfl⟩
    rw [← hG9] at hm hB
    have hM := hM.stp hm (by decide)
    obtain ⟨g7, r8, a_h0, f_g7⟩ := hm.ex a_h0
    have n_g7 := iv_nxt hB a_h0 f_g7 vg4
    refine lv_if_eq (tgt := 25) hx hb dX7_readBracket_9 (by decide) (fun c9 => ?_) (fun c9 => ?_)
    · skip
      have i9_x5 : iv_R 0 0 x5 := (i_x5.cutHi (n := 0) (iv_eq_r c9 q_0).2)
      refine lv_iconst (v := 0) hx hb dX7_readBracket_25 (by decide) ?_
      exact iv_zret X hr hlocks hB (q_0.wk (by decide)) ⟨hM, (q_0.wk (by decide))⟩ dX7_readBracket_26
    · skip
      have i10_x5 : iv_R 1 1 x5 := iv_ne_lo c9 i_x5 q_0 (by decide)
      refine lv_aload_n hx hb dX7_readBracket_12 rfl (lv_at hl 0 rfl) ?_
      refine lv_bipush (v := 41) hx hb dX7_readBracket_13 (by decide) ?_
      refine iv_cVi X k_good k_mf_X7_takes k_im_X7_takes k_sel_X7_takes k_ml_X7_105 ft_X7 hB a_h0 sh_7 (As := [.int 41]) (c_X7_takes l D tys base G6 h0 g7 r8 a_h0 n_g7 41 (q_41.wk (by decide))) ⟨rfl, rfl⟩ ⟨by dsimp only; omega, by dsimp only; omega⟩ ⟨Nat.le_of_ble_eq_true rfl, Nat.le_of_ble_eq_true rfl⟩ rfl rfl hl.1 (Nat.le_of_ble_eq_true rfl) dX7_readBracket_15 (fun x12 G9 H locs hq hB => ?_)
      obtain ⟨hm, i_x12, eq13⟩ := hq
      obtain ⟨G14, hG9⟩ : ∃ g, g = G9 := ⟨_, rfl⟩
      rw [← hG9] at hm hB
      have hM := hM.stp hm (by decide)
      obtain ⟨g15, r16, a_h0, f_g15⟩ := hm.ex a_h0
      have n_g15 := iv_nxt hB a_h0 f_g15 n_g7
      refine lv_if_eq (tgt := 25) hx hb dX7_readBracket_18 (by decide) (fun c17 => ?_) (fun c17 => ?_)
      · skip
        have i17_x12 : iv_R 0 0 x12 := (i_x12.cutHi (n := 0) (iv_eq_r c17 q_0).2)
        refine lv_iconst (v := 0) hx hb dX7_readBracket_25 (by decide) ?_
        exact iv_zret X hr hlocks hB (q_0.wk (by decide)) ⟨hM, (q_0.wk (by decide))⟩ dX7_readBracket_26
      · skip
        have i18_x12 : iv_R 1 1 x12 := iv_ne_lo c17 i_x12 q_0 (by decide)
        refine lv_iconst (v := 1) hx hb dX7_readBracket_21 (by decide) ?_
        refine lv_goto (tgt := 26) hx hb dX7_readBracket_22 (by decide) ?_
        exact iv_zret X hr hlocks hB (q_1.wk (by decide)) ⟨hM, (q_1.wk (by decide))⟩ dX7_readBracket_26
theorem c_X7_readClaim (l : Launch) (D : va_G) (tys : List (ClassId × FieldType)) (base : Nat) (G : iv_G) (h0 : Nat) (g_h0 : Nat → Int32) (r_h0 : Nat → Nat) (a_h0 : G h0 = some (7, g_h0, r_h0)) (n_g_h0 : iv_R 0 400 (g_h0 1)) (x_0 : Int32) (i_x_0 : iv_R 0 8 x_0) : Met l yX7_readClaim (Cond.code yX7_readClaim cX7_readClaim 5 (some .boolean) :: iv_W0) ({ frames := 32, cells := 0, slots := 0, locals := 741 }) (iv_Pc iv_sh D classes tys base G [.ref h0, .int x_0]) (iv_Qi iv_sh D classes tys base (fun v G' => iv_Md [7, 37, 38] G G' ∧ iv_R 0 1 v)) 0 0 (iv_A base) := c_X7_readClaim_h l D tys base 9 (c_X7_readBracket_rec l D tys base 9) G h0 g_h0 r_h0 a_h0 n_g_h0 x_0 i_x_0 (by have := i_x_0.1; omega)
theorem c_X7_readChoice (l : Launch) (D : va_G) (tys : List (ClassId × FieldType)) (base : Nat) (G : iv_G) (h0 : Nat) (g_h0 : Nat → Int32) (r_h0 : Nat → Nat) (a_h0 : G h0 = some (7, g_h0, r_h0)) (n_g_h0 : iv_R 0 400 (g_h0 1)) (x_0 : Int32) (i_x_0 : iv_R 0 8 x_0) : Met l yX7_readChoice (Cond.code yX7_readChoice cX7_readChoice 6 (some .boolean) :: iv_W0) ({ frames := 33, cells := 0, slots := 0, locals := 765 }) (iv_Pc iv_sh D classes tys base G [.ref h0, .int x_0]) (iv_Qi iv_sh D classes tys base (fun v G' => iv_Md [7, 37, 38] G G' ∧ iv_R 0 1 v)) 0 0 (iv_A base) := c_X7_readChoice_h l D tys base 9 (c_X7_readBracket_rec l D tys base 9) G h0 g_h0 r_h0 a_h0 n_g_h0 x_0 i_x_0 (by have := i_x_0.1; omega)
theorem dX7_readHourLine_0 : decode cX7_readHourLine 0 = .ok (.aload_n 0, 1) := by decide +kernel
theorem dX7_readHourLine_1 : decode cX7_readHourLine 1 = .ok (.getfield 53, 3) := by decide +kernel
theorem dX7_readHourLine_4 : decode cX7_readHourLine 4 = .ok (.sipush 128, 3) := by decide +kernel
theorem dX7_readHourLine_7 : decode cX7_readHourLine 7 = .ok (.if_icmp .ne 18, 3) := by decide +kernel
theorem dX7_readHourLine_10 : decode cX7_readHourLine 10 = .ok (.aload_n 0, 1) := by decide +kernel
theorem dX7_readHourLine_11 : decode cX7_readHourLine 11 = .ok (.getfield 74, 3) := by decide +kernel
theorem dX7_readHourLine_14 : decode cX7_readHourLine 14 = .ok (.bipush 20, 2) := by decide +kernel
theorem dX7_readHourLine_16 : decode cX7_readHourLine 16 = .ok (.if_icmp .lt 9, 3) := by decide +kernel
theorem dX7_readHourLine_19 : decode cX7_readHourLine 19 = .ok (.aload_n 0, 1) := by decide +kernel
theorem dX7_readHourLine_20 : decode cX7_readHourLine 20 = .ok (.iconst 3, 1) := by decide +kernel
theorem dX7_readHourLine_21 : decode cX7_readHourLine 21 = .ok (.invokevirtual 98, 3) := by decide +kernel
theorem dX7_readHourLine_24 : decode cX7_readHourLine 24 = .ok (.ireturn, 1) := by decide +kernel
theorem dX7_readHourLine_25 : decode cX7_readHourLine 25 = .ok (.aload_n 0, 1) := by decide +kernel
theorem dX7_readHourLine_26 : decode cX7_readHourLine 26 = .ok (.sipush 128, 3) := by decide +kernel
theorem dX7_readHourLine_29 : decode cX7_readHourLine 29 = .ok (.invokevirtual 105, 3) := by decide +kernel
theorem dX7_readHourLine_32 : decode cX7_readHourLine 32 = .ok (.ifCond .ne 5, 3) := by decide +kernel
theorem dX7_readHourLine_35 : decode cX7_readHourLine 35 = .ok (.iconst 0, 1) := by decide +kernel
theorem dX7_readHourLine_36 : decode cX7_readHourLine 36 = .ok (.ireturn, 1) := by decide +kernel
theorem dX7_readHourLine_37 : decode cX7_readHourLine 37 = .ok (.aload_n 0, 1) := by decide +kernel
theorem dX7_readHourLine_38 : decode cX7_readHourLine 38 = .ok (.getfield 92, 3) := by decide +kernel
theorem dX7_readHourLine_41 : decode cX7_readHourLine 41 = .ok (.istore_n 2, 1) := by decide +kernel
theorem dX7_readHourLine_42 : decode cX7_readHourLine 42 = .ok (.aload_n 0, 1) := by decide +kernel
theorem dX7_readHourLine_43 : decode cX7_readHourLine 43 = .ok (.iconst 0, 1) := by decide +kernel
theorem dX7_readHourLine_44 : decode cX7_readHourLine 44 = .ok (.iload_n 1, 1) := by decide +kernel
theorem dX7_readHourLine_45 : decode cX7_readHourLine 45 = .ok (.iconst 1, 1) := by decide +kernel
theorem dX7_readHourLine_46 : decode cX7_readHourLine 46 = .ok (.isub, 1) := by decide +kernel
theorem dX7_readHourLine_47 : decode cX7_readHourLine 47 = .ok (.invokevirtual 108, 3) := by decide +kernel
theorem dX7_readHourLine_50 : decode cX7_readHourLine 50 = .ok (.ifCond .eq 13, 3) := by decide +kernel
theorem dX7_readHourLine_53 : decode cX7_readHourLine 53 = .ok (.aload_n 0, 1) := by decide +kernel
theorem dX7_readHourLine_54 : decode cX7_readHourLine 54 = .ok (.sipush 129, 3) := by decide +kernel
theorem dX7_readHourLine_57 : decode cX7_readHourLine 57 = .ok (.invokevirtual 105, 3) := by decide +kernel
theorem dX7_readHourLine_60 : decode cX7_readHourLine 60 = .ok (.ifCond .ne 5, 3) := by decide +kernel
theorem dX7_readHourLine_63 : decode cX7_readHourLine 63 = .ok (.iconst 0, 1) := by decide +kernel
theorem dX7_readHourLine_64 : decode cX7_readHourLine 64 = .ok (.ireturn, 1) := by decide +kernel
theorem dX7_readHourLine_65 : decode cX7_readHourLine 65 = .ok (.aload_n 0, 1) := by decide +kernel
theorem dX7_readHourLine_66 : decode cX7_readHourLine 66 = .ok (.getfield 92, 3) := by decide +kernel
theorem dX7_readHourLine_69 : decode cX7_readHourLine 69 = .ok (.istore_n 3, 1) := by decide +kernel
theorem dX7_readHourLine_70 : decode cX7_readHourLine 70 = .ok (.aload_n 0, 1) := by decide +kernel
theorem dX7_readHourLine_71 : decode cX7_readHourLine 71 = .ok (.iconst 0, 1) := by decide +kernel
theorem dX7_readHourLine_72 : decode cX7_readHourLine 72 = .ok (.bipush 23, 2) := by decide +kernel
theorem dX7_readHourLine_74 : decode cX7_readHourLine 74 = .ok (.invokevirtual 108, 3) := by decide +kernel
theorem dX7_readHourLine_77 : decode cX7_readHourLine 77 = .ok (.ifCond .eq 13, 3) := by decide +kernel
theorem dX7_readHourLine_80 : decode cX7_readHourLine 80 = .ok (.aload_n 0, 1) := by decide +kernel
theorem dX7_readHourLine_81 : decode cX7_readHourLine 81 = .ok (.sipush 130, 3) := by decide +kernel
theorem dX7_readHourLine_84 : decode cX7_readHourLine 84 = .ok (.invokevirtual 105, 3) := by decide +kernel
theorem dX7_readHourLine_87 : decode cX7_readHourLine 87 = .ok (.ifCond .ne 5, 3) := by decide +kernel
theorem dX7_readHourLine_90 : decode cX7_readHourLine 90 = .ok (.iconst 0, 1) := by decide +kernel
theorem dX7_readHourLine_91 : decode cX7_readHourLine 91 = .ok (.ireturn, 1) := by decide +kernel
theorem dX7_readHourLine_92 : decode cX7_readHourLine 92 = .ok (.aload_n 0, 1) := by decide +kernel
theorem dX7_readHourLine_93 : decode cX7_readHourLine 93 = .ok (.getfield 92, 3) := by decide +kernel
theorem dX7_readHourLine_96 : decode cX7_readHourLine 96 = .ok (.istore 4, 2) := by decide +kernel
theorem dX7_readHourLine_98 : decode cX7_readHourLine 98 = .ok (.aload_n 0, 1) := by decide +kernel
theorem dX7_readHourLine_99 : decode cX7_readHourLine 99 = .ok (.iconst 1, 1) := by decide +kernel
theorem dX7_readHourLine_100 : decode cX7_readHourLine 100 = .ok (.bipush 24, 2) := by decide +kernel
theorem dX7_readHourLine_102 : decode cX7_readHourLine 102 = .ok (.invokevirtual 108, 3) := by decide +kernel
theorem dX7_readHourLine_105 : decode cX7_readHourLine 105 = .ok (.ifCond .eq 12, 3) := by decide +kernel
theorem dX7_readHourLine_108 : decode cX7_readHourLine 108 = .ok (.aload_n 0, 1) := by decide +kernel
theorem dX7_readHourLine_109 : decode cX7_readHourLine 109 = .ok (.bipush 59, 2) := by decide +kernel
theorem dX7_readHourLine_111 : decode cX7_readHourLine 111 = .ok (.invokevirtual 105, 3) := by decide +kernel
theorem dX7_readHourLine_114 : decode cX7_readHourLine 114 = .ok (.ifCond .ne 5, 3) := by decide +kernel
theorem dX7_readHourLine_117 : decode cX7_readHourLine 117 = .ok (.iconst 0, 1) := by decide +kernel
theorem dX7_readHourLine_118 : decode cX7_readHourLine 118 = .ok (.ireturn, 1) := by decide +kernel
theorem dX7_readHourLine_119 : decode cX7_readHourLine 119 = .ok (.iconst 0, 1) := by decide +kernel
theorem dX7_readHourLine_120 : decode cX7_readHourLine 120 = .ok (.istore 5, 2) := by decide +kernel
theorem dX7_readHourLine_122 : decode cX7_readHourLine 122 = .ok (.iload 5, 2) := by decide +kernel
theorem dX7_readHourLine_124 : decode cX7_readHourLine 124 = .ok (.iload 4, 2) := by decide +kernel
theorem dX7_readHourLine_126 : decode cX7_readHourLine 126 = .ok (.if_icmp .ge 37, 3) := by decide +kernel
theorem dX7_readHourLine_129 : decode cX7_readHourLine 129 = .ok (.iload_n 2, 1) := by decide +kernel
theorem dX7_readHourLine_130 : decode cX7_readHourLine 130 = .ok (.iconst 0, 1) := by decide +kernel
theorem dX7_readHourLine_131 : decode cX7_readHourLine 131 = .ok (.bipush 9, 2) := by decide +kernel
theorem dX7_readHourLine_133 : decode cX7_readHourLine 133 = .ok (.invokestatic 101, 3) := by decide +kernel
theorem dX7_readHourLine_136 : decode cX7_readHourLine 136 = .ok (.ifCond .eq 27, 3) := by decide +kernel
theorem dX7_readHourLine_139 : decode cX7_readHourLine 139 = .ok (.aload_n 0, 1) := by decide +kernel
theorem dX7_readHourLine_140 : decode cX7_readHourLine 140 = .ok (.getfield 22, 3) := by decide +kernel
theorem dX7_readHourLine_143 : decode cX7_readHourLine 143 = .ok (.iload_n 2, 1) := by decide +kernel
theorem dX7_readHourLine_144 : decode cX7_readHourLine 144 = .ok (.dup2, 1) := by decide +kernel
theorem dX7_readHourLine_145 : decode cX7_readHourLine 145 = .ok (.iaload, 1) := by decide +kernel
theorem dX7_readHourLine_146 : decode cX7_readHourLine 146 = .ok (.iconst 1, 1) := by decide +kernel
theorem dX7_readHourLine_147 : decode cX7_readHourLine 147 = .ok (.iload_n 3, 1) := by decide +kernel
theorem dX7_readHourLine_148 : decode cX7_readHourLine 148 = .ok (.iload 5, 2) := by decide +kernel
theorem dX7_readHourLine_150 : decode cX7_readHourLine 150 = .ok (.iadd, 1) := by decide +kernel
theorem dX7_readHourLine_151 : decode cX7_readHourLine 151 = .ok (.bipush 24, 2) := by decide +kernel
theorem dX7_readHourLine_153 : decode cX7_readHourLine 153 = .ok (.irem, 1) := by decide +kernel
theorem dX7_readHourLine_154 : decode cX7_readHourLine 154 = .ok (.ishl, 1) := by decide +kernel
theorem dX7_readHourLine_155 : decode cX7_readHourLine 155 = .ok (.ior, 1) := by decide +kernel
theorem dX7_readHourLine_156 : decode cX7_readHourLine 156 = .ok (.iastore, 1) := by decide +kernel
theorem dX7_readHourLine_157 : decode cX7_readHourLine 157 = .ok (.iinc 5 1, 3) := by decide +kernel
theorem dX7_readHourLine_160 : decode cX7_readHourLine 160 = .ok (.goto (-38), 3) := by decide +kernel
theorem dX7_readHourLine_163 : decode cX7_readHourLine 163 = .ok (.aload_n 0, 1) := by decide +kernel
theorem dX7_readHourLine_164 : decode cX7_readHourLine 164 = .ok (.dup, 1) := by decide +kernel
theorem dX7_readHourLine_165 : decode cX7_readHourLine 165 = .ok (.getfield 74, 3) := by decide +kernel
theorem dX7_readHourLine_168 : decode cX7_readHourLine 168 = .ok (.iconst 1, 1) := by decide +kernel
theorem dX7_readHourLine_169 : decode cX7_readHourLine 169 = .ok (.iadd, 1) := by decide +kernel
theorem dX7_readHourLine_170 : decode cX7_readHourLine 170 = .ok (.putfield 74, 3) := by decide +kernel
theorem dX7_readHourLine_173 : decode cX7_readHourLine 173 = .ok (.iconst 1, 1) := by decide +kernel
theorem dX7_readHourLine_174 : decode cX7_readHourLine 174 = .ok (.ireturn, 1) := by decide +kernel
set_option maxHeartbeats 4000000 in
set_option maxRecDepth 100000 in
theorem c_X7_readHourLine (l : Launch) (D : va_G) (tys : List (ClassId × FieldType)) (base : Nat) (G : iv_G) (h0 : Nat) (g_h0 : Nat → Int32) (r_h0 : Nat → Nat) (a_h0 : G h0 = some (7, g_h0, r_h0)) (n_g_h0 : iv_R 0 400 (g_h0 1)) (x_0 : Int32) (i_x_0 : iv_R 0 10 x_0) : Met l yX7_readHourLine (Cond.code yX7_readHourLine cX7_readHourLine 6 (some .boolean) :: iv_W0) ({ frames := 2, cells := 0, slots := 0, locals := 44 }) (iv_Pc iv_sh D classes tys base G [.ref h0, .int x_0]) (iv_Qi iv_sh D classes tys base (fun v G' => (iv_Md0 [7, 21] G G' ∧ (∀ (g' : Nat → Int32) (r' : Nat → Nat), G' h0 = some (7, g', r') → iv_R 0 400 (g' 1))) ∧ iv_R 0 1 v)) 0 0 (iv_A base) := by
  refine iv_head (by decide) (Nat.le_of_ble_eq_true rfl) ?_
  intro p e s m args below meth c ls X hr hlocks hname hB hl
  have X := X
  have hx := X.1.1
  have hb := X.1.2.1
  have hM : iv_Md0 [7, 21] G G := iv_Md0.rf
  have hl : lv_has ls 6 [(0, .ref h0), (1, .int x_0)] := hl
  refine lv_aload_n hx hb dX7_readHourLine_0 rfl (lv_at hl 0 rfl) ?_
  refine iv_geti X ft_X7 hB a_h0 sh_7 2 (by decide) rfl k_fl_X7_53 dX7_readHourLine_1 (fun x1 e_x1 i_x1 => ?_)
  refine lv_sipush (v := 128) hx hb dX7_readHourLine_4 (by decide) ?_
  refine lv_icmp_ne (tgt := 25) hx hb dX7_readHourLine_7 (by decide) (fun c2 => ?_) (fun c2 => ?_)
  · skip
    refine lv_aload_n hx hb dX7_readHourLine_25 rfl (lv_at hl 0 rfl) ?_
    refine lv_sipush (v := 128) hx hb dX7_readHourLine_26 (by decide) ?_
    refine iv_cVi X k_good k_mf_X7_takes k_im_X7_takes k_sel_X7_takes k_ml_X7_105 ft_X7 hB a_h0 sh_7 (As := [.int 128]) (c_X7_takes l D tys base G h0 g_h0 r_h0 a_h0 n_g_h0 128 (q_128.wk (by decide))) ⟨rfl, rfl⟩ ⟨Nat.le_of_ble_eq_true rfl, Nat.le_of_ble_eq_true rfl⟩ ⟨Nat.le_of_ble_eq_true rfl, Nat.le_of_ble_eq_true rfl⟩ rfl rfl hl.1 (Nat.le_of_ble_eq_true rfl) dX7_readHourLine_29 (fun x3 G9 H locs hq hB => ?_)
    obtain ⟨hm, i_x3, eq4⟩ := hq
    obtain ⟨G5, hG9⟩ : ∃ g, g = G9 := ⟨_, rfl⟩
    rw [← hG9] at hm hB
    have hM := hM.stp hm.weak (by decide)
    obtain ⟨g6, r7, a_h0, f_g6⟩ := hm.ex a_h0
    have n_g6 := iv_nxt hB a_h0 f_g6 n_g_h0
    refine lv_if_ne (tgt := 37) hx hb dX7_readHourLine_32 (by decide) (fun c8 => ?_) (fun c8 => ?_)
    · skip
      have i8_x3 : iv_R 1 1 x3 := iv_ne_lo c8 i_x3 q_0 (by decide)
      exact absurd (e_x1.trans (eq4 c8)) c2
    · skip
      have i9_x3 : iv_R 0 0 x3 := (i_x3.cutHi (n := 0) (iv_eq_r c8 q_0).2)
      refine lv_iconst (v := 0) hx hb dX7_readHourLine_35 (by decide) ?_
      exact iv_zret X hr hlocks hB (q_0.wk (by decide)) ⟨⟨hM, fun g9 r9 h9 => by have h8 := a_h0.symm.trans h9; cases h8; exact n_g6⟩, (q_0.wk (by decide))⟩ dX7_readHourLine_36
  · skip
    have i10_x1 : iv_R 128 128 x1 := ((i_x1.cutLo (n := 128) (iv_eq_r c2 q_128).1).cutHi (n := 128) (iv_eq_r c2 q_128).2)
    refine lv_aload_n hx hb dX7_readHourLine_10 rfl (lv_at hl 0 rfl) ?_
    refine iv_geti X ft_X7 hB a_h0 sh_7 8 (by decide) rfl k_fl_X7_74 dX7_readHourLine_11 (fun x12 e_x12 i_x12 => ?_)
    refine lv_bipush (v := 20) hx hb dX7_readHourLine_14 (by decide) ?_
    refine lv_icmp_lt (tgt := 25) hx hb dX7_readHourLine_16 (by decide) (fun c13 => ?_) (fun c13 => ?_)
    · skip
      have i13_x12 : iv_R 0 19 x12 := (i_x12.cutHi (n := 19) (iv_lt_r c13 q_20 (by decide)))
      refine lv_aload_n hx hb dX7_readHourLine_25 rfl (lv_at hl 0 rfl) ?_
      refine lv_sipush (v := 128) hx hb dX7_readHourLine_26 (by decide) ?_
      refine iv_cVi X k_good k_mf_X7_takes k_im_X7_takes k_sel_X7_takes k_ml_X7_105 ft_X7 hB a_h0 sh_7 (As := [.int 128]) (c_X7_takes l D tys base G h0 g_h0 r_h0 a_h0 n_g_h0 128 (q_128.wk (by decide))) ⟨rfl, rfl⟩ ⟨Nat.le_of_ble_eq_true rfl, Nat.le_of_ble_eq_true rfl⟩ ⟨Nat.le_of_ble_eq_true rfl, Nat.le_of_ble_eq_true rfl⟩ rfl rfl hl.1 (Nat.le_of_ble_eq_true rfl) dX7_readHourLine_29 (fun x15 G9 H locs hq hB => ?_)
      obtain ⟨hm, i_x15, eq16⟩ := hq
      obtain ⟨G17, hG9⟩ : ∃ g, g = G9 := ⟨_, rfl⟩
      rw [← hG9] at hm hB
      have hM := hM.stp hm.weak (by decide)
      obtain ⟨g18, r19, a_h0, f_g18⟩ := hm.ex a_h0
      have n_g18 := iv_nxt hB a_h0 f_g18 n_g_h0
      have e20 : x12 = g18 8 := e_x12.trans (f_g18.2.1 8 (show (8 : Nat) ∈ iv_stab 7 from by decide)).symm
      refine lv_if_ne (tgt := 37) hx hb dX7_readHourLine_32 (by decide) (fun c21 => ?_) (fun c21 => ?_)
      · skip
        have i21_x15 : iv_R 1 1 x15 := iv_ne_lo c21 i_x15 q_0 (by decide)
        refine lv_aload_n hx hb dX7_readHourLine_37 rfl (lv_at hl 0 rfl) ?_
        refine iv_geti X ft_X7 hB a_h0 sh_7 3 (by decide) rfl k_fl_X7_92 dX7_readHourLine_38 (fun x23 e_x23 i_x23 => ?_)
        refine lv_istore_n (lv' := [(2, .int x23), (0, .ref h0), (1, .int x_0)]) hx hb dX7_readHourLine_41 rfl hl (by decide) rfl (fun ls hl => ?_)
        refine lv_aload_n hx hb dX7_readHourLine_42 rfl (lv_at hl 1 rfl) ?_
        refine lv_iconst (v := 0) hx hb dX7_readHourLine_43 (by decide) ?_
        refine lv_iload_n hx hb dX7_readHourLine_44 rfl (lv_at hl 2 rfl) ?_
        refine lv_iconst (v := 1) hx hb dX7_readHourLine_45 (by decide) ?_
        refine iv_isub hx hb i_x_0 q_1 (lo := (-1)) (hi := 9) (by decide) dX7_readHourLine_46 (fun x24 e_x24 i_x24 => ?_)
        refine iv_cVi X k_good k_mf_X7_takesNumber k_im_X7_takesNumber k_sel_X7_takesNumber k_ml_X7_108 ft_X7 hB a_h0 sh_7 (As := [.int 0, .int x24]) (c_X7_takesNumber l D tys base G17 h0 g18 r19 a_h0 n_g18 0 (q_0.wk (by decide)) x24 (i_x24.wk (by decide))) ⟨rfl, rfl⟩ ⟨Nat.le_of_ble_eq_true rfl, Nat.le_of_ble_eq_true rfl⟩ ⟨Nat.le_of_ble_eq_true rfl, Nat.le_of_ble_eq_true rfl⟩ rfl rfl hl.1 (Nat.le_of_ble_eq_true rfl) dX7_readHourLine_47 (fun x25 G9 H locs hq hB => ?_)
        obtain ⟨hm, i_x25⟩ := hq
        obtain ⟨G26, hG9⟩ : ∃ g, g = G9 := ⟨_, rfl⟩
        rw [← hG9] at hm hB
        have hM := hM.stp hm.weak (by decide)
        obtain ⟨g27, r28, a_h0, f_g27⟩ := hm.ex a_h0
        have n_g27 := iv_nxt hB a_h0 f_g27 n_g18
        have e29 : x12 = g27 8 := e20.trans (f_g27.2.1 8 (show (8 : Nat) ∈ iv_stab 7 from by decide)).symm
        refine lv_if_eq (tgt := 63) hx hb dX7_readHourLine_50 (by decide) (fun c30 => ?_) (fun c30 => ?_)
        · skip
          have i30_x25 : iv_R 0 0 x25 := (i_x25.cutHi (n := 0) (iv_eq_r c30 q_0).2)
          refine lv_iconst (v := 0) hx hb dX7_readHourLine_63 (by decide) ?_
          exact iv_zret X hr hlocks hB (q_0.wk (by decide)) ⟨⟨hM, fun g9 r9 h9 => by have h8 := a_h0.symm.trans h9; cases h8; exact n_g27⟩, (q_0.wk (by decide))⟩ dX7_readHourLine_64
        · skip
          have i31_x25 : iv_R 1 1 x25 := iv_ne_lo c30 i_x25 q_0 (by decide)
          refine lv_aload_n hx hb dX7_readHourLine_53 rfl (lv_at hl 1 rfl) ?_
          refine lv_sipush (v := 129) hx hb dX7_readHourLine_54 (by decide) ?_
          refine iv_cVi X k_good k_mf_X7_takes k_im_X7_takes k_sel_X7_takes k_ml_X7_105 ft_X7 hB a_h0 sh_7 (As := [.int 129]) (c_X7_takes l D tys base G26 h0 g27 r28 a_h0 n_g27 129 (q_129.wk (by decide))) ⟨rfl, rfl⟩ ⟨Nat.le_of_ble_eq_true rfl, Nat.le_of_ble_eq_true rfl⟩ ⟨Nat.le_of_ble_eq_true rfl, Nat.le_of_ble_eq_true rfl⟩ rfl rfl hl.1 (Nat.le_of_ble_eq_true rfl) dX7_readHourLine_57 (fun x33 G9 H locs hq hB => ?_)
          obtain ⟨hm, i_x33, eq34⟩ := hq
          obtain ⟨G35, hG9⟩ : ∃ g, g = G9 := ⟨_, rfl⟩
          rw [← hG9] at hm hB
          have hM := hM.stp hm.weak (by decide)
          obtain ⟨g36, r37, a_h0, f_g36⟩ := hm.ex a_h0
          have n_g36 := iv_nxt hB a_h0 f_g36 n_g27
          have e38 : x12 = g36 8 := e29.trans (f_g36.2.1 8 (show (8 : Nat) ∈ iv_stab 7 from by decide)).symm
          refine lv_if_ne (tgt := 65) hx hb dX7_readHourLine_60 (by decide) (fun c39 => ?_) (fun c39 => ?_)
          · skip
            have i39_x33 : iv_R 1 1 x33 := iv_ne_lo c39 i_x33 q_0 (by decide)
            refine lv_aload_n hx hb dX7_readHourLine_65 rfl (lv_at hl 1 rfl) ?_
            refine iv_geti X ft_X7 hB a_h0 sh_7 3 (by decide) rfl k_fl_X7_92 dX7_readHourLine_66 (fun x41 e_x41 i_x41 => ?_)
            refine lv_istore_n (lv' := [(3, .int x41), (2, .int x23), (0, .ref h0), (1, .int x_0)]) hx hb dX7_readHourLine_69 rfl hl (by decide) rfl (fun ls hl => ?_)
            refine lv_aload_n hx hb dX7_readHourLine_70 rfl (lv_at hl 2 rfl) ?_
            refine lv_iconst (v := 0) hx hb dX7_readHourLine_71 (by decide) ?_
            refine lv_bipush (v := 23) hx hb dX7_readHourLine_72 (by decide) ?_
            refine iv_cVi X k_good k_mf_X7_takesNumber k_im_X7_takesNumber k_sel_X7_takesNumber k_ml_X7_108 ft_X7 hB a_h0 sh_7 (As := [.int 0, .int 23]) (c_X7_takesNumber l D tys base G35 h0 g36 r37 a_h0 n_g36 0 (q_0.wk (by decide)) 23 (q_23.wk (by decide))) ⟨rfl, rfl⟩ ⟨Nat.le_of_ble_eq_true rfl, Nat.le_of_ble_eq_true rfl⟩ ⟨Nat.le_of_ble_eq_true rfl, Nat.le_of_ble_eq_true rfl⟩ rfl rfl hl.1 (Nat.le_of_ble_eq_true rfl) dX7_readHourLine_74 (fun x42 G9 H locs hq hB => ?_)
            obtain ⟨hm, i_x42⟩ := hq
            obtain ⟨G43, hG9⟩ : ∃ g, g = G9 := ⟨_, rfl⟩
            rw [← hG9] at hm hB
            have hM := hM.stp hm.weak (by decide)
            obtain ⟨g44, r45, a_h0, f_g44⟩ := hm.ex a_h0
            have n_g44 := iv_nxt hB a_h0 f_g44 n_g36
            have e46 : x12 = g44 8 := e38.trans (f_g44.2.1 8 (show (8 : Nat) ∈ iv_stab 7 from by decide)).symm
            refine lv_if_eq (tgt := 90) hx hb dX7_readHourLine_77 (by decide) (fun c47 => ?_) (fun c47 => ?_)
            · skip
              have i47_x42 : iv_R 0 0 x42 := (i_x42.cutHi (n := 0) (iv_eq_r c47 q_0).2)
              refine lv_iconst (v := 0) hx hb dX7_readHourLine_90 (by decide) ?_
              exact iv_zret X hr hlocks hB (q_0.wk (by decide)) ⟨⟨hM, fun g9 r9 h9 => by have h8 := a_h0.symm.trans h9; cases h8; exact n_g44⟩, (q_0.wk (by decide))⟩ dX7_readHourLine_91
            · skip
              have i48_x42 : iv_R 1 1 x42 := iv_ne_lo c47 i_x42 q_0 (by decide)
              refine lv_aload_n hx hb dX7_readHourLine_80 rfl (lv_at hl 2 rfl) ?_
              refine lv_sipush (v := 130) hx hb dX7_readHourLine_81 (by decide) ?_
              refine iv_cVi X k_good k_mf_X7_takes k_im_X7_takes k_sel_X7_takes k_ml_X7_105 ft_X7 hB a_h0 sh_7 (As := [.int 130]) (c_X7_takes l D tys base G43 h0 g44 r45 a_h0 n_g44 130 (q_130.wk (by decide))) ⟨rfl, rfl⟩ ⟨Nat.le_of_ble_eq_true rfl, Nat.le_of_ble_eq_true rfl⟩ ⟨Nat.le_of_ble_eq_true rfl, Nat.le_of_ble_eq_true rfl⟩ rfl rfl hl.1 (Nat.le_of_ble_eq_true rfl) dX7_readHourLine_84 (fun x50 G9 H locs hq hB => ?_)
              obtain ⟨hm, i_x50, eq51⟩ := hq
              obtain ⟨G52, hG9⟩ : ∃ g, g = G9 := ⟨_, rfl⟩
              rw [← hG9] at hm hB
              have hM := hM.stp hm.weak (by decide)
              obtain ⟨g53, r54, a_h0, f_g53⟩ := hm.ex a_h0
              have n_g53 := iv_nxt hB a_h0 f_g53 n_g44
              have e55 : x12 = g53 8 := e46.trans (f_g53.2.1 8 (show (8 : Nat) ∈ iv_stab 7 from by decide)).symm
              refine lv_if_ne (tgt := 92) hx hb dX7_readHourLine_87 (by decide) (fun c56 => ?_) (fun c56 => ?_)
              · skip
                have i56_x50 : iv_R 1 1 x50 := iv_ne_lo c56 i_x50 q_0 (by decide)
                refine lv_aload_n hx hb dX7_readHourLine_92 rfl (lv_at hl 2 rfl) ?_
                refine iv_geti X ft_X7 hB a_h0 sh_7 3 (by decide) rfl k_fl_X7_92 dX7_readHourLine_93 (fun x58 e_x58 i_x58 => ?_)
                refine lv_istore (lv' := [(4, .int x58), (3, .int x41), (2, .int x23), (0, .ref h0), (1, .int x_0)]) hx hb dX7_readHourLine_96 hl (by decide) rfl (fun ls hl => ?_)
                refine lv_aload_n hx hb dX7_readHourLine_98 rfl (lv_at hl 3 rfl) ?_
                refine lv_iconst (v := 1) hx hb dX7_readHourLine_99 (by decide) ?_
                refine lv_bipush (v := 24) hx hb dX7_readHourLine_100 (by decide) ?_
                refine iv_cVi X k_good k_mf_X7_takesNumber k_im_X7_takesNumber k_sel_X7_takesNumber k_ml_X7_108 ft_X7 hB a_h0 sh_7 (As := [.int 1, .int 24]) (c_X7_takesNumber l D tys base G52 h0 g53 r54 a_h0 n_g53 1 (q_1.wk (by decide)) 24 (q_24.wk (by decide))) ⟨rfl, rfl⟩ ⟨Nat.le_of_ble_eq_true rfl, Nat.le_of_ble_eq_true rfl⟩ ⟨Nat.le_of_ble_eq_true rfl, Nat.le_of_ble_eq_true rfl⟩ rfl rfl hl.1 (Nat.le_of_ble_eq_true rfl) dX7_readHourLine_102 (fun x59 G9 H locs hq hB => ?_)
                obtain ⟨hm, i_x59⟩ := hq
                obtain ⟨G60, hG9⟩ : ∃ g, g = G9 := ⟨_, rfl⟩
                rw [← hG9] at hm hB
                have hM := hM.stp hm.weak (by decide)
                obtain ⟨g61, r62, a_h0, f_g61⟩ := hm.ex a_h0
                have n_g61 := iv_nxt hB a_h0 f_g61 n_g53
                have e63 : x12 = g61 8 := e55.trans (f_g61.2.1 8 (show (8 : Nat) ∈ iv_stab 7 from by decide)).symm
                refine lv_if_eq (tgt := 117) hx hb dX7_readHourLine_105 (by decide) (fun c64 => ?_) (fun c64 => ?_)
                · skip
                  have i64_x59 : iv_R 0 0 x59 := (i_x59.cutHi (n := 0) (iv_eq_r c64 q_0).2)
                  refine lv_iconst (v := 0) hx hb dX7_readHourLine_117 (by decide) ?_
                  exact iv_zret X hr hlocks hB (q_0.wk (by decide)) ⟨⟨hM, fun g9 r9 h9 => by have h8 := a_h0.symm.trans h9; cases h8; exact n_g61⟩, (q_0.wk (by decide))⟩ dX7_readHourLine_118
                · skip
                  have i65_x59 : iv_R 1 1 x59 := iv_ne_lo c64 i_x59 q_0 (by decide)
                  refine lv_aload_n hx hb dX7_readHourLine_108 rfl (lv_at hl 3 rfl) ?_
                  refine lv_bipush (v := 59) hx hb dX7_readHourLine_109 (by decide) ?_
                  refine iv_cVi X k_good k_mf_X7_takes k_im_X7_takes k_sel_X7_takes k_ml_X7_105 ft_X7 hB a_h0 sh_7 (As := [.int 59]) (c_X7_takes l D tys base G60 h0 g61 r62 a_h0 n_g61 59 (q_59.wk (by decide))) ⟨rfl, rfl⟩ ⟨Nat.le_of_ble_eq_true rfl, Nat.le_of_ble_eq_true rfl⟩ ⟨Nat.le_of_ble_eq_true rfl, Nat.le_of_ble_eq_true rfl⟩ rfl rfl hl.1 (Nat.le_of_ble_eq_true rfl) dX7_readHourLine_111 (fun x67 G9 H locs hq hB => ?_)
                  obtain ⟨hm, i_x67, eq68⟩ := hq
                  obtain ⟨G69, hG9⟩ : ∃ g, g = G9 := ⟨_, rfl⟩
                  rw [← hG9] at hm hB
                  have hM := hM.stp hm.weak (by decide)
                  obtain ⟨g70, r71, a_h0, f_g70⟩ := hm.ex a_h0
                  have n_g70 := iv_nxt hB a_h0 f_g70 n_g61
                  have e72 : x12 = g70 8 := e63.trans (f_g70.2.1 8 (show (8 : Nat) ∈ iv_stab 7 from by decide)).symm
                  refine lv_if_ne (tgt := 119) hx hb dX7_readHourLine_114 (by decide) (fun c73 => ?_) (fun c73 => ?_)
                  · skip
                    have i73_x67 : iv_R 1 1 x67 := iv_ne_lo c73 i_x67 q_0 (by decide)
                    refine lv_iconst (v := 0) hx hb dX7_readHourLine_119 (by decide) ?_
                    refine lv_istore (lv' := [(5, .int 0), (4, .int x58), (3, .int x41), (2, .int x23), (0, .ref h0), (1, .int x_0)]) hx hb dX7_readHourLine_120 hl (by decide) rfl (fun ls hl => ?_)
                    have L_122 : ∀ (n_122 : Nat) (G78 : iv_G) (hM : iv_Md0 [7, 21] G G78) (H : Heap) (locs : List Loc) (hB : iv_B iv_sh D classes tys base G78 s.heap H locs) (g76 : Nat → Int32) (r77 : Nat → Nat) (a_h0 : G78 h0 = some (7, g76, r77)) (n_g76 : iv_R 0 400 (g76 1)) (m_g76 : iv_R 0 19 (g76 8)) (x75 : Int32) (i_x75 : iv_R 0 2147483647 x75) (hn_122 : (2147483648 - x75.toInt).toNat < n_122) (ls : Array Slot) (hl : lv_has ls 6 [(5, .int x75), (4, .int x58), (3, .int x41), (2, .int x23), (0, .ref h0)]), W p l e ({ frames := 2, cells := 0, slots := 0, locals := 44 } : Room) s m args below meth c H locs 0 0 (MQ below (iv_Qi iv_sh D classes tys base (fun v G' => (iv_Md0 [7, 21] G G' ∧ (∀ (g' : Nat → Int32) (r' : Nat → Nat), G' h0 = some (7, g', r') → iv_R 0 400 (g' 1))) ∧ iv_R 0 1 v)) args s 0 0 (iv_A base)) (F0 m 122 ls []) := by
                      intro n_122
                      induction n_122 with
                      | zero => intro G78 hM H locs hB g76 r77 a_h0 n_g76 m_g76 x75 i_x75 hn_122 ls hl; exact absurd hn_122 (Nat.not_lt_zero _)
                      | succ n_122 ih_122 =>
                        intro G78 hM H locs hB g76 r77 a_h0 n_g76 m_g76 x75 i_x75 hn_122 ls hl
                        refine lv_iload hx hb dX7_readHourLine_122 (lv_at hl 0 rfl) ?_
                        refine lv_iload hx hb dX7_readHourLine_124 (lv_at hl 1 rfl) ?_
                        refine lv_icmp_ge (tgt := 163) hx hb dX7_readHourLine_126 (by decide) (fun c79 => ?_) (fun c79 => ?_)
                        · skip
                          refine lv_aload_n hx hb dX7_readHourLine_163 rfl (lv_at hl 4 rfl) ?_
                          refine lv_dup hx hb dX7_readHourLine_164 rfl ?_
                          refine iv_geti X ft_X7 hB a_h0 sh_7 8 (by decide) rfl k_fl_X7_74 dX7_readHourLine_165 (fun x80 e_x80 i_x80 => ?_)
                          have i80_x80 : iv_R 0 19 x80 := by rw [e_x80]; exact m_g76
                          refine lv_iconst (v := 1) hx hb dX7_readHourLine_168 (by decide) ?_
                          refine iv_iadd hx hb i80_x80 q_1 (lo := 1) (hi := 20) (by decide) dX7_readHourLine_169 (fun x82 e_x82 i_x82 => ?_)
                          refine iv_puti X ft_X7 hB a_h0 sh_7 8 (by decide) rfl rfl k_fl_X7_74 rfl (i_x82.wk (by decide)) rfl rfl dX7_readHourLine_170 (fun H locs hB => ?_)
                          have hm := iv_Md0.put (x := x82) a_h0 (j := 8) (fun h => absurd rfl h)
                          have h9 := iv_up_eq (G := G78) (a := h0) (k := (7, upd g76 8 x82, r77))
                          generalize iv_up G78 h0 _ = G83 at hB hm h9
                          have hM := hM.stp hm (by decide)
                          generalize hgn_g84 : upd g76 _ _ = g84 at h9
                          have a_h0 := h9
                          have e9_g84 : x82 = g84 8 := by rw [← hgn_g84]; simp [upd]
                          have n_g84 : iv_R 0 400 (g84 1) := by rw [← hgn_g84]; exact n_g76
                          refine lv_iconst (v := 1) hx hb dX7_readHourLine_173 (by decide) ?_
                          exact iv_zret X hr hlocks hB (q_1.wk (by decide)) ⟨⟨hM, fun g9 r9 h9 => by have h8 := a_h0.symm.trans h9; cases h8; exact n_g84⟩, (q_1.wk (by decide))⟩ dX7_readHourLine_174
                        · skip
                          have i84_x75 : iv_R 0 2147483646 x75 := (i_x75.cutHi (n := 2147483646) (iv_lt_r (iv_nle c79) i_x58 (by decide)))
                          have i85_x58 : iv_R 1 2147483647 x58 := (i_x58.cutLo (n := 1) (iv_lt_l (iv_nle c79) i_x75 (by decide)))
                          refine lv_iload_n hx hb dX7_readHourLine_129 rfl (lv_at hl 3 rfl) ?_
                          refine lv_iconst (v := 0) hx hb dX7_readHourLine_130 (by decide) ?_
                          refine lv_bipush (v := 9) hx hb dX7_readHourLine_131 (by decide) ?_
                          refine iv_cSNi X k_good k_mf_X11_isWithin k_st_X11_isWithin (k_mn_X7_101 X.2.2) hB (As := [.int x23, .int 0, .int 9]) (c_X11_isWithin l D tys base G78 x23 i_x23 0 (q_0.wk (by decide)) 9 (q_9.wk (by decide))) ⟨rfl, rfl⟩ ⟨Nat.le_of_ble_eq_true rfl, Nat.le_of_ble_eq_true rfl⟩ ⟨Nat.le_of_ble_eq_true rfl, Nat.le_of_ble_eq_true rfl⟩ rfl rfl hl.1 (Nat.le_of_ble_eq_true rfl) dX7_readHourLine_133 (fun x87 G9 H locs hq hB => ?_)
                          obtain ⟨rfl, i_x87, hp88⟩ := hq
                          have k89 : ¬ x87 = 0 → iv_R 0 9 x23 := fun h => ⟨iv_max i_x23.1 (Int.le_trans q_0.1 (hp88.1 h).1) (by decide), iv_min i_x23.2 (Int.le_trans (hp88.1 h).2 q_9.2) (by decide)⟩
                          refine lv_if_eq (tgt := 163) hx hb dX7_readHourLine_136 (by decide) (fun c90 => ?_) (fun c90 => ?_)
                          · skip
                            have i90_x87 : iv_R 0 0 x87 := (i_x87.cutHi (n := 0) (iv_eq_r c90 q_0).2)
                            refine lv_aload_n hx hb dX7_readHourLine_163 rfl (lv_at hl 4 rfl) ?_
                            refine lv_dup hx hb dX7_readHourLine_164 rfl ?_
                            refine iv_geti X ft_X7 hB a_h0 sh_7 8 (by decide) rfl k_fl_X7_74 dX7_readHourLine_165 (fun x92 e_x92 i_x92 => ?_)
                            have i92_x92 : iv_R 0 19 x92 := by rw [e_x92]; exact m_g76
                            refine lv_iconst (v := 1) hx hb dX7_readHourLine_168 (by decide) ?_
                            refine iv_iadd hx hb i92_x92 q_1 (lo := 1) (hi := 20) (by decide) dX7_readHourLine_169 (fun x94 e_x94 i_x94 => ?_)
                            refine iv_puti X ft_X7 hB a_h0 sh_7 8 (by decide) rfl rfl k_fl_X7_74 rfl (i_x94.wk (by decide)) rfl rfl dX7_readHourLine_170 (fun H locs hB => ?_)
                            have hm := iv_Md0.put (x := x94) a_h0 (j := 8) (fun h => absurd rfl h)
                            have h9 := iv_up_eq (G := G78) (a := h0) (k := (7, upd g76 8 x94, r77))
                            generalize iv_up G78 h0 _ = G95 at hB hm h9
                            have hM := hM.stp hm (by decide)
                            generalize hgn_g96 : upd g76 _ _ = g96 at h9
                            have a_h0 := h9
                            have e9_g96 : x94 = g96 8 := by rw [← hgn_g96]; simp [upd]
                            have n_g96 : iv_R 0 400 (g96 1) := by rw [← hgn_g96]; exact n_g76
                            refine lv_iconst (v := 1) hx hb dX7_readHourLine_173 (by decide) ?_
                            exact iv_zret X hr hlocks hB (q_1.wk (by decide)) ⟨⟨hM, fun g9 r9 h9 => by have h8 := a_h0.symm.trans h9; cases h8; exact n_g96⟩, (q_1.wk (by decide))⟩ dX7_readHourLine_174
                          · skip
                            have i96_x87 : iv_R 1 1 x87 := iv_ne_lo c90 i_x87 q_0 (by decide)
                            have i97_x23 : iv_R 0 9 x23 := ((i_x23.cutLo (n := 0) (k89 c90).1).cutHi (n := 9) (k89 c90).2)
                            refine lv_aload_n hx hb dX7_readHourLine_139 rfl (lv_at hl 4 rfl) ?_
                            refine iv_getr X ft_X7 hB a_h0 sh_7 9 (by decide) rfl k_fl_X7_22 dX7_readHourLine_140 (fun b99 g_b99 r_b99 e_b99 a_b99 => ?_)
                            refine lv_iload_n hx hb dX7_readHourLine_143 rfl (lv_at hl 3 rfl) ?_
                            refine lv_dup2_11 hx hb dX7_readHourLine_144 rfl rfl ?_
                            refine iv_ald X hB a_b99 sh_21 (iv_in i97_x23 (by decide)) dX7_readHourLine_145 (fun x100 e_x100 i_x100 => ?_)
                            refine lv_iconst (v := 1) hx hb dX7_readHourLine_146 (by decide) ?_
                            refine lv_iload_n hx hb dX7_readHourLine_147 rfl (lv_at hl 2 rfl) ?_
                            refine lv_iload hx hb dX7_readHourLine_148 (lv_at hl 0 rfl) ?_
                            refine lv_iadd hx hb dX7_readHourLine_150 ?_
                            refine lv_topi (fun x101 e_x101 => ?_)
                            have i_x101 := iv_R.all x101
                            refine lv_bipush (v := 24) hx hb dX7_readHourLine_151 (by decide) ?_
                            refine iv_irem hx hb i_x101 q_24 (lo := (-23)) (hi := 23) (by decide) dX7_readHourLine_153 (fun x102 e_x102 i_x102 => ?_)
                            refine lv_ishl hx hb dX7_readHourLine_154 ?_
                            refine lv_topi (fun x103 e_x103 => ?_)
                            have i_x103 := iv_R.all x103
                            refine lv_ior hx hb dX7_readHourLine_155 ?_
                            refine lv_topi (fun x104 e_x104 => ?_)
                            have i_x104 := iv_R.all x104
                            refine iv_ast X hB a_b99 sh_21 (iv_in i97_x23 (by decide)) i_x104 dX7_readHourLine_156 (fun H locs hB => ?_)
                            have hm := iv_Md.ast (j := x23.toNatClampNeg) (x := x104) a_b99 rfl (by decide)
                            have h9 := iv_up_eq (G := G78) (a := b99) (k := (21, upd g_b99 x23.toNatClampNeg x104, r_b99))
                            generalize iv_up G78 b99 _ = G105 at hB hm h9
                            have hM := hM.stp hm.weak (by decide)
                            have a_h0 := hm.at a_h0 (by decide)
                            refine iv_iinc hx hb i84_x75 (lo := 1) (hi := 2147483647) (by decide) dX7_readHourLine_157 hl (k := 0) rfl (by decide) (fun x107 ls e_x107 i_x107 hl => ?_)
                            have hl : lv_has ls 6 [(5, .int x107), (4, .int x58), (3, .int x41), (2, .int x23), (0, .ref h0)] := hl
                            refine lv_goto (tgt := 122) hx hb dX7_readHourLine_160 (by decide) ?_
                            exact ih_122 G105 hM _ _ hB g76 r77 a_h0 n_g76 m_g76 x107 (i_x107.wk (by decide)) (iv_mup (c := 1) i_x75 (by decide) (by decide) (by omega) hn_122) _ (lv_sub hl [0, 1, 2, 3, 4] rfl)
                    exact L_122 _ G69 hM _ _ hB g70 r71 a_h0 n_g70 (by rw [← e72]; exact i13_x12) 0 (q_0.wk (by decide)) (Nat.lt_succ_self _) _ (lv_sub hl [0, 1, 2, 3, 4] rfl)
                  · skip
                    have i107_x67 : iv_R 0 0 x67 := (i_x67.cutHi (n := 0) (iv_eq_r c73 q_0).2)
                    refine lv_iconst (v := 0) hx hb dX7_readHourLine_117 (by decide) ?_
                    exact iv_zret X hr hlocks hB (q_0.wk (by decide)) ⟨⟨hM, fun g9 r9 h9 => by have h8 := a_h0.symm.trans h9; cases h8; exact n_g70⟩, (q_0.wk (by decide))⟩ dX7_readHourLine_118
              · skip
                have i108_x50 : iv_R 0 0 x50 := (i_x50.cutHi (n := 0) (iv_eq_r c56 q_0).2)
                refine lv_iconst (v := 0) hx hb dX7_readHourLine_90 (by decide) ?_
                exact iv_zret X hr hlocks hB (q_0.wk (by decide)) ⟨⟨hM, fun g9 r9 h9 => by have h8 := a_h0.symm.trans h9; cases h8; exact n_g53⟩, (q_0.wk (by decide))⟩ dX7_readHourLine_91
          · skip
            have i109_x33 : iv_R 0 0 x33 := (i_x33.cutHi (n := 0) (iv_eq_r c39 q_0).2)
            refine lv_iconst (v := 0) hx hb dX7_readHourLine_63 (by decide) ?_
            exact iv_zret X hr hlocks hB (q_0.wk (by decide)) ⟨⟨hM, fun g9 r9 h9 => by have h8 := a_h0.symm.trans h9; cases h8; exact n_g36⟩, (q_0.wk (by decide))⟩ dX7_readHourLine_64
      · skip
        have i110_x15 : iv_R 0 0 x15 := (i_x15.cutHi (n := 0) (iv_eq_r c21 q_0).2)
        refine lv_iconst (v := 0) hx hb dX7_readHourLine_35 (by decide) ?_
        exact iv_zret X hr hlocks hB (q_0.wk (by decide)) ⟨⟨hM, fun g9 r9 h9 => by have h8 := a_h0.symm.trans h9; cases h8; exact n_g18⟩, (q_0.wk (by decide))⟩ dX7_readHourLine_36
    · skip
      have i111_x12 : iv_R 20 20 x12 := (i_x12.cutLo (n := 20) (iv_le_l (iv_nlt c13) q_20))
      refine lv_aload_n hx hb dX7_readHourLine_19 rfl (lv_at hl 0 rfl) ?_
      refine lv_iconst (v := 3) hx hb dX7_readHourLine_20 (by decide) ?_
      refine iv_cVi X k_good k_mf_X7_refuse k_im_X7_refuse k_sel_X7_refuse k_ml_X7_98 ft_X7 hB a_h0 sh_7 (As := [.int 3]) (c_X7_refuse l D tys base G h0 g_h0 r_h0 a_h0 n_g_h0 3 (q_3.wk (by decide))) ⟨rfl, rfl⟩ ⟨Nat.le_of_ble_eq_true rfl, Nat.le_of_ble_eq_true rfl⟩ ⟨Nat.le_of_ble_eq_true rfl, Nat.le_of_ble_eq_true rfl⟩ rfl rfl hl.1 (Nat.le_of_ble_eq_true rfl) dX7_readHourLine_21 (fun x113 G9 H locs hq hB => ?_)
      obtain ⟨hm, i_x113⟩ := hq
      obtain ⟨G114, hG9⟩ : ∃ g, g = G9 := ⟨_, rfl⟩
      rw [← hG9] at hm hB
      have hM := hM.stp hm.weak (by decide)
      obtain ⟨g115, r116, a_h0, f_g115⟩ := hm.ex a_h0
      have n_g115 := iv_nxt hB a_h0 f_g115 n_g_h0
      have e117 : x12 = g115 8 := e_x12.trans (f_g115.2.1 8 (show (8 : Nat) ∈ iv_stab 7 from by decide)).symm
      exact iv_zret X hr hlocks hB (i_x113.wk (by decide)) ⟨⟨hM, fun g9 r9 h9 => by have h8 := a_h0.symm.trans h9; cases h8; exact n_g115⟩, (i_x113.wk (by decide))⟩ dX7_readHourLine_24
