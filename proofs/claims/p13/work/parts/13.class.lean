theorem dX1_become_0 : decode cX1_become 0 = .ok (.aload_n 0, 1) := by decide +kernel
theorem dX1_become_1 : decode cX1_become 1 = .ok (.aload_n 1, 1) := by decide +kernel
theorem dX1_become_2 : decode cX1_become 2 = .ok (.getfield 9, 3) := by decide +kernel
theorem dX1_become_5 : decode cX1_become 5 = .ok (.aload_n 1, 1) := by decide +kernel
theorem dX1_become_6 : decode cX1_become 6 = .ok (.getfield 15, 3) := by decide +kernel
theorem dX1_become_9 : decode cX1_become 9 = .ok (.aload_n 1, 1) := by decide +kernel
theorem dX1_become_10 : decode cX1_become 10 = .ok (.getfield 18, 3) := by decide +kernel
theorem dX1_become_13 : decode cX1_become 13 = .ok (.aload_n 1, 1) := by decide +kernel
theorem dX1_become_14 : decode cX1_become 14 = .ok (.getfield 21, 3) := by decide +kernel
theorem dX1_become_17 : decode cX1_become 17 = .ok (.invokevirtual 36, 3) := by decide +kernel
theorem dX1_become_20 : decode cX1_become 20 = .ok (.aload_n 0, 1) := by decide +kernel
theorem dX1_become_21 : decode cX1_become 21 = .ok (.aload_n 1, 1) := by decide +kernel
theorem dX1_become_22 : decode cX1_become 22 = .ok (.getfield 24, 3) := by decide +kernel
theorem dX1_become_25 : decode cX1_become 25 = .ok (.putfield 24, 3) := by decide +kernel
theorem dX1_become_28 : decode cX1_become 28 = .ok (.aload_n 0, 1) := by decide +kernel
theorem dX1_become_29 : decode cX1_become 29 = .ok (.aload_n 1, 1) := by decide +kernel
theorem dX1_become_30 : decode cX1_become 30 = .ok (.getfield 27, 3) := by decide +kernel
theorem dX1_become_33 : decode cX1_become 33 = .ok (.putfield 27, 3) := by decide +kernel
theorem dX1_become_36 : decode cX1_become 36 = .ok (.aload_n 0, 1) := by decide +kernel
theorem dX1_become_37 : decode cX1_become 37 = .ok (.aload_n 1, 1) := by decide +kernel
theorem dX1_become_38 : decode cX1_become 38 = .ok (.getfield 30, 3) := by decide +kernel
theorem dX1_become_41 : decode cX1_become 41 = .ok (.putfield 30, 3) := by decide +kernel
theorem dX1_become_44 : decode cX1_become 44 = .ok (.aload_n 0, 1) := by decide +kernel
theorem dX1_become_45 : decode cX1_become 45 = .ok (.aload_n 1, 1) := by decide +kernel
theorem dX1_become_46 : decode cX1_become 46 = .ok (.getfield 33, 3) := by decide +kernel
theorem dX1_become_49 : decode cX1_become 49 = .ok (.putfield 33, 3) := by decide +kernel
theorem dX1_become_52 : decode cX1_become 52 = .ok (.return_, 1) := by decide +kernel
set_option maxHeartbeats 4000000 in
set_option maxRecDepth 100000 in
theorem c_X1_become (l : Launch) (D : va_G) (tys : List (ClassId × FieldType)) (base : Nat) (G : iv_G) (h0 : Nat) (g_h0 : Nat → Int32) (r_h0 : Nat → Nat) (a_h0 : G h0 = some (1, g_h0, r_h0)) (h1 : Nat) (g_h1 : Nat → Int32) (r_h1 : Nat → Nat) (a_h1 : G h1 = some (1, g_h1, r_h1)) : Met l yX1_become (Cond.code yX1_become cX1_become 2 none :: iv_W0) ({ frames := 1, cells := 0, slots := 0, locals := 24 }) (iv_Pc iv_sh D classes tys base G [.ref h0, .ref h1]) (iv_Qv iv_sh D classes tys base (fun G' => iv_Md [1] G G')) 0 0 (iv_A base) := by
  refine iv_head (by decide) (Nat.le_of_ble_eq_true rfl) ?_
  intro p e s m args below meth c ls X hr hlocks hname hB hl
  have X := X
  have hx := X.1.1
  have hb := X.1.2.1
  have hM : iv_Md [1] G G := iv_Md.rf
  have hl : lv_has ls 2 [(0, .ref h0), (1, .ref h1)] := hl
  refine lv_aload_n hx hb dX1_become_0 rfl (lv_at hl 0 rfl) ?_
  refine lv_aload_n hx hb dX1_become_1 rfl (lv_at hl 1 rfl) ?_
  refine iv_geti X ft_X1 hB a_h1 sh_1 0 (by decide) rfl k_fl_X1_9 dX1_become_2 (fun x1 e_x1 i_x1 => ?_)
  refine lv_aload_n hx hb dX1_become_5 rfl (lv_at hl 1 rfl) ?_
  refine iv_geti X ft_X1 hB a_h1 sh_1 1 (by decide) rfl k_fl_X1_15 dX1_become_6 (fun x2 e_x2 i_x2 => ?_)
  refine lv_aload_n hx hb dX1_become_9 rfl (lv_at hl 1 rfl) ?_
  refine iv_geti X ft_X1 hB a_h1 sh_1 2 (by decide) rfl k_fl_X1_18 dX1_become_10 (fun x3 e_x3 i_x3 => ?_)
  refine lv_aload_n hx hb dX1_become_13 rfl (lv_at hl 1 rfl) ?_
  refine iv_geti X ft_X1 hB a_h1 sh_1 3 (by decide) rfl k_fl_X1_21 dX1_become_14 (fun x4 e_x4 i_x4 => ?_)
  refine iv_cVv X k_good k_mf_X1_begin k_im_X1_begin k_sel_X1_begin k_ml_X1_36 ft_X1 hB a_h0 sh_1 (As := [.int x1, .int x2, .int x3, .int x4]) (c_X1_begin l D tys base G h0 g_h0 r_h0 a_h0 x1 i_x1 x2 i_x2 x3 i_x3 x4 i_x4) ⟨rfl, rfl⟩ ⟨Nat.le_of_ble_eq_true rfl, Nat.le_of_ble_eq_true rfl⟩ ⟨Nat.le_of_ble_eq_true rfl, Nat.le_of_ble_eq_true rfl⟩ rfl rfl hl.1 (Nat.le_of_ble_eq_true rfl) dX1_become_17 (fun G9 H locs hq hB => ?_)
  have hm := hq
  obtain ⟨G5, hG9⟩ : ∃ g, g = G9 := ⟨_, rfl⟩
  rw [← hG9] at hm hB
  have hM := hM.stp hm (by decide)
  obtain ⟨g6, r7, a_h0, f_g6⟩ := hm.ex a_h0
  obtain ⟨g8, r9, a_h1, f_g8⟩ := hm.ex a_h1
  refine lv_aload_n hx hb dX1_become_20 rfl (lv_at hl 0 rfl) ?_
  refine lv_aload_n hx hb dX1_become_21 rfl (lv_at hl 1 rfl) ?_
  refine iv_geti X ft_X1 hB a_h1 sh_1 4 (by decide) rfl k_fl_X1_24 dX1_become_22 (fun x10 e_x10 i_x10 => ?_)
  refine iv_puti X ft_X1 hB a_h0 sh_1 4 (by decide) rfl rfl k_fl_X1_24 rfl i_x10 rfl rfl dX1_become_25 (fun H locs hB => ?_)
  have hm := iv_Md.put (x := x10) a_h0 (j := 4) (by decide) (by decide)
  have h9 := iv_up_eq (G := G5) (a := h0) (k := (1, upd g6 4 x10, r7))
  generalize iv_up G5 h0 _ = G11 at hB hm h9
  have hM := hM.stp hm (by decide)
  generalize hgn_g12 : upd g6 _ _ = g12 at h9
  obtain ⟨g13, r14, a_h1, f_g13⟩ := hm.ex a_h1
  have a_h0 := h9
  have e9_g12 : x10 = g12 4 := by rw [← hgn_g12]; simp [upd]
  refine lv_aload_n hx hb dX1_become_28 rfl (lv_at hl 0 rfl) ?_
  refine lv_aload_n hx hb dX1_become_29 rfl (lv_at hl 1 rfl) ?_
  refine iv_geti X ft_X1 hB a_h1 sh_1 5 (by decide) rfl k_fl_X1_27 dX1_become_30 (fun x15 e_x15 i_x15 => ?_)
  refine iv_puti X ft_X1 hB a_h0 sh_1 5 (by decide) rfl rfl k_fl_X1_27 rfl i_x15 rfl rfl dX1_become_33 (fun H locs hB => ?_)
  have hm := iv_Md.put (x := x15) a_h0 (j := 5) (by decide) (by decide)
  have h9 := iv_up_eq (G := G11) (a := h0) (k := (1, upd g12 5 x15, r7))
  generalize iv_up G11 h0 _ = G16 at hB hm h9
  have hM := hM.stp hm (by decide)
  generalize hgn_g17 : upd g12 _ _ = g17 at h9
  obtain ⟨g18, r19, a_h1, f_g18⟩ := hm.ex a_h1
  have a_h0 := h9
  have e20 : x10 = g17 4 := by rw [← hgn_g17]; exact e9_g12
  have e9_g17 : x15 = g17 5 := by rw [← hgn_g17]; simp [upd]
  refine lv_aload_n hx hb dX1_become_36 rfl (lv_at hl 0 rfl) ?_
  refine lv_aload_n hx hb dX1_become_37 rfl (lv_at hl 1 rfl) ?_
  refine iv_geti X ft_X1 hB a_h1 sh_1 6 (by decide) rfl k_fl_X1_30 dX1_become_38 (fun x21 e_x21 i_x21 => ?_)
  refine iv_puti X ft_X1 hB a_h0 sh_1 6 (by decide) rfl rfl k_fl_X1_30 rfl i_x21 rfl rfl dX1_become_41 (fun H locs hB => ?_)
  have hm := iv_Md.put (x := x21) a_h0 (j := 6) (by decide) (by decide)
  have h9 := iv_up_eq (G := G16) (a := h0) (k := (1, upd g17 6 x21, r7))
  generalize iv_up G16 h0 _ = G22 at hB hm h9
  have hM := hM.stp hm (by decide)
  generalize hgn_g23 : upd g17 _ _ = g23 at h9
  obtain ⟨g24, r25, a_h1, f_g24⟩ := hm.ex a_h1
  have a_h0 := h9
  have e26 : x10 = g23 4 := by rw [← hgn_g23]; exact e20
  have e27 : x15 = g23 5 := by rw [← hgn_g23]; exact e9_g17
  have e9_g23 : x21 = g23 6 := by rw [← hgn_g23]; simp [upd]
  refine lv_aload_n hx hb dX1_become_44 rfl (lv_at hl 0 rfl) ?_
  refine lv_aload_n hx hb dX1_become_45 rfl (lv_at hl 1 rfl) ?_
  refine iv_geti X ft_X1 hB a_h1 sh_1 7 (by decide) rfl k_fl_X1_33 dX1_become_46 (fun x28 e_x28 i_x28 => ?_)
  refine iv_puti X ft_X1 hB a_h0 sh_1 7 (by decide) rfl rfl k_fl_X1_33 rfl i_x28 rfl rfl dX1_become_49 (fun H locs hB => ?_)
  have hm := iv_Md.put (x := x28) a_h0 (j := 7) (by decide) (by decide)
  have h9 := iv_up_eq (G := G22) (a := h0) (k := (1, upd g23 7 x28, r7))
  generalize iv_up G22 h0 _ = G29 at hB hm h9
  have hM := hM.stp hm (by decide)
  generalize hgn_g30 : upd g23 _ _ = g30 at h9
  obtain ⟨g31, r32, a_h1, f_g31⟩ := hm.ex a_h1
  have a_h0 := h9
  have e33 : x10 = g30 4 := by rw [← hgn_g30]; exact e26
  have e34 : x15 = g30 5 := by rw [← hgn_g30]; exact e27
  have e35 : x21 = g30 6 := by rw [← hgn_g30]; exact e9_g23
  have e9_g30 : x28 = g30 7 := by rw [← hgn_g30]; simp [upd]
  exact iv_vret X hr hlocks hB hM dX1_become_52
