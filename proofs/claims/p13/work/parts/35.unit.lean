theorem dX12_bad_0 : decode cX12_bad 0 = .ok (.aload_n 0, 1) := by decide +kernel
theorem dX12_bad_1 : decode cX12_bad 1 = .ok (.iload_n 1, 1) := by decide +kernel
theorem dX12_bad_2 : decode cX12_bad 2 = .ok (.putfield 180, 3) := by decide +kernel
theorem dX12_bad_5 : decode cX12_bad 5 = .ok (.aload_n 0, 1) := by decide +kernel
theorem dX12_bad_6 : decode cX12_bad 6 = .ok (.aload_n 0, 1) := by decide +kernel
theorem dX12_bad_7 : decode cX12_bad 7 = .ok (.getfield 88, 3) := by decide +kernel
theorem dX12_bad_10 : decode cX12_bad 10 = .ok (.putfield 183, 3) := by decide +kernel
theorem dX12_bad_13 : decode cX12_bad 13 = .ok (.iconst 0, 1) := by decide +kernel
theorem dX12_bad_14 : decode cX12_bad 14 = .ok (.ireturn, 1) := by decide +kernel
set_option maxHeartbeats 4000000 in
set_option maxRecDepth 100000 in
theorem c_X12_bad (l : Launch) (D : va_G) (tys : List (ClassId × FieldType)) (base : Nat) (G : iv_G) (h0 : Nat) (g_h0 : Nat → Int32) (r_h0 : Nat → Nat) (a_h0 : G h0 = some (12, g_h0, r_h0)) (x_0 : Int32) (i_x_0 : iv_R 1 3 x_0) (hJ : iv_J g_h0) : Met l yX12_bad (Cond.code yX12_bad cX12_bad 2 (some .boolean) :: iv_W0) ({ frames := 0, cells := 0, slots := 0, locals := 0 }) (iv_Pc iv_sh D classes tys base G [.ref h0, .int x_0]) (iv_Qi iv_sh D classes tys base (fun v G' => iv_Md [12] G G' ∧ iv_R 0 0 v ∧ iv_pr 0 0 h0 G G')) 0 0 (iv_A base) := by
  refine iv_head (by decide) (Nat.le_of_ble_eq_true rfl) ?_
  intro p e s m args below meth c ls X hr hlocks hname hB hl
  have X := X
  have hx := X.1.1
  have hb := X.1.2.1
  have hM : iv_Md [12] G G := iv_Md.rf
  have a_st := a_h0
  have a_lb := a_h0
  have hP : iv_pr 0 0 h0 G G := iv_pr.rf a_h0 hJ
  have hL : iv_pr 0 0 h0 G G := hP
  have hl : lv_has ls 2 [(0, .ref h0), (1, .int x_0)] := hl
  refine lv_aload_n hx hb dX12_bad_0 rfl (lv_at hl 0 rfl) ?_
  refine lv_iload_n hx hb dX12_bad_1 rfl (lv_at hl 1 rfl) ?_
  refine iv_puti X ft_X12 hB a_h0 sh_12 20 (by decide) rfl rfl k_fl_X12_180 rfl (i_x_0.wk (by decide)) rfl rfl dX12_bad_2 (fun H locs hB => ?_)
  have hm := iv_Md.put (x := x_0) a_h0 (j := 20) (by decide) (by decide)
  have h9 := iv_up_eq (G := G) (a := h0) (k := (12, upd g_h0 20 x_0, r_h0))
  have hL := hL.put (x := x_0) a_h0 (j := 20) (by decide)
  generalize iv_up G h0 _ = G1 at hB hm h9 hL
  have hM := hM.stp hm (by decide)
  generalize hgn_g2 : upd g_h0 _ _ = g2 at h9
  have a_h0 := h9
  have e9_g2 : x_0 = g2 20 := by rw [← hgn_g2]; simp [upd]
  refine lv_aload_n hx hb dX12_bad_5 rfl (lv_at hl 0 rfl) ?_
  refine lv_aload_n hx hb dX12_bad_6 rfl (lv_at hl 0 rfl) ?_
  refine iv_geti X ft_X12 hB a_h0 sh_12 18 (by decide) rfl k_fl_X12_88 dX12_bad_7 (fun x3 e_x3 i_x3 => ?_)
  refine iv_puti X ft_X12 hB a_h0 sh_12 21 (by decide) rfl rfl k_fl_X12_183 rfl (i_x3.wk (by decide)) rfl rfl dX12_bad_10 (fun H locs hB => ?_)
  have hm := iv_Md.put (x := x3) a_h0 (j := 21) (by decide) (by decide)
  have h9 := iv_up_eq (G := G1) (a := h0) (k := (12, upd g2 21 x3, r_h0))
  have hL := hL.put (x := x3) a_h0 (j := 21) (by decide)
  generalize iv_up G1 h0 _ = G4 at hB hm h9 hL
  have hM := hM.stp hm (by decide)
  generalize hgn_g5 : upd g2 _ _ = g5 at h9
  have a_h0 := h9
  have e6 : x_0 = g5 20 := by rw [← hgn_g5]; exact e9_g2
  have e7 : x3 = g5 18 := by rw [← hgn_g5]; exact e_x3
  have e9_g5 : x3 = g5 21 := by rw [← hgn_g5]; simp [upd]
  refine lv_iconst (v := 0) hx hb dX12_bad_13 (by decide) ?_
  exact iv_zret X hr hlocks hB (q_0.wk (by decide)) ⟨hM, q_0, ((hP.tr hL).wk (by decide))⟩ dX12_bad_14
theorem dX12_need_0 : decode cX12_need 0 = .ok (.aload_n 0, 1) := by decide +kernel
theorem dX12_need_1 : decode cX12_need 1 = .ok (.getfield 165, 3) := by decide +kernel
theorem dX12_need_4 : decode cX12_need 4 = .ok (.iload_n 1, 1) := by decide +kernel
theorem dX12_need_5 : decode cX12_need 5 = .ok (.if_icmp .eq 9, 3) := by decide +kernel
theorem dX12_need_8 : decode cX12_need 8 = .ok (.aload_n 0, 1) := by decide +kernel
theorem dX12_need_9 : decode cX12_need 9 = .ok (.iconst 1, 1) := by decide +kernel
theorem dX12_need_10 : decode cX12_need 10 = .ok (.invokevirtual 186, 3) := by decide +kernel
theorem dX12_need_13 : decode cX12_need 13 = .ok (.ireturn, 1) := by decide +kernel
theorem dX12_need_14 : decode cX12_need 14 = .ok (.aload_n 0, 1) := by decide +kernel
theorem dX12_need_15 : decode cX12_need 15 = .ok (.invokevirtual 189, 3) := by decide +kernel
theorem dX12_need_18 : decode cX12_need 18 = .ok (.iconst 1, 1) := by decide +kernel
theorem dX12_need_19 : decode cX12_need 19 = .ok (.ireturn, 1) := by decide +kernel
set_option maxHeartbeats 4000000 in
set_option maxRecDepth 100000 in
theorem c_X12_need (l : Launch) (D : va_G) (tys : List (ClassId × FieldType)) (base : Nat) (G : iv_G) (h0 : Nat) (g_h0 : Nat → Int32) (r_h0 : Nat → Nat) (a_h0 : G h0 = some (12, g_h0, r_h0)) (x_0 : Int32) (i_x_0 : iv_R 2 200 x_0) (hJ : iv_J g_h0) : Met l yX12_need (Cond.code yX12_need cX12_need 2 (some .boolean) :: iv_W0) ({ frames := 9, cells := 0, slots := 0, locals := 190 }) (iv_Pc iv_sh D classes tys base G [.ref h0, .int x_0]) (iv_Qi iv_sh D classes tys base (fun v G' => iv_Md [12] G G' ∧ iv_R 0 1 v ∧ iv_pr 0 0 h0 G G' ∧ (¬ v = 0 → iv_pr 1 0 h0 G G'))) 0 0 (iv_A base) := by
  refine iv_head (by decide) (Nat.le_of_ble_eq_true rfl) ?_
  intro p e s m args below meth c ls X hr hlocks hname hB hl
  have X := X
  have hx := X.1.1
  have hb := X.1.2.1
  have hM : iv_Md [12] G G := iv_Md.rf
  have a_st := a_h0
  have a_lb := a_h0
  have hP : iv_pr 0 0 h0 G G := iv_pr.rf a_h0 hJ
  have hL : iv_pr 0 0 h0 G G := hP
  have hl : lv_has ls 2 [(0, .ref h0), (1, .int x_0)] := hl
  refine lv_aload_n hx hb dX12_need_0 rfl (lv_at hl 0 rfl) ?_
  refine iv_geti X ft_X12 hB a_h0 sh_12 17 (by decide) rfl k_fl_X12_165 dX12_need_1 (fun x1 e_x1 i_x1 => ?_)
  refine lv_iload_n hx hb dX12_need_4 rfl (lv_at hl 1 rfl) ?_
  refine lv_icmp_eq (tgt := 14) hx hb dX12_need_5 (by decide) (fun c2 => ?_) (fun c2 => ?_)
  · skip
    have i2_x1 : iv_R 2 200 x1 := ((i_x1.cutLo (n := 2) (iv_eq_r c2 i_x_0).1).cutHi (n := 200) (iv_eq_r c2 i_x_0).2)
    refine lv_aload_n hx hb dX12_need_14 rfl (lv_at hl 0 rfl) ?_
    have a_q4 := a_h0
    have hx_q4 := iv_get64 hB a_h0
    have hs_q4 := iv_s18 hB a_h0
    refine iv_cVv X k_good k_mf_X12_next0 k_im_X12_next0 k_sel_X12_next0 k_ml_X12_189 ft_X12 hB a_h0 sh_12 (As := []) (e_X12_next0 l D tys base G h0 g_h0 r_h0 a_h0) ⟨rfl, rfl⟩ ⟨Nat.le_of_ble_eq_true rfl, Nat.le_of_ble_eq_true rfl⟩ ⟨Nat.le_of_ble_eq_true rfl, Nat.le_of_ble_eq_true rfl⟩ rfl rfl hl.1 (Nat.le_of_ble_eq_true rfl) dX12_need_15 (fun G9 H locs hq hB => ?_)
    obtain ⟨hm, xp5⟩ := hq
    obtain ⟨G6, hG9⟩ : ∃ g, g = G9 := ⟨_, rfl⟩
    rw [← hG9] at hm hB xp5
    have hM := hM.stp hm (by decide)
    obtain ⟨g7, r8, a_h0, f_g7⟩ := hm.ex a_h0
    have hL : iv_pr (1) 0 h0 G G6 := (hL.next1 hm a_q4 xp5 (by rw [← e_x1]; exact Int.le_trans (by decide) i2_x1.1)).wk (by decide)
    refine lv_iconst (v := 1) hx hb dX12_need_18 (by decide) ?_
    exact iv_zret X hr hlocks hB (q_1.wk (by decide)) ⟨hM, (q_1.wk (by decide)), ⟨((hP.tr hL).wk (by decide)), fun _ => (hP.tr hL).wk (by decide)⟩⟩ dX12_need_19
  · skip
    refine lv_aload_n hx hb dX12_need_8 rfl (lv_at hl 0 rfl) ?_
    refine lv_iconst (v := 1) hx hb dX12_need_9 (by decide) ?_
    have a_q9 := a_h0
    have hx_q9 := iv_get64 hB a_h0
    have hs_q9 := iv_s18 hB a_h0
    refine iv_cVi X k_good k_mf_X12_bad k_im_X12_bad k_sel_X12_bad k_ml_X12_186 ft_X12 hB a_h0 sh_12 (As := [.int 1]) (c_X12_bad l D tys base G h0 g_h0 r_h0 a_h0 1 (q_1.wk (by decide)) (hL.J a_lb a_h0)) ⟨rfl, rfl⟩ ⟨Nat.le_of_ble_eq_true rfl, Nat.le_of_ble_eq_true rfl⟩ ⟨Nat.le_of_ble_eq_true rfl, Nat.le_of_ble_eq_true rfl⟩ rfl rfl hl.1 (Nat.le_of_ble_eq_true rfl) dX12_need_10 (fun x10 G9 H locs hq hB => ?_)
    obtain ⟨hm, i_x10, xp11⟩ := hq
    obtain ⟨G12, hG9⟩ : ∃ g, g = G9 := ⟨_, rfl⟩
    rw [← hG9] at hm hB xp11
    have hM := hM.stp hm (by decide)
    obtain ⟨g13, r14, a_h0, f_g13⟩ := hm.ex a_h0
    have hL : iv_pr (0) 0 h0 G G12 := (hL.tr xp11).wk (by decide)
    exact iv_zret X hr hlocks hB (i_x10.wk (by decide)) ⟨hM, (i_x10.wk (by decide)), ⟨((hP.tr hL).wk (by decide)), fun h => absurd (iv_z i_x10) h⟩⟩ dX12_need_13
theorem dX12_opens_0 : decode cX12_opens 0 = .ok (.aload_n 0, 1) := by decide +kernel
theorem dX12_opens_1 : decode cX12_opens 1 = .ok (.getfield 195, 3) := by decide +kernel
theorem dX12_opens_4 : decode cX12_opens 4 = .ok (.bipush 8, 2) := by decide +kernel
theorem dX12_opens_6 : decode cX12_opens 6 = .ok (.if_icmp .ne 9, 3) := by decide +kernel
theorem dX12_opens_9 : decode cX12_opens 9 = .ok (.aload_n 0, 1) := by decide +kernel
theorem dX12_opens_10 : decode cX12_opens 10 = .ok (.iconst 3, 1) := by decide +kernel
theorem dX12_opens_11 : decode cX12_opens 11 = .ok (.invokevirtual 186, 3) := by decide +kernel
theorem dX12_opens_14 : decode cX12_opens 14 = .ok (.ireturn, 1) := by decide +kernel
theorem dX12_opens_15 : decode cX12_opens 15 = .ok (.aload_n 0, 1) := by decide +kernel
theorem dX12_opens_16 : decode cX12_opens 16 = .ok (.dup, 1) := by decide +kernel
theorem dX12_opens_17 : decode cX12_opens 17 = .ok (.getfield 195, 3) := by decide +kernel
theorem dX12_opens_20 : decode cX12_opens 20 = .ok (.iconst 1, 1) := by decide +kernel
theorem dX12_opens_21 : decode cX12_opens 21 = .ok (.iadd, 1) := by decide +kernel
theorem dX12_opens_22 : decode cX12_opens 22 = .ok (.putfield 195, 3) := by decide +kernel
theorem dX12_opens_25 : decode cX12_opens 25 = .ok (.aload_n 0, 1) := by decide +kernel
theorem dX12_opens_26 : decode cX12_opens 26 = .ok (.invokevirtual 189, 3) := by decide +kernel
theorem dX12_opens_29 : decode cX12_opens 29 = .ok (.iconst 1, 1) := by decide +kernel
theorem dX12_opens_30 : decode cX12_opens 30 = .ok (.ireturn, 1) := by decide +kernel
set_option maxHeartbeats 4000000 in
set_option maxRecDepth 100000 in
theorem c_X12_opens (l : Launch) (D : va_G) (tys : List (ClassId × FieldType)) (base : Nat) (G : iv_G) (h0 : Nat) (g_h0 : Nat → Int32) (r_h0 : Nat → Nat) (a_h0 : G h0 = some (12, g_h0, r_h0)) (hJ : iv_J g_h0) (ht : 2 ≤ (g_h0 17).toInt) : Met l yX12_opens (Cond.code yX12_opens cX12_opens 1 (some .boolean) :: iv_W0) ({ frames := 9, cells := 0, slots := 0, locals := 190 }) (iv_Pc iv_sh D classes tys base G [.ref h0]) (iv_Qi iv_sh D classes tys base (fun v G' => iv_MdT [12] G G' ∧ iv_R 0 1 v ∧ iv_pr 0 0 h0 G G' ∧ iv_s13 h0 G G' ∧ (¬ v = 0 → iv_pr 1 0 h0 G G'))) 0 0 (iv_A base) := by
  refine iv_head (by decide) (Nat.le_of_ble_eq_true rfl) ?_
  intro p e s m args below meth c ls X hr hlocks hname hB hl
  have X := X
  have hx := X.1.1
  have hb := X.1.2.1
  have hM : iv_MdT [12] G G := iv_MdT.rf
  have a_st := a_h0
  have a_lb := a_h0
  have hP : iv_pr 0 0 h0 G G := iv_pr.rf a_h0 hJ
  have hL : iv_pr 0 0 h0 G G := hP
  have hl : lv_has ls 1 [(0, .ref h0)] := hl
  obtain ⟨x13, e_x13⟩ : ∃ x, x = g_h0 13 := ⟨_, rfl⟩
  obtain ⟨x17, e_x17⟩ : ∃ x, x = g_h0 17 := ⟨_, rfl⟩
  refine lv_aload_n hx hb dX12_opens_0 rfl (lv_at hl 0 rfl) ?_
  refine iv_geti X ft_X12 hB a_h0 sh_12 23 (by decide) rfl k_fl_X12_195 dX12_opens_1 (fun x1 e_x1 i_x1 => ?_)
  refine lv_bipush (v := 8) hx hb dX12_opens_4 (by decide) ?_
  refine lv_icmp_ne (tgt := 15) hx hb dX12_opens_6 (by decide) (fun c2 => ?_) (fun c2 => ?_)
  · skip
    refine lv_aload_n hx hb dX12_opens_15 rfl (lv_at hl 0 rfl) ?_
    refine lv_dup hx hb dX12_opens_16 rfl ?_
    refine iv_geti0 X ft_X12 hB a_h0 sh_12 23 (by decide) rfl k_fl_X12_195 dX12_opens_17 e_x1 ?_
    refine lv_iconst (v := 1) hx hb dX12_opens_20 (by decide) ?_
    refine lv_iadd hx hb dX12_opens_21 ?_
    refine lv_topi (fun x3 e_x3 => ?_)
    have i_x3 := iv_R.all x3
    refine iv_puti X ft_X12 hB a_h0 sh_12 23 (by decide) rfl rfl k_fl_X12_195 rfl i_x3 rfl rfl dX12_opens_22 (fun H locs hB => ?_)
    have hm := iv_MdT.put (x := x3) a_h0 (j := 23) (by decide)
    have h9 := iv_up_eq (G := G) (a := h0) (k := (12, upd g_h0 23 x3, r_h0))
    have hL := hL.put (x := x3) a_h0 (j := 23) (by decide)
    generalize iv_up G h0 _ = G4 at hB hm h9 hL
    have hM := hM.stp hm (by decide)
    generalize hgn_g5 : upd g_h0 _ _ = g5 at h9
    have a_h0 := h9
    have e6 : x13 = g5 13 := by rw [← hgn_g5]; exact e_x13
    have e7 : x17 = g5 17 := by rw [← hgn_g5]; exact e_x17
    have e9_g5 : x3 = g5 23 := by rw [← hgn_g5]; simp [upd]
    refine lv_aload_n hx hb dX12_opens_25 rfl (lv_at hl 0 rfl) ?_
    have a_q8 := a_h0
    have hx_q8 := iv_get64 hB a_h0
    have hs_q8 := iv_s18 hB a_h0
    refine iv_cVv X k_good k_mf_X12_next0 k_im_X12_next0 k_sel_X12_next0 k_ml_X12_189 ft_X12 hB a_h0 sh_12 (As := []) (e_X12_next0 l D tys base G4 h0 g5 r_h0 a_h0) ⟨rfl, rfl⟩ ⟨Nat.le_of_ble_eq_true rfl, Nat.le_of_ble_eq_true rfl⟩ ⟨Nat.le_of_ble_eq_true rfl, Nat.le_of_ble_eq_true rfl⟩ rfl rfl hl.1 (Nat.le_of_ble_eq_true rfl) dX12_opens_26 (fun G9 H locs hq hB => ?_)
    obtain ⟨hm, xp9⟩ := hq
    obtain ⟨G10, hG9⟩ : ∃ g, g = G9 := ⟨_, rfl⟩
    rw [← hG9] at hm hB xp9
    have hM := hM.stp (iv_MdT.of hm) (by decide)
    obtain ⟨g11, r12, a_h0, f_g11⟩ := hm.ex a_h0
    have e13 : x13 = g11 13 := e6.trans (f_g11.2.1 13 (show (13 : Nat) ∈ iv_stab 12 from by decide)).symm
    have e14 : x3 = g11 23 := e9_g5.trans (f_g11.2.1 23 (show (23 : Nat) ∈ iv_stab 12 from by decide)).symm
    have hL : iv_pr (1) 0 h0 G G10 := (hL.next1 hm a_q8 xp9 (by rw [← e7]; exact Int.le_trans (by decide) (iv_R.cutLo (n := 2) (iv_R.all x17) (by rw [e_x17]; exact ht)).1)).wk (by decide)
    refine lv_iconst (v := 1) hx hb dX12_opens_29 (by decide) ?_
    exact iv_zret X hr hlocks hB (q_1.wk (by decide)) ⟨hM, (q_1.wk (by decide)), ⟨((hP.tr hL).wk (by decide)), fun g9 r9 g8 r8 k9 k8 => by have q1 := a_st.symm.trans k9; cases q1; have q2 := a_h0.symm.trans k8; cases q2; exact e13.symm.trans e_x13, fun _ => (hP.tr hL).wk (by decide)⟩⟩ dX12_opens_30
  · skip
    have i14_x1 : iv_R 8 8 x1 := ((i_x1.cutLo (n := 8) (iv_eq_r c2 q_8).1).cutHi (n := 8) (iv_eq_r c2 q_8).2)
    refine lv_aload_n hx hb dX12_opens_9 rfl (lv_at hl 0 rfl) ?_
    refine lv_iconst (v := 3) hx hb dX12_opens_10 (by decide) ?_
    have a_q16 := a_h0
    have hx_q16 := iv_get64 hB a_h0
    have hs_q16 := iv_s18 hB a_h0
    refine iv_cVi X k_good k_mf_X12_bad k_im_X12_bad k_sel_X12_bad k_ml_X12_186 ft_X12 hB a_h0 sh_12 (As := [.int 3]) (c_X12_bad l D tys base G h0 g_h0 r_h0 a_h0 3 (q_3.wk (by decide)) (hL.J a_lb a_h0)) ⟨rfl, rfl⟩ ⟨Nat.le_of_ble_eq_true rfl, Nat.le_of_ble_eq_true rfl⟩ ⟨Nat.le_of_ble_eq_true rfl, Nat.le_of_ble_eq_true rfl⟩ rfl rfl hl.1 (Nat.le_of_ble_eq_true rfl) dX12_opens_11 (fun x17 G9 H locs hq hB => ?_)
    obtain ⟨hm, i_x17, xp18⟩ := hq
    obtain ⟨G19, hG9⟩ : ∃ g, g = G9 := ⟨_, rfl⟩
    rw [← hG9] at hm hB xp18
    have hM := hM.stp (iv_MdT.of hm) (by decide)
    obtain ⟨g20, r21, a_h0, f_g20⟩ := hm.ex a_h0
    have e22 : x13 = g20 13 := e_x13.trans (f_g20.2.1 13 (show (13 : Nat) ∈ iv_stab 12 from by decide)).symm
    have e23 : x1 = g20 23 := e_x1.trans (f_g20.2.1 23 (show (23 : Nat) ∈ iv_stab 12 from by decide)).symm
    have hL : iv_pr (0) 0 h0 G G19 := (hL.tr xp18).wk (by decide)
    exact iv_zret X hr hlocks hB (i_x17.wk (by decide)) ⟨hM, (i_x17.wk (by decide)), ⟨((hP.tr hL).wk (by decide)), fun g9 r9 g8 r8 k9 k8 => by have q1 := a_st.symm.trans k9; cases q1; have q2 := a_h0.symm.trans k8; cases q2; exact e22.symm.trans e_x13, fun h => absurd (iv_z i_x17) h⟩⟩ dX12_opens_14
theorem dX12_lay_0 : decode cX12_lay 0 = .ok (.aload_n 0, 1) := by decide +kernel
theorem dX12_lay_1 : decode cX12_lay 1 = .ok (.getfield 22, 3) := by decide +kernel
theorem dX12_lay_4 : decode cX12_lay 4 = .ok (.iconst 2, 1) := by decide +kernel
theorem dX12_lay_5 : decode cX12_lay 5 = .ok (.aload_n 0, 1) := by decide +kernel
theorem dX12_lay_6 : decode cX12_lay 6 = .ok (.getfield 192, 3) := by decide +kernel
theorem dX12_lay_9 : decode cX12_lay 9 = .ok (.imul, 1) := by decide +kernel
theorem dX12_lay_10 : decode cX12_lay 10 = .ok (.iload_n 1, 1) := by decide +kernel
theorem dX12_lay_11 : decode cX12_lay 11 = .ok (.iastore, 1) := by decide +kernel
theorem dX12_lay_12 : decode cX12_lay 12 = .ok (.aload_n 0, 1) := by decide +kernel
theorem dX12_lay_13 : decode cX12_lay 13 = .ok (.getfield 22, 3) := by decide +kernel
theorem dX12_lay_16 : decode cX12_lay 16 = .ok (.iconst 2, 1) := by decide +kernel
theorem dX12_lay_17 : decode cX12_lay 17 = .ok (.aload_n 0, 1) := by decide +kernel
theorem dX12_lay_18 : decode cX12_lay 18 = .ok (.getfield 192, 3) := by decide +kernel
theorem dX12_lay_21 : decode cX12_lay 21 = .ok (.imul, 1) := by decide +kernel
theorem dX12_lay_22 : decode cX12_lay 22 = .ok (.iconst 1, 1) := by decide +kernel
theorem dX12_lay_23 : decode cX12_lay 23 = .ok (.iadd, 1) := by decide +kernel
theorem dX12_lay_24 : decode cX12_lay 24 = .ok (.iload_n 2, 1) := by decide +kernel
theorem dX12_lay_25 : decode cX12_lay 25 = .ok (.iastore, 1) := by decide +kernel
theorem dX12_lay_26 : decode cX12_lay 26 = .ok (.aload_n 0, 1) := by decide +kernel
theorem dX12_lay_27 : decode cX12_lay 27 = .ok (.dup, 1) := by decide +kernel
theorem dX12_lay_28 : decode cX12_lay 28 = .ok (.getfield 192, 3) := by decide +kernel
theorem dX12_lay_31 : decode cX12_lay 31 = .ok (.iconst 1, 1) := by decide +kernel
theorem dX12_lay_32 : decode cX12_lay 32 = .ok (.iadd, 1) := by decide +kernel
theorem dX12_lay_33 : decode cX12_lay 33 = .ok (.putfield 192, 3) := by decide +kernel
theorem dX12_lay_36 : decode cX12_lay 36 = .ok (.return_, 1) := by decide +kernel
set_option maxHeartbeats 4000000 in
set_option maxRecDepth 100000 in
theorem c_X12_lay (l : Launch) (D : va_G) (tys : List (ClassId × FieldType)) (base : Nat) (G : iv_G) (h0 : Nat) (g_h0 : Nat → Int32) (r_h0 : Nat → Nat) (a_h0 : G h0 = some (12, g_h0, r_h0)) (n_g_h0 : iv_R 0 409 (g_h0 13)) (x_0 : Int32) (i_x_0 : iv_R 0 32 x_0) (x_1 : Int32) (i_x_1 : iv_R (-2147483648) 2147483647 x_1) : Met l yX12_lay (Cond.code yX12_lay cX12_lay 3 none :: iv_W0) ({ frames := 0, cells := 0, slots := 0, locals := 0 }) (iv_Pc iv_sh D classes tys base G [.ref h0, .int x_0, .int x_1]) (iv_Qv iv_sh D classes tys base (fun G' => iv_MdT [12, 64] G G' ∧ iv_ly h0 x_0 x_1 G G')) 0 0 (iv_A base) := by
  refine iv_head (by decide) (Nat.le_of_ble_eq_true rfl) ?_
  intro p e s m args below meth c ls X hr hlocks hname hB hl
  have X := X
  have hx := X.1.1
  have hb := X.1.2.1
  have hM : iv_MdT [12, 64] G G := iv_MdT.rf
  have hl : lv_has ls 3 [(0, .ref h0), (1, .int x_0), (2, .int x_1)] := hl
  obtain ⟨x13, e_x13⟩ : ∃ x, x = g_h0 13 := ⟨_, rfl⟩
  have i_x13 : iv_R 0 409 x13 := by rw [e_x13]; exact n_g_h0
  refine lv_aload_n hx hb dX12_lay_0 rfl (lv_at hl 0 rfl) ?_
  refine iv_getr X ft_X12 hB a_h0 sh_12 6 (by decide) rfl k_fl_X12_22 dX12_lay_1 (fun b1 g_b1 r_b1 e_b1 a_b1 => ?_)
  have s_b := a_b1
  have a_s := a_h0
  refine lv_iconst (v := 2) hx hb dX12_lay_4 (by decide) ?_
  refine lv_aload_n hx hb dX12_lay_5 rfl (lv_at hl 0 rfl) ?_
  refine iv_geti0 X ft_X12 hB a_h0 sh_12 13 (by decide) rfl k_fl_X12_192 dX12_lay_6 e_x13 ?_
  refine iv_imul hx hb q_2 i_x13 (lo := 0) (hi := 818) (by decide) dX12_lay_9 (fun x2 e_x2 i_x2 => ?_)
  have e_x2 : x2.toInt = 2 * x13.toInt := e_x2
  refine lv_iload_n hx hb dX12_lay_10 rfl (lv_at hl 1 rfl) ?_
  refine iv_ast X hB a_b1 sh_64 (iv_in i_x2 (by decide)) (i_x_0.wk (by decide)) dX12_lay_11 (fun H locs hB => ?_)
  have hm := iv_Md.ast (j := x2.toNatClampNeg) (x := x_0) a_b1 rfl (by decide)
  have h9 := iv_up_eq (G := G) (a := b1) (k := (64, upd g_b1 x2.toNatClampNeg x_0, r_b1))
  generalize iv_up G b1 _ = G3 at hB hm h9
  have hM := hM.stp (iv_MdT.of hm) (by decide)
  generalize hgn_g4 : upd g_b1 _ _ = g4 at h9
  have a_h0 := hm.at a_h0 (by decide)
  have a_b1 := h9
  refine lv_aload_n hx hb dX12_lay_12 rfl (lv_at hl 0 rfl) ?_
  refine iv_getr0 X ft_X12 hB a_h0 sh_12 6 (by decide) rfl k_fl_X12_22 dX12_lay_13 e_b1 ?_
  refine lv_iconst (v := 2) hx hb dX12_lay_16 (by decide) ?_
  refine lv_aload_n hx hb dX12_lay_17 rfl (lv_at hl 0 rfl) ?_
  refine iv_geti0 X ft_X12 hB a_h0 sh_12 13 (by decide) rfl k_fl_X12_192 dX12_lay_18 e_x13 ?_
  refine iv_imul hx hb q_2 i_x13 (lo := 0) (hi := 818) (by decide) dX12_lay_21 (fun x5 e_x5 i_x5 => ?_)
  have e_x5 : x5.toInt = 2 * x13.toInt := e_x5
  refine lv_iconst (v := 1) hx hb dX12_lay_22 (by decide) ?_
  refine iv_iadd hx hb i_x5 q_1 (lo := 1) (hi := 819) (by decide) dX12_lay_23 (fun x6 e_x6 i_x6 => ?_)
  have e_x6 : x6.toInt = x5.toInt + 1 := e_x6
  refine lv_iload_n hx hb dX12_lay_24 rfl (lv_at hl 2 rfl) ?_
  refine iv_ast X hB a_b1 sh_64 (iv_in i_x6 (by decide)) i_x_1 dX12_lay_25 (fun H locs hB => ?_)
  have hm := iv_Md.ast (j := x6.toNatClampNeg) (x := x_1) a_b1 rfl (by decide)
  have h9 := iv_up_eq (G := G3) (a := b1) (k := (64, upd g4 x6.toNatClampNeg x_1, r_b1))
  generalize iv_up G3 b1 _ = G7 at hB hm h9
  have hM := hM.stp (iv_MdT.of hm) (by decide)
  generalize hgn_g8 : upd g4 _ _ = g8 at h9
  have a_h0 := hm.at a_h0 (by decide)
  have a_b1 := h9
  refine lv_aload_n hx hb dX12_lay_26 rfl (lv_at hl 0 rfl) ?_
  refine lv_dup hx hb dX12_lay_27 rfl ?_
  refine iv_geti0 X ft_X12 hB a_h0 sh_12 13 (by decide) rfl k_fl_X12_192 dX12_lay_28 e_x13 ?_
  refine lv_iconst (v := 1) hx hb dX12_lay_31 (by decide) ?_
  refine iv_iadd hx hb i_x13 q_1 (lo := 1) (hi := 410) (by decide) dX12_lay_32 (fun x9 e_x9 i_x9 => ?_)
  have e_x9 : x9.toInt = x13.toInt + 1 := e_x9
  refine iv_puti X ft_X12 hB a_h0 sh_12 13 (by decide) rfl rfl k_fl_X12_192 rfl (i_x9.wk (by decide)) rfl rfl dX12_lay_33 (fun H locs hB => ?_)
  have hm := iv_MdT.put (x := x9) a_h0 (j := 13) (by decide)
  have h9 := iv_up_eq (G := G7) (a := h0) (k := (12, upd g_h0 13 x9, r_h0))
  generalize iv_up G7 h0 _ = G10 at hB hm h9
  have hM := hM.stp hm (by decide)
  generalize hgn_g11 : upd g_h0 _ _ = g11 at h9
  have a_b1 := hm.at a_b1 (by decide)
  have a_h0 := h9
  have e9_g11 : x9 = g11 13 := by rw [← hgn_g11]; simp [upd]
  exact iv_vret X hr hlocks hB ⟨hM, fun g9 r9 f9 q9 k9 j9 => by have q1 := a_s.symm.trans k9; cases q1; rw [← e_b1] at j9; have q2 := s_b.symm.trans j9; cases q2; have w0 := congrArg Int32.toInt e_x13; have n1 : x2.toNatClampNeg = 2 * (g_h0 13).toInt.toNat := (by rw [← w0]; show x2.toInt.toNat = _; omega); have n2 : x6.toNatClampNeg = 2 * (g_h0 13).toInt.toNat + 1 := (by rw [← w0]; show x6.toInt.toNat = _; have := i_x13.1; omega); exact ⟨x9, g8, (by rw [← w0]; omega), (by rw [hgn_g11]; exact a_h0), (by rw [← e_b1]; exact a_b1), (by rw [← hgn_g8, ← hgn_g4, n2, n1]; simp [upd]), (by rw [← hgn_g8, n2]; simp [upd]), (by intro i hi; rw [← hgn_g8, ← hgn_g4, n2, n1]; simp only [upd]; rw [if_neg (by omega), if_neg (by omega)])⟩⟩ dX12_lay_36
theorem dX12_unit_0 : decode cX12_unit 0 = .ok (.aload_n 0, 1) := by decide +kernel
theorem dX12_unit_1 : decode cX12_unit 1 = .ok (.getfield 165, 3) := by decide +kernel
theorem dX12_unit_4 : decode cX12_unit 4 = .ok (.bipush 41, 2) := by decide +kernel
theorem dX12_unit_6 : decode cX12_unit 6 = .ok (.bipush 51, 2) := by decide +kernel
theorem dX12_unit_8 : decode cX12_unit 8 = .ok (.invokestatic 56, 3) := by decide +kernel
theorem dX12_unit_11 : decode cX12_unit 11 = .ok (.istore_n 1, 1) := by decide +kernel
theorem dX12_unit_12 : decode cX12_unit 12 = .ok (.aload_n 0, 1) := by decide +kernel
theorem dX12_unit_13 : decode cX12_unit 13 = .ok (.getfield 165, 3) := by decide +kernel
theorem dX12_unit_16 : decode cX12_unit 16 = .ok (.iconst 2, 1) := by decide +kernel
theorem dX12_unit_17 : decode cX12_unit 17 = .ok (.if_icmp .eq 13, 3) := by decide +kernel
theorem dX12_unit_20 : decode cX12_unit 20 = .ok (.iload_n 1, 1) := by decide +kernel
theorem dX12_unit_21 : decode cX12_unit 21 = .ok (.ifCond .ne 9, 3) := by decide +kernel
theorem dX12_unit_24 : decode cX12_unit 24 = .ok (.aload_n 0, 1) := by decide +kernel
theorem dX12_unit_25 : decode cX12_unit 25 = .ok (.iconst 1, 1) := by decide +kernel
theorem dX12_unit_26 : decode cX12_unit 26 = .ok (.invokevirtual 186, 3) := by decide +kernel
theorem dX12_unit_29 : decode cX12_unit 29 = .ok (.ireturn, 1) := by decide +kernel
theorem dX12_unit_30 : decode cX12_unit 30 = .ok (.aload_n 0, 1) := by decide +kernel
theorem dX12_unit_31 : decode cX12_unit 31 = .ok (.iload_n 1, 1) := by decide +kernel
theorem dX12_unit_32 : decode cX12_unit 32 = .ok (.ifCond .eq 13, 3) := by decide +kernel
theorem dX12_unit_35 : decode cX12_unit 35 = .ok (.aload_n 0, 1) := by decide +kernel
theorem dX12_unit_36 : decode cX12_unit 36 = .ok (.getfield 165, 3) := by decide +kernel
theorem dX12_unit_39 : decode cX12_unit 39 = .ok (.bipush 40, 2) := by decide +kernel
theorem dX12_unit_41 : decode cX12_unit 41 = .ok (.isub, 1) := by decide +kernel
theorem dX12_unit_42 : decode cX12_unit 42 = .ok (.goto 4, 3) := by decide +kernel
theorem dX12_unit_45 : decode cX12_unit 45 = .ok (.iconst 0, 1) := by decide +kernel
theorem dX12_unit_46 : decode cX12_unit 46 = .ok (.aload_n 0, 1) := by decide +kernel
theorem dX12_unit_47 : decode cX12_unit 47 = .ok (.getfield 177, 3) := by decide +kernel
theorem dX12_unit_50 : decode cX12_unit 50 = .ok (.invokevirtual 202, 3) := by decide +kernel
theorem dX12_unit_53 : decode cX12_unit 53 = .ok (.aload_n 0, 1) := by decide +kernel
theorem dX12_unit_54 : decode cX12_unit 54 = .ok (.invokevirtual 189, 3) := by decide +kernel
theorem dX12_unit_57 : decode cX12_unit 57 = .ok (.iconst 1, 1) := by decide +kernel
theorem dX12_unit_58 : decode cX12_unit 58 = .ok (.ireturn, 1) := by decide +kernel
set_option maxHeartbeats 4000000 in
set_option maxRecDepth 100000 in
theorem c_X12_unit (l : Launch) (D : va_G) (tys : List (ClassId × FieldType)) (base : Nat) (G : iv_G) (h0 : Nat) (g_h0 : Nat → Int32) (r_h0 : Nat → Nat) (a_h0 : G h0 = some (12, g_h0, r_h0)) (hJ : iv_J g_h0) (hE0 : (g_h0 13).toInt ≤ (g_h0 18).toInt) : Met l yX12_unit (Cond.code yX12_unit cX12_unit 2 (some .boolean) :: iv_W0) ({ frames := 9, cells := 0, slots := 0, locals := 190 }) (iv_Pc iv_sh D classes tys base G [.ref h0]) (iv_Qi iv_sh D classes tys base (fun v G' => iv_MdT [12, 64] G G' ∧ iv_R 0 1 v ∧ iv_pr 0 0 h0 G G' ∧ (¬ v = 0 → iv_cd h0 G G'))) 0 0 (iv_A base) := by
  refine iv_head (by decide) (Nat.le_of_ble_eq_true rfl) ?_
  intro p e s m args below meth c ls X hr hlocks hname hB hl
  have X := X
  have hx := X.1.1
  have hb := X.1.2.1
  have hM : iv_MdT [12, 64] G G := iv_MdT.rf
  have a_st := a_h0
  have a_lb := a_h0
  have hP : iv_pr 0 0 h0 G G := iv_pr.rf a_h0 hJ
  have hL : iv_pr 0 0 h0 G G := hP
  have hE := hE0
  have hl : lv_has ls 2 [(0, .ref h0)] := hl
  refine lv_aload_n hx hb dX12_unit_0 rfl (lv_at hl 0 rfl) ?_
  refine iv_geti X ft_X12 hB a_h0 sh_12 17 (by decide) rfl k_fl_X12_165 dX12_unit_1 (fun x1 e_x1 i_x1 => ?_)
  refine lv_bipush (v := 41) hx hb dX12_unit_4 (by decide) ?_
  refine lv_bipush (v := 51) hx hb dX12_unit_6 (by decide) ?_
  refine iv_cSi X k_good k_mf_X12_isIn k_st_X12_isIn k_ml_X12_56 hB (As := [.int x1, .int 41, .int 51]) (c_X12_isIn l D tys base G x1 i_x1 41 (q_41.wk (by decide)) 51 (q_51.wk (by decide))) ⟨rfl, rfl⟩ ⟨Nat.le_of_ble_eq_true rfl, Nat.le_of_ble_eq_true rfl⟩ ⟨Nat.le_of_ble_eq_true rfl, Nat.le_of_ble_eq_true rfl⟩ rfl rfl hl.1 (Nat.le_of_ble_eq_true rfl) dX12_unit_8 (fun x2 G9 H locs hq hB => ?_)
  obtain ⟨rfl, i_x2, hp3⟩ := hq
  have k4 : ¬ x2 = 0 → iv_R 41 51 x1 := fun h => ⟨iv_max i_x1.1 (Int.le_trans q_41.1 (hp3.1 h).1) (by decide), iv_min i_x1.2 (Int.le_trans (hp3.1 h).2 q_51.2) (by decide)⟩
  refine lv_istore_n (lv' := [(1, .int x2), (0, .ref h0)]) hx hb dX12_unit_11 rfl hl (by decide) rfl (fun ls hl => ?_)
  refine lv_aload_n hx hb dX12_unit_12 rfl (lv_at hl 1 rfl) ?_
  refine iv_geti0 X ft_X12 hB a_h0 sh_12 17 (by decide) rfl k_fl_X12_165 dX12_unit_13 e_x1 ?_
  refine lv_iconst (v := 2) hx hb dX12_unit_16 (by decide) ?_
  refine lv_icmp_eq (tgt := 30) hx hb dX12_unit_17 (by decide) (fun c5 => ?_) (fun c5 => ?_)
  · skip
    have i5_x1 : iv_R 2 2 x1 := ((i_x1.cutLo (n := 2) (iv_eq_r c5 q_2).1).cutHi (n := 2) (iv_eq_r c5 q_2).2)
    refine lv_aload_n hx hb dX12_unit_30 rfl (lv_at hl 1 rfl) ?_
    refine lv_iload_n hx hb dX12_unit_31 rfl (lv_at hl 0 rfl) ?_
    refine lv_if_eq (tgt := 45) hx hb dX12_unit_32 (by decide) (fun c7 => ?_) (fun c7 => ?_)
    · skip
      have i7_x2 : iv_R 0 0 x2 := (i_x2.cutHi (n := 0) (iv_eq_r c7 q_0).2)
      refine lv_iconst (v := 0) hx hb dX12_unit_45 (by decide) ?_
      refine lv_aload_n hx hb dX12_unit_46 rfl (lv_at hl 1 rfl) ?_
      refine iv_geti X ft_X12 hB a_h0 sh_12 19 (by decide) rfl k_fl_X12_177 dX12_unit_47 (fun x9 e_x9 i_x9 => ?_)
      have a_q10 := a_h0
      have hx_q10 := iv_get64 hB a_h0
      have hs_q10 := iv_s18 hB a_h0
      refine iv_cVv X k_good k_mf_X12_lay k_im_X12_lay k_sel_X12_lay k_ml_X12_202 ft_X12 hB a_h0 sh_12 (As := [.int 0, .int x9]) (c_X12_lay l D tys base G h0 g_h0 r_h0 a_h0 (hL.ly (by decide) a_lb a_h0 hE (iv_s18 hB a_h0)) 0 (q_0.wk (by decide)) x9 i_x9) ⟨rfl, rfl⟩ ⟨Nat.le_of_ble_eq_true rfl, Nat.le_of_ble_eq_true rfl⟩ ⟨Nat.le_of_ble_eq_true rfl, Nat.le_of_ble_eq_true rfl⟩ rfl rfl hl.1 (Nat.le_of_ble_eq_true rfl) dX12_unit_50 (fun G9 H locs hq hB => ?_)
      obtain ⟨hm, xp11⟩ := hq
      obtain ⟨G12, hG9⟩ : ∃ g, g = G9 := ⟨_, rfl⟩
      rw [← hG9] at hm hB xp11
      have hM := hM.stp hm (by decide)
      obtain ⟨g13, r14, a_h0, f_g13⟩ := hm.ex a_h0
      have hL : iv_pr (-1) 1 h0 G G12 := (hL.lay xp11 a_q10 hx_q10).wk (by decide)
      have e15 : x1 = g13 17 := e_x1.trans (iv_ly.sl xp11 a_q10 hx_q10 a_h0 17 (by decide)).symm
      have hC16 := iv_cd.num xp11 a_q10 hx_q10 hs_q10.2 (q_0.wk (by decide))
      refine lv_aload_n hx hb dX12_unit_53 rfl (lv_at hl 1 rfl) ?_
      have a_q17 := a_h0
      have hx_q17 := iv_get64 hB a_h0
      have hs_q17 := iv_s18 hB a_h0
      refine iv_cVv X k_good k_mf_X12_next0 k_im_X12_next0 k_sel_X12_next0 k_ml_X12_189 ft_X12 hB a_h0 sh_12 (As := []) (e_X12_next0 l D tys base G12 h0 g13 r14 a_h0) ⟨rfl, rfl⟩ ⟨Nat.le_of_ble_eq_true rfl, Nat.le_of_ble_eq_true rfl⟩ ⟨Nat.le_of_ble_eq_true rfl, Nat.le_of_ble_eq_true rfl⟩ rfl rfl hl.1 (Nat.le_of_ble_eq_true rfl) dX12_unit_54 (fun G9 H locs hq hB => ?_)
      obtain ⟨hm, xp18⟩ := hq
      obtain ⟨G19, hG9⟩ : ∃ g, g = G9 := ⟨_, rfl⟩
      rw [← hG9] at hm hB xp18
      have hM := hM.stp (iv_MdT.of hm) (by decide)
      obtain ⟨g20, r21, a_h0, f_g20⟩ := hm.ex a_h0
      have hL : iv_pr (0) 1 h0 G G19 := (hL.next1 hm a_q17 xp18 (by rw [← e15]; exact Int.le_trans (by decide) i5_x1.1)).wk (by decide)
      have hC22 := hC16.keep hm a_q17 hx_q17
      refine lv_iconst (v := 1) hx hb dX12_unit_57 (by decide) ?_
      exact iv_zret X hr hlocks hB (q_1.wk (by decide)) ⟨hM, (q_1.wk (by decide)), ⟨((hP.tr hL).wk (by decide)), fun _ => hC22⟩⟩ dX12_unit_58
    · skip
      have i22_x2 : iv_R 1 1 x2 := iv_ne_lo c7 i_x2 q_0 (by decide)
      exact (i5_x1.cutLo (n := 41) (k4 c7).1).no (by decide)
  · skip
    refine lv_iload_n hx hb dX12_unit_20 rfl (lv_at hl 0 rfl) ?_
    refine lv_if_ne (tgt := 30) hx hb dX12_unit_21 (by decide) (fun c24 => ?_) (fun c24 => ?_)
    · skip
      have i24_x2 : iv_R 1 1 x2 := iv_ne_lo c24 i_x2 q_0 (by decide)
      have i25_x1 : iv_R 41 51 x1 := ((i_x1.cutLo (n := 41) (k4 c24).1).cutHi (n := 51) (k4 c24).2)
      refine lv_aload_n hx hb dX12_unit_30 rfl (lv_at hl 1 rfl) ?_
      refine lv_iload_n hx hb dX12_unit_31 rfl (lv_at hl 0 rfl) ?_
      refine lv_if_eq (tgt := 45) hx hb dX12_unit_32 (by decide) (fun c27 => ?_) (fun c27 => ?_)
      · skip
        exact absurd c27 c24
      · skip
        refine lv_aload_n hx hb dX12_unit_35 rfl (lv_at hl 1 rfl) ?_
        refine iv_geti0 X ft_X12 hB a_h0 sh_12 17 (by decide) rfl k_fl_X12_165 dX12_unit_36 e_x1 ?_
        refine lv_bipush (v := 40) hx hb dX12_unit_39 (by decide) ?_
        refine iv_isub hx hb i25_x1 q_40 (lo := 1) (hi := 11) (by decide) dX12_unit_41 (fun x28 e_x28 i_x28 => ?_)
        refine lv_goto (tgt := 46) hx hb dX12_unit_42 (by decide) ?_
        refine lv_aload_n hx hb dX12_unit_46 rfl (lv_at hl 1 rfl) ?_
        refine iv_geti X ft_X12 hB a_h0 sh_12 19 (by decide) rfl k_fl_X12_177 dX12_unit_47 (fun x29 e_x29 i_x29 => ?_)
        have a_q30 := a_h0
        have hx_q30 := iv_get64 hB a_h0
        have hs_q30 := iv_s18 hB a_h0
        refine iv_cVv X k_good k_mf_X12_lay k_im_X12_lay k_sel_X12_lay k_ml_X12_202 ft_X12 hB a_h0 sh_12 (As := [.int x28, .int x29]) (c_X12_lay l D tys base G h0 g_h0 r_h0 a_h0 (hL.ly (by decide) a_lb a_h0 hE (iv_s18 hB a_h0)) x28 (i_x28.wk (by decide)) x29 i_x29) ⟨rfl, rfl⟩ ⟨Nat.le_of_ble_eq_true rfl, Nat.le_of_ble_eq_true rfl⟩ ⟨Nat.le_of_ble_eq_true rfl, Nat.le_of_ble_eq_true rfl⟩ rfl rfl hl.1 (Nat.le_of_ble_eq_true rfl) dX12_unit_50 (fun G9 H locs hq hB => ?_)
        obtain ⟨hm, xp31⟩ := hq
        obtain ⟨G32, hG9⟩ : ∃ g, g = G9 := ⟨_, rfl⟩
        rw [← hG9] at hm hB xp31
        have hM := hM.stp hm (by decide)
        obtain ⟨g33, r34, a_h0, f_g33⟩ := hm.ex a_h0
        have hL : iv_pr (-1) 1 h0 G G32 := (hL.lay xp31 a_q30 hx_q30).wk (by decide)
        have e35 : x1 = g33 17 := e_x1.trans (iv_ly.sl xp31 a_q30 hx_q30 a_h0 17 (by decide)).symm
        have hC36 := iv_cd.num xp31 a_q30 hx_q30 hs_q30.2 (i_x28.wk (by decide))
        refine lv_aload_n hx hb dX12_unit_53 rfl (lv_at hl 1 rfl) ?_
        have a_q37 := a_h0
        have hx_q37 := iv_get64 hB a_h0
        have hs_q37 := iv_s18 hB a_h0
        refine iv_cVv X k_good k_mf_X12_next0 k_im_X12_next0 k_sel_X12_next0 k_ml_X12_189 ft_X12 hB a_h0 sh_12 (As := []) (e_X12_next0 l D tys base G32 h0 g33 r34 a_h0) ⟨rfl, rfl⟩ ⟨Nat.le_of_ble_eq_true rfl, Nat.le_of_ble_eq_true rfl⟩ ⟨Nat.le_of_ble_eq_true rfl, Nat.le_of_ble_eq_true rfl⟩ rfl rfl hl.1 (Nat.le_of_ble_eq_true rfl) dX12_unit_54 (fun G9 H locs hq hB => ?_)
        obtain ⟨hm, xp38⟩ := hq
        obtain ⟨G39, hG9⟩ : ∃ g, g = G9 := ⟨_, rfl⟩
        rw [← hG9] at hm hB xp38
        have hM := hM.stp (iv_MdT.of hm) (by decide)
        obtain ⟨g40, r41, a_h0, f_g40⟩ := hm.ex a_h0
        have hL : iv_pr (0) 1 h0 G G39 := (hL.next1 hm a_q37 xp38 (by rw [← e35]; exact Int.le_trans (by decide) i25_x1.1)).wk (by decide)
        have hC42 := hC36.keep hm a_q37 hx_q37
        refine lv_iconst (v := 1) hx hb dX12_unit_57 (by decide) ?_
        exact iv_zret X hr hlocks hB (q_1.wk (by decide)) ⟨hM, (q_1.wk (by decide)), ⟨((hP.tr hL).wk (by decide)), fun _ => hC42⟩⟩ dX12_unit_58
    · skip
      have i42_x2 : iv_R 0 0 x2 := (i_x2.cutHi (n := 0) (iv_eq_r c24 q_0).2)
      refine lv_aload_n hx hb dX12_unit_24 rfl (lv_at hl 1 rfl) ?_
      refine lv_iconst (v := 1) hx hb dX12_unit_25 (by decide) ?_
      have a_q44 := a_h0
      have hx_q44 := iv_get64 hB a_h0
      have hs_q44 := iv_s18 hB a_h0
      refine iv_cVi X k_good k_mf_X12_bad k_im_X12_bad k_sel_X12_bad k_ml_X12_186 ft_X12 hB a_h0 sh_12 (As := [.int 1]) (c_X12_bad l D tys base G h0 g_h0 r_h0 a_h0 1 (q_1.wk (by decide)) (hL.J a_lb a_h0)) ⟨rfl, rfl⟩ ⟨Nat.le_of_ble_eq_true rfl, Nat.le_of_ble_eq_true rfl⟩ ⟨Nat.le_of_ble_eq_true rfl, Nat.le_of_ble_eq_true rfl⟩ rfl rfl hl.1 (Nat.le_of_ble_eq_true rfl) dX12_unit_26 (fun x45 G9 H locs hq hB => ?_)
      obtain ⟨hm, i_x45, xp46⟩ := hq
      obtain ⟨G47, hG9⟩ : ∃ g, g = G9 := ⟨_, rfl⟩
      rw [← hG9] at hm hB xp46
      have hM := hM.stp (iv_MdT.of hm) (by decide)
      obtain ⟨g48, r49, a_h0, f_g48⟩ := hm.ex a_h0
      have hL : iv_pr (0) 0 h0 G G47 := (hL.tr xp46).wk (by decide)
      exact iv_zret X hr hlocks hB (i_x45.wk (by decide)) ⟨hM, (i_x45.wk (by decide)), ⟨((hP.tr hL).wk (by decide)), fun h => absurd (iv_z i_x45) h⟩⟩ dX12_unit_29
theorem dX12_product_0 : decode cX12_product 0 = .ok (.aload_n 0, 1) := by decide +kernel
theorem dX12_product_1 : decode cX12_product 1 = .ok (.invokevirtual 206, 3) := by decide +kernel
theorem dX12_product_4 : decode cX12_product 4 = .ok (.ifCond .ne 5, 3) := by decide +kernel
theorem dX12_product_7 : decode cX12_product 7 = .ok (.iconst 0, 1) := by decide +kernel
theorem dX12_product_8 : decode cX12_product 8 = .ok (.ireturn, 1) := by decide +kernel
theorem dX12_product_9 : decode cX12_product 9 = .ok (.aload_n 0, 1) := by decide +kernel
theorem dX12_product_10 : decode cX12_product 10 = .ok (.getfield 165, 3) := by decide +kernel
theorem dX12_product_13 : decode cX12_product 13 = .ok (.sipush 142, 3) := by decide +kernel
theorem dX12_product_16 : decode cX12_product 16 = .ok (.if_icmp .eq 13, 3) := by decide +kernel
theorem dX12_product_19 : decode cX12_product 19 = .ok (.aload_n 0, 1) := by decide +kernel
theorem dX12_product_20 : decode cX12_product 20 = .ok (.getfield 165, 3) := by decide +kernel
theorem dX12_product_23 : decode cX12_product 23 = .ok (.sipush 147, 3) := by decide +kernel
theorem dX12_product_26 : decode cX12_product 26 = .ok (.if_icmp .ne 89, 3) := by decide +kernel
theorem dX12_product_29 : decode cX12_product 29 = .ok (.aload_n 0, 1) := by decide +kernel
theorem dX12_product_30 : decode cX12_product 30 = .ok (.getfield 165, 3) := by decide +kernel
theorem dX12_product_33 : decode cX12_product 33 = .ok (.sipush 147, 3) := by decide +kernel
theorem dX12_product_36 : decode cX12_product 36 = .ok (.if_icmp .ne 7, 3) := by decide +kernel
theorem dX12_product_39 : decode cX12_product 39 = .ok (.iconst 1, 1) := by decide +kernel
theorem dX12_product_40 : decode cX12_product 40 = .ok (.goto 4, 3) := by decide +kernel
theorem dX12_product_43 : decode cX12_product 43 = .ok (.iconst 0, 1) := by decide +kernel
theorem dX12_product_44 : decode cX12_product 44 = .ok (.istore_n 1, 1) := by decide +kernel
theorem dX12_product_45 : decode cX12_product 45 = .ok (.aload_n 0, 1) := by decide +kernel
theorem dX12_product_46 : decode cX12_product 46 = .ok (.invokevirtual 189, 3) := by decide +kernel
theorem dX12_product_49 : decode cX12_product 49 = .ok (.iload_n 1, 1) := by decide +kernel
theorem dX12_product_50 : decode cX12_product 50 = .ok (.ifCond .eq 46, 3) := by decide +kernel
theorem dX12_product_53 : decode cX12_product 53 = .ok (.aload_n 0, 1) := by decide +kernel
theorem dX12_product_54 : decode cX12_product 54 = .ok (.getfield 177, 3) := by decide +kernel
theorem dX12_product_57 : decode cX12_product 57 = .ok (.istore_n 2, 1) := by decide +kernel
theorem dX12_product_58 : decode cX12_product 58 = .ok (.aload_n 0, 1) := by decide +kernel
theorem dX12_product_59 : decode cX12_product 59 = .ok (.getfield 165, 3) := by decide +kernel
theorem dX12_product_62 : decode cX12_product 62 = .ok (.iconst 2, 1) := by decide +kernel
theorem dX12_product_63 : decode cX12_product 63 = .ok (.if_icmp .eq 9, 3) := by decide +kernel
theorem dX12_product_66 : decode cX12_product 66 = .ok (.aload_n 0, 1) := by decide +kernel
theorem dX12_product_67 : decode cX12_product 67 = .ok (.iconst 1, 1) := by decide +kernel
theorem dX12_product_68 : decode cX12_product 68 = .ok (.invokevirtual 186, 3) := by decide +kernel
theorem dX12_product_71 : decode cX12_product 71 = .ok (.ireturn, 1) := by decide +kernel
theorem dX12_product_72 : decode cX12_product 72 = .ok (.iload_n 2, 1) := by decide +kernel
theorem dX12_product_73 : decode cX12_product 73 = .ok (.ifCond .ne 9, 3) := by decide +kernel
theorem dX12_product_76 : decode cX12_product 76 = .ok (.aload_n 0, 1) := by decide +kernel
theorem dX12_product_77 : decode cX12_product 77 = .ok (.iconst 2, 1) := by decide +kernel
theorem dX12_product_78 : decode cX12_product 78 = .ok (.invokevirtual 186, 3) := by decide +kernel
theorem dX12_product_81 : decode cX12_product 81 = .ok (.ireturn, 1) := by decide +kernel
theorem dX12_product_82 : decode cX12_product 82 = .ok (.aload_n 0, 1) := by decide +kernel
theorem dX12_product_83 : decode cX12_product 83 = .ok (.invokevirtual 189, 3) := by decide +kernel
theorem dX12_product_86 : decode cX12_product 86 = .ok (.aload_n 0, 1) := by decide +kernel
theorem dX12_product_87 : decode cX12_product 87 = .ok (.bipush 26, 2) := by decide +kernel
theorem dX12_product_89 : decode cX12_product 89 = .ok (.iload_n 2, 1) := by decide +kernel
theorem dX12_product_90 : decode cX12_product 90 = .ok (.invokevirtual 202, 3) := by decide +kernel
theorem dX12_product_93 : decode cX12_product 93 = .ok (.goto 19, 3) := by decide +kernel
theorem dX12_product_96 : decode cX12_product 96 = .ok (.aload_n 0, 1) := by decide +kernel
theorem dX12_product_97 : decode cX12_product 97 = .ok (.invokevirtual 206, 3) := by decide +kernel
theorem dX12_product_100 : decode cX12_product 100 = .ok (.ifCond .ne 5, 3) := by decide +kernel
theorem dX12_product_103 : decode cX12_product 103 = .ok (.iconst 0, 1) := by decide +kernel
theorem dX12_product_104 : decode cX12_product 104 = .ok (.ireturn, 1) := by decide +kernel
theorem dX12_product_105 : decode cX12_product 105 = .ok (.aload_n 0, 1) := by decide +kernel
theorem dX12_product_106 : decode cX12_product 106 = .ok (.bipush 25, 2) := by decide +kernel
theorem dX12_product_108 : decode cX12_product 108 = .ok (.iconst 0, 1) := by decide +kernel
theorem dX12_product_109 : decode cX12_product 109 = .ok (.invokevirtual 202, 3) := by decide +kernel
theorem dX12_product_112 : decode cX12_product 112 = .ok (.goto (-103), 3) := by decide +kernel
theorem dX12_product_115 : decode cX12_product 115 = .ok (.iconst 1, 1) := by decide +kernel
theorem dX12_product_116 : decode cX12_product 116 = .ok (.ireturn, 1) := by decide +kernel
set_option maxHeartbeats 4000000 in
set_option maxRecDepth 100000 in
theorem c_X12_product (l : Launch) (D : va_G) (tys : List (ClassId × FieldType)) (base : Nat) (G : iv_G) (h0 : Nat) (g_h0 : Nat → Int32) (r_h0 : Nat → Nat) (a_h0 : G h0 = some (12, g_h0, r_h0)) (hJ : iv_J g_h0) (hE0 : (g_h0 13).toInt ≤ (g_h0 18).toInt) : Met l yX12_product (Cond.code yX12_product cX12_product 3 (some .boolean) :: iv_W0) ({ frames := 10, cells := 0, slots := 0, locals := 211 }) (iv_Pc iv_sh D classes tys base G [.ref h0]) (iv_Qi iv_sh D classes tys base (fun v G' => iv_MdT [12, 64] G G' ∧ iv_R 0 1 v ∧ iv_pr 0 0 h0 G G' ∧ (¬ v = 0 → iv_cd h0 G G'))) 0 0 (iv_A base) := by
  refine iv_head (by decide) (Nat.le_of_ble_eq_true rfl) ?_
  intro p e s m args below meth c ls X hr hlocks hname hB hl
  have X := X
  have hx := X.1.1
  have hb := X.1.2.1
  have hM : iv_MdT [12, 64] G G := iv_MdT.rf
  have a_st := a_h0
  have a_lb := a_h0
  have hP : iv_pr 0 0 h0 G G := iv_pr.rf a_h0 hJ
  have hL : iv_pr 0 0 h0 G G := hP
  have hE := hE0
  have hl : lv_has ls 3 [(0, .ref h0)] := hl
  refine lv_aload_n hx hb dX12_product_0 rfl (lv_at hl 0 rfl) ?_
  have a_q1 := a_h0
  have hx_q1 := iv_get64 hB a_h0
  have hs_q1 := iv_s18 hB a_h0
  refine iv_cVi X k_good k_mf_X12_unit k_im_X12_unit k_sel_X12_unit k_ml_X12_206 ft_X12 hB a_h0 sh_12 (As := []) (c_X12_unit l D tys base G h0 g_h0 r_h0 a_h0 (hL.J a_lb a_h0) (hL.le (by decide) a_lb a_h0 hE)) ⟨rfl, rfl⟩ ⟨Nat.le_of_ble_eq_true rfl, Nat.le_of_ble_eq_true rfl⟩ ⟨Nat.le_of_ble_eq_true rfl, Nat.le_of_ble_eq_true rfl⟩ rfl rfl hl.1 (Nat.le_of_ble_eq_true rfl) dX12_product_1 (fun x2 G9 H locs hq hB => ?_)
  obtain ⟨hm, i_x2, xp3⟩ := hq
  obtain ⟨G4, hG9⟩ : ∃ g, g = G9 := ⟨_, rfl⟩
  rw [← hG9] at hm hB xp3
  have hM := hM.stp hm (by decide)
  obtain ⟨g5, r6, a_h0, f_g5⟩ := hm.ex a_h0
  have hL : iv_pr (0) 0 h0 G G4 := (hL.tr xp3.1).wk (by decide)
  refine lv_if_ne (tgt := 9) hx hb dX12_product_4 (by decide) (fun c7 => ?_) (fun c7 => ?_)
  · skip
    have i7_x2 : iv_R 1 1 x2 := iv_ne_lo c7 i_x2 q_0 (by decide)
    have hC9 := xp3.2 c7
    have L_9 : ∀ (n_9 : Nat) (G12 : iv_G) (hM : iv_MdT [12, 64] G G12) (H : Heap) (locs : List Loc) (hB : iv_B iv_sh D classes tys base G12 s.heap H locs) (g10 : Nat → Int32) (r11 : Nat → Nat) (a_h0 : G12 h0 = some (12, g10, r11)) (hn_9 : (401 - (g10 18).toInt).toNat < n_9) (hP : iv_pr 0 0 h0 G G12) (hC : iv_cd h0 G G12) (ls : Array Slot) (hl : lv_has ls 3 [(0, .ref h0)]), W p l e ({ frames := 10, cells := 0, slots := 0, locals := 211 } : Room) s m args below meth c H locs 0 0 (MQ below (iv_Qi iv_sh D classes tys base (fun v G' => iv_MdT [12, 64] G G' ∧ iv_R 0 1 v ∧ iv_pr 0 0 h0 G G' ∧ (¬ v = 0 → iv_cd h0 G G'))) args s 0 0 (iv_A base)) (F0 m 9 ls []) := by
      intro n_9
      induction n_9 with
      | zero => intro G12 hM H locs hB g10 r11 a_h0 hn_9 hP hC ls hl; exact absurd hn_9 (Nat.not_lt_zero _)
      | succ n_9 ih_9 =>
        intro G12 hM H locs hB g10 r11 a_h0 hn_9 hP hC ls hl
        have a_lb := a_h0
        have hL : iv_pr 0 0 h0 G12 G12 := iv_pr.rf a_h0 (hP.J a_st a_h0)
        have hE := hP.le (by decide) a_st a_h0 hE0
        refine lv_aload_n hx hb dX12_product_9 rfl (lv_at hl 0 rfl) ?_
        refine iv_geti X ft_X12 hB a_h0 sh_12 17 (by decide) rfl k_fl_X12_165 dX12_product_10 (fun x13 e_x13 i_x13 => ?_)
        refine lv_sipush (v := 142) hx hb dX12_product_13 (by decide) ?_
        refine lv_icmp_eq (tgt := 29) hx hb dX12_product_16 (by decide) (fun c14 => ?_) (fun c14 => ?_)
        · skip
          have i14_x13 : iv_R 142 142 x13 := ((i_x13.cutLo (n := 142) (iv_eq_r c14 q_142).1).cutHi (n := 142) (iv_eq_r c14 q_142).2)
          refine lv_aload_n hx hb dX12_product_29 rfl (lv_at hl 0 rfl) ?_
          refine iv_geti0 X ft_X12 hB a_h0 sh_12 17 (by decide) rfl k_fl_X12_165 dX12_product_30 e_x13 ?_
          refine lv_sipush (v := 147) hx hb dX12_product_33 (by decide) ?_
          refine lv_icmp_ne (tgt := 43) hx hb dX12_product_36 (by decide) (fun c16 => ?_) (fun c16 => ?_)
          · skip
            refine lv_iconst (v := 0) hx hb dX12_product_43 (by decide) ?_
            refine lv_istore_n (lv' := [(1, .int 0), (0, .ref h0)]) hx hb dX12_product_44 rfl hl (by decide) rfl (fun ls hl => ?_)
            refine lv_aload_n hx hb dX12_product_45 rfl (lv_at hl 1 rfl) ?_
            have a_q17 := a_h0
            have hx_q17 := iv_get64 hB a_h0
            have hs_q17 := iv_s18 hB a_h0
            refine iv_cVv X k_good k_mf_X12_next0 k_im_X12_next0 k_sel_X12_next0 k_ml_X12_189 ft_X12 hB a_h0 sh_12 (As := []) (e_X12_next0 l D tys base G12 h0 g10 r11 a_h0) ⟨rfl, rfl⟩ ⟨Nat.le_of_ble_eq_true rfl, Nat.le_of_ble_eq_true rfl⟩ ⟨Nat.le_of_ble_eq_true rfl, Nat.le_of_ble_eq_true rfl⟩ rfl rfl hl.1 (Nat.le_of_ble_eq_true rfl) dX12_product_46 (fun G9 H locs hq hB => ?_)
            obtain ⟨hm, xp18⟩ := hq
            obtain ⟨G19, hG9⟩ : ∃ g, g = G9 := ⟨_, rfl⟩
            rw [← hG9] at hm hB xp18
            have hM := hM.stp (iv_MdT.of hm) (by decide)
            obtain ⟨g20, r21, a_h0, f_g20⟩ := hm.ex a_h0
            have hL : iv_pr (1) 0 h0 G12 G19 := (hL.next1 hm a_q17 xp18 (by rw [← e_x13]; exact Int.le_trans (by decide) i14_x13.1)).wk (by decide)
            have hC22 := hC.keep hm a_q17 hx_q17
            refine lv_iload_n hx hb dX12_product_49 rfl (lv_at hl 0 rfl) ?_
            refine lv_if_eq (tgt := 96) hx hb dX12_product_50 (by decide) (fun c23 => ?_) (fun c23 => ?_)
            · skip
              refine lv_aload_n hx hb dX12_product_96 rfl (lv_at hl 1 rfl) ?_
              have a_q24 := a_h0
              have hx_q24 := iv_get64 hB a_h0
              have hs_q24 := iv_s18 hB a_h0
              refine iv_cVi X k_good k_mf_X12_unit k_im_X12_unit k_sel_X12_unit k_ml_X12_206 ft_X12 hB a_h0 sh_12 (As := []) (c_X12_unit l D tys base G19 h0 g20 r21 a_h0 (hL.J a_lb a_h0) (hL.le (by decide) a_lb a_h0 hE)) ⟨rfl, rfl⟩ ⟨Nat.le_of_ble_eq_true rfl, Nat.le_of_ble_eq_true rfl⟩ ⟨Nat.le_of_ble_eq_true rfl, Nat.le_of_ble_eq_true rfl⟩ rfl rfl hl.1 (Nat.le_of_ble_eq_true rfl) dX12_product_97 (fun x25 G9 H locs hq hB => ?_)
              obtain ⟨hm, i_x25, xp26⟩ := hq
              obtain ⟨G27, hG9⟩ : ∃ g, g = G9 := ⟨_, rfl⟩
              rw [← hG9] at hm hB xp26
              have hM := hM.stp hm (by decide)
              obtain ⟨g28, r29, a_h0, f_g28⟩ := hm.ex a_h0
              have hL : iv_pr (1) 0 h0 G12 G27 := (hL.tr xp26.1).wk (by decide)
              refine lv_if_ne (tgt := 105) hx hb dX12_product_100 (by decide) (fun c30 => ?_) (fun c30 => ?_)
              · skip
                have i30_x25 : iv_R 1 1 x25 := iv_ne_lo c30 i_x25 q_0 (by decide)
                have hC32 := xp26.2 c30
                refine lv_aload_n hx hb dX12_product_105 rfl (lv_at hl 1 rfl) ?_
                refine lv_bipush (v := 25) hx hb dX12_product_106 (by decide) ?_
                refine lv_iconst (v := 0) hx hb dX12_product_108 (by decide) ?_
                have a_q33 := a_h0
                have hx_q33 := iv_get64 hB a_h0
                have hs_q33 := iv_s18 hB a_h0
                refine iv_cVv X k_good k_mf_X12_lay k_im_X12_lay k_sel_X12_lay k_ml_X12_202 ft_X12 hB a_h0 sh_12 (As := [.int 25, .int 0]) (c_X12_lay l D tys base G27 h0 g28 r29 a_h0 (hL.ly (by decide) a_lb a_h0 hE (iv_s18 hB a_h0)) 25 (q_25.wk (by decide)) 0 (q_0.wk (by decide))) ⟨rfl, rfl⟩ ⟨Nat.le_of_ble_eq_true rfl, Nat.le_of_ble_eq_true rfl⟩ ⟨Nat.le_of_ble_eq_true rfl, Nat.le_of_ble_eq_true rfl⟩ rfl rfl hl.1 (Nat.le_of_ble_eq_true rfl) dX12_product_109 (fun G9 H locs hq hB => ?_)
                obtain ⟨hm, xp34⟩ := hq
                obtain ⟨G35, hG9⟩ : ∃ g, g = G9 := ⟨_, rfl⟩
                rw [← hG9] at hm hB xp34
                have hM := hM.stp hm (by decide)
                obtain ⟨g36, r37, a_h0, f_g36⟩ := hm.ex a_h0
                have hL : iv_pr (0) 1 h0 G12 G35 := (hL.lay xp34 a_q33 hx_q33).wk (by decide)
                have hC38 := hC22.op xp26 hC32 xp34 a_q24 a_q33 hx_q24 (by decide)
                refine lv_goto (tgt := 9) hx hb dX12_product_112 (by decide) ?_
                exact ih_9 G35 hM _ _ hB g36 r37 a_h0 (iv_mea (hL.gt (by decide) a_lb a_h0) (iv_s18 hB a_h0) hn_9) ((hP.tr hL).wk (by decide)) hC38 _ (lv_sub hl [1] rfl)
              · skip
                have i38_x25 : iv_R 0 0 x25 := (i_x25.cutHi (n := 0) (iv_eq_r c30 q_0).2)
                refine lv_iconst (v := 0) hx hb dX12_product_103 (by decide) ?_
                exact iv_zret X hr hlocks hB (q_0.wk (by decide)) ⟨hM, (q_0.wk (by decide)), ⟨((hP.tr hL).wk (by decide)), fun h => absurd (iv_z q_0) h⟩⟩ dX12_product_104
            · skip
              exact absurd rfl c23
          · skip
            exact (i14_x13.cutLo (n := 147) (iv_eq_r c16 q_147).1).no (by decide)
        · skip
          refine lv_aload_n hx hb dX12_product_19 rfl (lv_at hl 0 rfl) ?_
          refine iv_geti0 X ft_X12 hB a_h0 sh_12 17 (by decide) rfl k_fl_X12_165 dX12_product_20 e_x13 ?_
          refine lv_sipush (v := 147) hx hb dX12_product_23 (by decide) ?_
          refine lv_icmp_ne (tgt := 115) hx hb dX12_product_26 (by decide) (fun c40 => ?_) (fun c40 => ?_)
          · skip
            refine lv_iconst (v := 1) hx hb dX12_product_115 (by decide) ?_
            exact iv_zret X hr hlocks hB (q_1.wk (by decide)) ⟨hM, (q_1.wk (by decide)), ⟨((hP.tr hL).wk (by decide)), fun _ => hC⟩⟩ dX12_product_116
          · skip
            have i40_x13 : iv_R 147 147 x13 := ((i_x13.cutLo (n := 147) (iv_eq_r c40 q_147).1).cutHi (n := 147) (iv_eq_r c40 q_147).2)
            refine lv_aload_n hx hb dX12_product_29 rfl (lv_at hl 0 rfl) ?_
            refine iv_geti0 X ft_X12 hB a_h0 sh_12 17 (by decide) rfl k_fl_X12_165 dX12_product_30 e_x13 ?_
            refine lv_sipush (v := 147) hx hb dX12_product_33 (by decide) ?_
            refine lv_icmp_ne (tgt := 43) hx hb dX12_product_36 (by decide) (fun c42 => ?_) (fun c42 => ?_)
            · skip
              exact (iv_ne_lo c42 i40_x13 q_147 (a' := 148) (by decide)).no (by decide)
            · skip
              refine lv_iconst (v := 1) hx hb dX12_product_39 (by decide) ?_
              refine lv_goto (tgt := 44) hx hb dX12_product_40 (by decide) ?_
              refine lv_istore_n (lv' := [(1, .int 1), (0, .ref h0)]) hx hb dX12_product_44 rfl hl (by decide) rfl (fun ls hl => ?_)
              refine lv_aload_n hx hb dX12_product_45 rfl (lv_at hl 1 rfl) ?_
              have a_q43 := a_h0
              have hx_q43 := iv_get64 hB a_h0
              have hs_q43 := iv_s18 hB a_h0
              refine iv_cVv X k_good k_mf_X12_next0 k_im_X12_next0 k_sel_X12_next0 k_ml_X12_189 ft_X12 hB a_h0 sh_12 (As := []) (e_X12_next0 l D tys base G12 h0 g10 r11 a_h0) ⟨rfl, rfl⟩ ⟨Nat.le_of_ble_eq_true rfl, Nat.le_of_ble_eq_true rfl⟩ ⟨Nat.le_of_ble_eq_true rfl, Nat.le_of_ble_eq_true rfl⟩ rfl rfl hl.1 (Nat.le_of_ble_eq_true rfl) dX12_product_46 (fun G9 H locs hq hB => ?_)
              obtain ⟨hm, xp44⟩ := hq
              obtain ⟨G45, hG9⟩ : ∃ g, g = G9 := ⟨_, rfl⟩
              rw [← hG9] at hm hB xp44
              have hM := hM.stp (iv_MdT.of hm) (by decide)
              obtain ⟨g46, r47, a_h0, f_g46⟩ := hm.ex a_h0
              have hL : iv_pr (1) 0 h0 G12 G45 := (hL.next1 hm a_q43 xp44 (by rw [← e_x13]; exact Int.le_trans (by decide) i40_x13.1)).wk (by decide)
              have hC48 := hC.keep hm a_q43 hx_q43
              refine lv_iload_n hx hb dX12_product_49 rfl (lv_at hl 0 rfl) ?_
              refine lv_if_eq (tgt := 96) hx hb dX12_product_50 (by decide) (fun c49 => ?_) (fun c49 => ?_)
              · skip
                exact (q_1.cutHi (n := 0) (iv_eq_r c49 q_0).2).no (by decide)
              · skip
                refine lv_aload_n hx hb dX12_product_53 rfl (lv_at hl 1 rfl) ?_
                refine iv_geti X ft_X12 hB a_h0 sh_12 19 (by decide) rfl k_fl_X12_177 dX12_product_54 (fun x50 e_x50 i_x50 => ?_)
                refine lv_istore_n (lv' := [(2, .int x50), (1, .int 1), (0, .ref h0)]) hx hb dX12_product_57 rfl hl (by decide) rfl (fun ls hl => ?_)
                refine lv_aload_n hx hb dX12_product_58 rfl (lv_at hl 2 rfl) ?_
                refine iv_geti X ft_X12 hB a_h0 sh_12 17 (by decide) rfl k_fl_X12_165 dX12_product_59 (fun x51 e_x51 i_x51 => ?_)
                refine lv_iconst (v := 2) hx hb dX12_product_62 (by decide) ?_
                refine lv_icmp_eq (tgt := 72) hx hb dX12_product_63 (by decide) (fun c52 => ?_) (fun c52 => ?_)
                · skip
                  have i52_x51 : iv_R 2 2 x51 := ((i_x51.cutLo (n := 2) (iv_eq_r c52 q_2).1).cutHi (n := 2) (iv_eq_r c52 q_2).2)
                  refine lv_iload_n hx hb dX12_product_72 rfl (lv_at hl 0 rfl) ?_
                  refine lv_if_ne (tgt := 82) hx hb dX12_product_73 (by decide) (fun c54 => ?_) (fun c54 => ?_)
                  · skip
                    refine lv_aload_n hx hb dX12_product_82 rfl (lv_at hl 2 rfl) ?_
                    have a_q55 := a_h0
                    have hx_q55 := iv_get64 hB a_h0
                    have hs_q55 := iv_s18 hB a_h0
                    refine iv_cVv X k_good k_mf_X12_next0 k_im_X12_next0 k_sel_X12_next0 k_ml_X12_189 ft_X12 hB a_h0 sh_12 (As := []) (e_X12_next0 l D tys base G45 h0 g46 r47 a_h0) ⟨rfl, rfl⟩ ⟨Nat.le_of_ble_eq_true rfl, Nat.le_of_ble_eq_true rfl⟩ ⟨Nat.le_of_ble_eq_true rfl, Nat.le_of_ble_eq_true rfl⟩ rfl rfl hl.1 (Nat.le_of_ble_eq_true rfl) dX12_product_83 (fun G9 H locs hq hB => ?_)
                    obtain ⟨hm, xp56⟩ := hq
                    obtain ⟨G57, hG9⟩ : ∃ g, g = G9 := ⟨_, rfl⟩
                    rw [← hG9] at hm hB xp56
                    have hM := hM.stp (iv_MdT.of hm) (by decide)
                    obtain ⟨g58, r59, a_h0, f_g58⟩ := hm.ex a_h0
                    have hL : iv_pr (2) 0 h0 G12 G57 := (hL.next1 hm a_q55 xp56 (by rw [← e_x51]; exact Int.le_trans (by decide) i52_x51.1)).wk (by decide)
                    have hC60 := hC48.keep hm a_q55 hx_q55
                    refine lv_aload_n hx hb dX12_product_86 rfl (lv_at hl 2 rfl) ?_
                    refine lv_bipush (v := 26) hx hb dX12_product_87 (by decide) ?_
                    refine lv_iload_n hx hb dX12_product_89 rfl (lv_at hl 0 rfl) ?_
                    have a_q61 := a_h0
                    have hx_q61 := iv_get64 hB a_h0
                    have hs_q61 := iv_s18 hB a_h0
                    refine iv_cVv X k_good k_mf_X12_lay k_im_X12_lay k_sel_X12_lay k_ml_X12_202 ft_X12 hB a_h0 sh_12 (As := [.int 26, .int x50]) (c_X12_lay l D tys base G57 h0 g58 r59 a_h0 (hL.ly (by decide) a_lb a_h0 hE (iv_s18 hB a_h0)) 26 (q_26.wk (by decide)) x50 i_x50) ⟨rfl, rfl⟩ ⟨Nat.le_of_ble_eq_true rfl, Nat.le_of_ble_eq_true rfl⟩ ⟨Nat.le_of_ble_eq_true rfl, Nat.le_of_ble_eq_true rfl⟩ rfl rfl hl.1 (Nat.le_of_ble_eq_true rfl) dX12_product_90 (fun G9 H locs hq hB => ?_)
                    obtain ⟨hm, xp62⟩ := hq
                    obtain ⟨G63, hG9⟩ : ∃ g, g = G9 := ⟨_, rfl⟩
                    rw [← hG9] at hm hB xp62
                    have hM := hM.stp hm (by decide)
                    obtain ⟨g64, r65, a_h0, f_g64⟩ := hm.ex a_h0
                    have hL : iv_pr (1) 1 h0 G12 G63 := (hL.lay xp62 a_q61 hx_q61).wk (by decide)
                    have hC66 := hC60.un xp62 a_q61 hx_q61 (Or.inl ⟨by decide, c54⟩)
                    refine lv_goto (tgt := 112) hx hb dX12_product_93 (by decide) ?_
                    refine lv_goto (tgt := 9) hx hb dX12_product_112 (by decide) ?_
                    exact ih_9 G63 hM _ _ hB g64 r65 a_h0 (iv_mea (hL.gt (by decide) a_lb a_h0) (iv_s18 hB a_h0) hn_9) ((hP.tr hL).wk (by decide)) hC66 _ (lv_sub hl [2] rfl)
                  · skip
                    have i66_x50 : iv_R 0 0 x50 := ((i_x50.cutLo (n := 0) (iv_eq_r c54 q_0).1).cutHi (n := 0) (iv_eq_r c54 q_0).2)
                    refine lv_aload_n hx hb dX12_product_76 rfl (lv_at hl 2 rfl) ?_
                    refine lv_iconst (v := 2) hx hb dX12_product_77 (by decide) ?_
                    have a_q68 := a_h0
                    have hx_q68 := iv_get64 hB a_h0
                    have hs_q68 := iv_s18 hB a_h0
                    refine iv_cVi X k_good k_mf_X12_bad k_im_X12_bad k_sel_X12_bad k_ml_X12_186 ft_X12 hB a_h0 sh_12 (As := [.int 2]) (c_X12_bad l D tys base G45 h0 g46 r47 a_h0 2 (q_2.wk (by decide)) (hL.J a_lb a_h0)) ⟨rfl, rfl⟩ ⟨Nat.le_of_ble_eq_true rfl, Nat.le_of_ble_eq_true rfl⟩ ⟨Nat.le_of_ble_eq_true rfl, Nat.le_of_ble_eq_true rfl⟩ rfl rfl hl.1 (Nat.le_of_ble_eq_true rfl) dX12_product_78 (fun x69 G9 H locs hq hB => ?_)
                    obtain ⟨hm, i_x69, xp70⟩ := hq
                    obtain ⟨G71, hG9⟩ : ∃ g, g = G9 := ⟨_, rfl⟩
                    rw [← hG9] at hm hB xp70
                    have hM := hM.stp (iv_MdT.of hm) (by decide)
                    obtain ⟨g72, r73, a_h0, f_g72⟩ := hm.ex a_h0
                    have hL : iv_pr (1) 0 h0 G12 G71 := (hL.tr xp70).wk (by decide)
                    have hC74 := hC48.keep hm a_q68 hx_q68
                    exact iv_zret X hr hlocks hB (i_x69.wk (by decide)) ⟨hM, (i_x69.wk (by decide)), ⟨((hP.tr hL).wk (by decide)), fun h => absurd (iv_z i_x69) h⟩⟩ dX12_product_81
                · skip
                  refine lv_aload_n hx hb dX12_product_66 rfl (lv_at hl 2 rfl) ?_
                  refine lv_iconst (v := 1) hx hb dX12_product_67 (by decide) ?_
                  have a_q75 := a_h0
                  have hx_q75 := iv_get64 hB a_h0
                  have hs_q75 := iv_s18 hB a_h0
                  refine iv_cVi X k_good k_mf_X12_bad k_im_X12_bad k_sel_X12_bad k_ml_X12_186 ft_X12 hB a_h0 sh_12 (As := [.int 1]) (c_X12_bad l D tys base G45 h0 g46 r47 a_h0 1 (q_1.wk (by decide)) (hL.J a_lb a_h0)) ⟨rfl, rfl⟩ ⟨Nat.le_of_ble_eq_true rfl, Nat.le_of_ble_eq_true rfl⟩ ⟨Nat.le_of_ble_eq_true rfl, Nat.le_of_ble_eq_true rfl⟩ rfl rfl hl.1 (Nat.le_of_ble_eq_true rfl) dX12_product_68 (fun x76 G9 H locs hq hB => ?_)
                  obtain ⟨hm, i_x76, xp77⟩ := hq
                  obtain ⟨G78, hG9⟩ : ∃ g, g = G9 := ⟨_, rfl⟩
                  rw [← hG9] at hm hB xp77
                  have hM := hM.stp (iv_MdT.of hm) (by decide)
                  obtain ⟨g79, r80, a_h0, f_g79⟩ := hm.ex a_h0
                  have hL : iv_pr (1) 0 h0 G12 G78 := (hL.tr xp77).wk (by decide)
                  have hC81 := hC48.keep hm a_q75 hx_q75
                  exact iv_zret X hr hlocks hB (i_x76.wk (by decide)) ⟨hM, (i_x76.wk (by decide)), ⟨((hP.tr hL).wk (by decide)), fun h => absurd (iv_z i_x76) h⟩⟩ dX12_product_71
    exact L_9 _ G4 hM _ _ hB g5 r6 a_h0 (Nat.lt_succ_self _) ((hP.tr hL).wk (by decide)) hC9 _ (lv_sub hl [0] rfl)
  · skip
    have i81_x2 : iv_R 0 0 x2 := (i_x2.cutHi (n := 0) (iv_eq_r c7 q_0).2)
    refine lv_iconst (v := 0) hx hb dX12_product_7 (by decide) ?_
    exact iv_zret X hr hlocks hB (q_0.wk (by decide)) ⟨hM, (q_0.wk (by decide)), ⟨((hP.tr hL).wk (by decide)), fun h => absurd (iv_z q_0) h⟩⟩ dX12_product_8
theorem dX12_sumUp_0 : decode cX12_sumUp 0 = .ok (.aload_n 0, 1) := by decide +kernel
theorem dX12_sumUp_1 : decode cX12_sumUp 1 = .ok (.invokevirtual 198, 3) := by decide +kernel
theorem dX12_sumUp_4 : decode cX12_sumUp 4 = .ok (.ifCond .ne 5, 3) := by decide +kernel
theorem dX12_sumUp_7 : decode cX12_sumUp 7 = .ok (.iconst 0, 1) := by decide +kernel
theorem dX12_sumUp_8 : decode cX12_sumUp 8 = .ok (.ireturn, 1) := by decide +kernel
theorem dX12_sumUp_9 : decode cX12_sumUp 9 = .ok (.aload_n 0, 1) := by decide +kernel
theorem dX12_sumUp_10 : decode cX12_sumUp 10 = .ok (.getfield 165, 3) := by decide +kernel
theorem dX12_sumUp_13 : decode cX12_sumUp 13 = .ok (.sipush 143, 3) := by decide +kernel
theorem dX12_sumUp_16 : decode cX12_sumUp 16 = .ok (.if_icmp .eq 13, 3) := by decide +kernel
theorem dX12_sumUp_19 : decode cX12_sumUp 19 = .ok (.aload_n 0, 1) := by decide +kernel
theorem dX12_sumUp_20 : decode cX12_sumUp 20 = .ok (.getfield 165, 3) := by decide +kernel
theorem dX12_sumUp_23 : decode cX12_sumUp 23 = .ok (.sipush 145, 3) := by decide +kernel
theorem dX12_sumUp_26 : decode cX12_sumUp 26 = .ok (.if_icmp .ne 43, 3) := by decide +kernel
theorem dX12_sumUp_29 : decode cX12_sumUp 29 = .ok (.aload_n 0, 1) := by decide +kernel
theorem dX12_sumUp_30 : decode cX12_sumUp 30 = .ok (.getfield 165, 3) := by decide +kernel
theorem dX12_sumUp_33 : decode cX12_sumUp 33 = .ok (.sipush 143, 3) := by decide +kernel
theorem dX12_sumUp_36 : decode cX12_sumUp 36 = .ok (.if_icmp .ne 8, 3) := by decide +kernel
theorem dX12_sumUp_39 : decode cX12_sumUp 39 = .ok (.bipush 23, 2) := by decide +kernel
theorem dX12_sumUp_41 : decode cX12_sumUp 41 = .ok (.goto 5, 3) := by decide +kernel
theorem dX12_sumUp_44 : decode cX12_sumUp 44 = .ok (.bipush 24, 2) := by decide +kernel
theorem dX12_sumUp_46 : decode cX12_sumUp 46 = .ok (.istore_n 1, 1) := by decide +kernel
theorem dX12_sumUp_47 : decode cX12_sumUp 47 = .ok (.aload_n 0, 1) := by decide +kernel
theorem dX12_sumUp_48 : decode cX12_sumUp 48 = .ok (.invokevirtual 189, 3) := by decide +kernel
theorem dX12_sumUp_51 : decode cX12_sumUp 51 = .ok (.aload_n 0, 1) := by decide +kernel
theorem dX12_sumUp_52 : decode cX12_sumUp 52 = .ok (.invokevirtual 198, 3) := by decide +kernel
theorem dX12_sumUp_55 : decode cX12_sumUp 55 = .ok (.ifCond .ne 5, 3) := by decide +kernel
theorem dX12_sumUp_58 : decode cX12_sumUp 58 = .ok (.iconst 0, 1) := by decide +kernel
theorem dX12_sumUp_59 : decode cX12_sumUp 59 = .ok (.ireturn, 1) := by decide +kernel
theorem dX12_sumUp_60 : decode cX12_sumUp 60 = .ok (.aload_n 0, 1) := by decide +kernel
theorem dX12_sumUp_61 : decode cX12_sumUp 61 = .ok (.iload_n 1, 1) := by decide +kernel
theorem dX12_sumUp_62 : decode cX12_sumUp 62 = .ok (.iconst 0, 1) := by decide +kernel
theorem dX12_sumUp_63 : decode cX12_sumUp 63 = .ok (.invokevirtual 202, 3) := by decide +kernel
theorem dX12_sumUp_66 : decode cX12_sumUp 66 = .ok (.goto (-57), 3) := by decide +kernel
theorem dX12_sumUp_69 : decode cX12_sumUp 69 = .ok (.iconst 1, 1) := by decide +kernel
theorem dX12_sumUp_70 : decode cX12_sumUp 70 = .ok (.ireturn, 1) := by decide +kernel
set_option maxHeartbeats 4000000 in
set_option maxRecDepth 100000 in
theorem c_X12_sumUp (l : Launch) (D : va_G) (tys : List (ClassId × FieldType)) (base : Nat) (G : iv_G) (h0 : Nat) (g_h0 : Nat → Int32) (r_h0 : Nat → Nat) (a_h0 : G h0 = some (12, g_h0, r_h0)) (hJ : iv_J g_h0) (hE0 : (g_h0 13).toInt ≤ (g_h0 18).toInt) : Met l yX12_sumUp (Cond.code yX12_sumUp cX12_sumUp 2 (some .boolean) :: iv_W0) ({ frames := 11, cells := 0, slots := 0, locals := 233 }) (iv_Pc iv_sh D classes tys base G [.ref h0]) (iv_Qi iv_sh D classes tys base (fun v G' => iv_MdT [12, 64] G G' ∧ iv_R 0 1 v ∧ iv_pr 0 0 h0 G G' ∧ (¬ v = 0 → iv_cd h0 G G'))) 0 0 (iv_A base) := by
  refine iv_head (by decide) (Nat.le_of_ble_eq_true rfl) ?_
  intro p e s m args below meth c ls X hr hlocks hname hB hl
  have X := X
  have hx := X.1.1
  have hb := X.1.2.1
  have hM : iv_MdT [12, 64] G G := iv_MdT.rf
  have a_st := a_h0
  have a_lb := a_h0
  have hP : iv_pr 0 0 h0 G G := iv_pr.rf a_h0 hJ
  have hL : iv_pr 0 0 h0 G G := hP
  have hE := hE0
  have hl : lv_has ls 2 [(0, .ref h0)] := hl
  refine lv_aload_n hx hb dX12_sumUp_0 rfl (lv_at hl 0 rfl) ?_
  have a_q1 := a_h0
  have hx_q1 := iv_get64 hB a_h0
  have hs_q1 := iv_s18 hB a_h0
  refine iv_cVi X k_good k_mf_X12_product k_im_X12_product k_sel_X12_product k_ml_X12_198 ft_X12 hB a_h0 sh_12 (As := []) (c_X12_product l D tys base G h0 g_h0 r_h0 a_h0 (hL.J a_lb a_h0) (hL.le (by decide) a_lb a_h0 hE)) ⟨rfl, rfl⟩ ⟨Nat.le_of_ble_eq_true rfl, Nat.le_of_ble_eq_true rfl⟩ ⟨Nat.le_of_ble_eq_true rfl, Nat.le_of_ble_eq_true rfl⟩ rfl rfl hl.1 (Nat.le_of_ble_eq_true rfl) dX12_sumUp_1 (fun x2 G9 H locs hq hB => ?_)
  obtain ⟨hm, i_x2, xp3⟩ := hq
  obtain ⟨G4, hG9⟩ : ∃ g, g = G9 := ⟨_, rfl⟩
  rw [← hG9] at hm hB xp3
  have hM := hM.stp hm (by decide)
  obtain ⟨g5, r6, a_h0, f_g5⟩ := hm.ex a_h0
  have hL : iv_pr (0) 0 h0 G G4 := (hL.tr xp3.1).wk (by decide)
  refine lv_if_ne (tgt := 9) hx hb dX12_sumUp_4 (by decide) (fun c7 => ?_) (fun c7 => ?_)
  · skip
    have i7_x2 : iv_R 1 1 x2 := iv_ne_lo c7 i_x2 q_0 (by decide)
    have hC9 := xp3.2 c7
    have L_9 : ∀ (n_9 : Nat) (G12 : iv_G) (hM : iv_MdT [12, 64] G G12) (H : Heap) (locs : List Loc) (hB : iv_B iv_sh D classes tys base G12 s.heap H locs) (g10 : Nat → Int32) (r11 : Nat → Nat) (a_h0 : G12 h0 = some (12, g10, r11)) (hn_9 : (401 - (g10 18).toInt).toNat < n_9) (hP : iv_pr 0 0 h0 G G12) (hC : iv_cd h0 G G12) (ls : Array Slot) (hl : lv_has ls 2 [(0, .ref h0)]), W p l e ({ frames := 11, cells := 0, slots := 0, locals := 233 } : Room) s m args below meth c H locs 0 0 (MQ below (iv_Qi iv_sh D classes tys base (fun v G' => iv_MdT [12, 64] G G' ∧ iv_R 0 1 v ∧ iv_pr 0 0 h0 G G' ∧ (¬ v = 0 → iv_cd h0 G G'))) args s 0 0 (iv_A base)) (F0 m 9 ls []) := by
      intro n_9
      induction n_9 with
      | zero => intro G12 hM H locs hB g10 r11 a_h0 hn_9 hP hC ls hl; exact absurd hn_9 (Nat.not_lt_zero _)
      | succ n_9 ih_9 =>
        intro G12 hM H locs hB g10 r11 a_h0 hn_9 hP hC ls hl
        have a_lb := a_h0
        have hL : iv_pr 0 0 h0 G12 G12 := iv_pr.rf a_h0 (hP.J a_st a_h0)
        have hE := hP.le (by decide) a_st a_h0 hE0
        refine lv_aload_n hx hb dX12_sumUp_9 rfl (lv_at hl 0 rfl) ?_
        refine iv_geti X ft_X12 hB a_h0 sh_12 17 (by decide) rfl k_fl_X12_165 dX12_sumUp_10 (fun x13 e_x13 i_x13 => ?_)
        refine lv_sipush (v := 143) hx hb dX12_sumUp_13 (by decide) ?_
        refine lv_icmp_eq (tgt := 29) hx hb dX12_sumUp_16 (by decide) (fun c14 => ?_) (fun c14 => ?_)
        · skip
          have i14_x13 : iv_R 143 143 x13 := ((i_x13.cutLo (n := 143) (iv_eq_r c14 q_143).1).cutHi (n := 143) (iv_eq_r c14 q_143).2)
          refine lv_aload_n hx hb dX12_sumUp_29 rfl (lv_at hl 0 rfl) ?_
          refine iv_geti0 X ft_X12 hB a_h0 sh_12 17 (by decide) rfl k_fl_X12_165 dX12_sumUp_30 e_x13 ?_
          refine lv_sipush (v := 143) hx hb dX12_sumUp_33 (by decide) ?_
          refine lv_icmp_ne (tgt := 44) hx hb dX12_sumUp_36 (by decide) (fun c16 => ?_) (fun c16 => ?_)
          · skip
            exact (iv_ne_lo c16 i14_x13 q_143 (a' := 144) (by decide)).no (by decide)
          · skip
            refine lv_bipush (v := 23) hx hb dX12_sumUp_39 (by decide) ?_
            refine lv_goto (tgt := 46) hx hb dX12_sumUp_41 (by decide) ?_
            refine lv_istore_n (lv' := [(1, .int 23), (0, .ref h0)]) hx hb dX12_sumUp_46 rfl hl (by decide) rfl (fun ls hl => ?_)
            refine lv_aload_n hx hb dX12_sumUp_47 rfl (lv_at hl 1 rfl) ?_
            have a_q17 := a_h0
            have hx_q17 := iv_get64 hB a_h0
            have hs_q17 := iv_s18 hB a_h0
            refine iv_cVv X k_good k_mf_X12_next0 k_im_X12_next0 k_sel_X12_next0 k_ml_X12_189 ft_X12 hB a_h0 sh_12 (As := []) (e_X12_next0 l D tys base G12 h0 g10 r11 a_h0) ⟨rfl, rfl⟩ ⟨Nat.le_of_ble_eq_true rfl, Nat.le_of_ble_eq_true rfl⟩ ⟨Nat.le_of_ble_eq_true rfl, Nat.le_of_ble_eq_true rfl⟩ rfl rfl hl.1 (Nat.le_of_ble_eq_true rfl) dX12_sumUp_48 (fun G9 H locs hq hB => ?_)
            obtain ⟨hm, xp18⟩ := hq
            obtain ⟨G19, hG9⟩ : ∃ g, g = G9 := ⟨_, rfl⟩
            rw [← hG9] at hm hB xp18
            have hM := hM.stp (iv_MdT.of hm) (by decide)
            obtain ⟨g20, r21, a_h0, f_g20⟩ := hm.ex a_h0
            have hL : iv_pr (1) 0 h0 G12 G19 := (hL.next1 hm a_q17 xp18 (by rw [← e_x13]; exact Int.le_trans (by decide) i14_x13.1)).wk (by decide)
            have hC22 := hC.keep hm a_q17 hx_q17
            refine lv_aload_n hx hb dX12_sumUp_51 rfl (lv_at hl 1 rfl) ?_
            have a_q23 := a_h0
            have hx_q23 := iv_get64 hB a_h0
            have hs_q23 := iv_s18 hB a_h0
            refine iv_cVi X k_good k_mf_X12_product k_im_X12_product k_sel_X12_product k_ml_X12_198 ft_X12 hB a_h0 sh_12 (As := []) (c_X12_product l D tys base G19 h0 g20 r21 a_h0 (hL.J a_lb a_h0) (hL.le (by decide) a_lb a_h0 hE)) ⟨rfl, rfl⟩ ⟨Nat.le_of_ble_eq_true rfl, Nat.le_of_ble_eq_true rfl⟩ ⟨Nat.le_of_ble_eq_true rfl, Nat.le_of_ble_eq_true rfl⟩ rfl rfl hl.1 (Nat.le_of_ble_eq_true rfl) dX12_sumUp_52 (fun x24 G9 H locs hq hB => ?_)
            obtain ⟨hm, i_x24, xp25⟩ := hq
            obtain ⟨G26, hG9⟩ : ∃ g, g = G9 := ⟨_, rfl⟩
            rw [← hG9] at hm hB xp25
            have hM := hM.stp hm (by decide)
            obtain ⟨g27, r28, a_h0, f_g27⟩ := hm.ex a_h0
            have hL : iv_pr (1) 0 h0 G12 G26 := (hL.tr xp25.1).wk (by decide)
            refine lv_if_ne (tgt := 60) hx hb dX12_sumUp_55 (by decide) (fun c29 => ?_) (fun c29 => ?_)
            · skip
              have i29_x24 : iv_R 1 1 x24 := iv_ne_lo c29 i_x24 q_0 (by decide)
              have hC31 := xp25.2 c29
              refine lv_aload_n hx hb dX12_sumUp_60 rfl (lv_at hl 1 rfl) ?_
              refine lv_iload_n hx hb dX12_sumUp_61 rfl (lv_at hl 0 rfl) ?_
              refine lv_iconst (v := 0) hx hb dX12_sumUp_62 (by decide) ?_
              have a_q32 := a_h0
              have hx_q32 := iv_get64 hB a_h0
              have hs_q32 := iv_s18 hB a_h0
              refine iv_cVv X k_good k_mf_X12_lay k_im_X12_lay k_sel_X12_lay k_ml_X12_202 ft_X12 hB a_h0 sh_12 (As := [.int 23, .int 0]) (c_X12_lay l D tys base G26 h0 g27 r28 a_h0 (hL.ly (by decide) a_lb a_h0 hE (iv_s18 hB a_h0)) 23 (q_23.wk (by decide)) 0 (q_0.wk (by decide))) ⟨rfl, rfl⟩ ⟨Nat.le_of_ble_eq_true rfl, Nat.le_of_ble_eq_true rfl⟩ ⟨Nat.le_of_ble_eq_true rfl, Nat.le_of_ble_eq_true rfl⟩ rfl rfl hl.1 (Nat.le_of_ble_eq_true rfl) dX12_sumUp_63 (fun G9 H locs hq hB => ?_)
              obtain ⟨hm, xp33⟩ := hq
              obtain ⟨G34, hG9⟩ : ∃ g, g = G9 := ⟨_, rfl⟩
              rw [← hG9] at hm hB xp33
              have hM := hM.stp hm (by decide)
              obtain ⟨g35, r36, a_h0, f_g35⟩ := hm.ex a_h0
              have hL : iv_pr (0) 1 h0 G12 G34 := (hL.lay xp33 a_q32 hx_q32).wk (by decide)
              have hC37 := hC22.op xp25 hC31 xp33 a_q23 a_q32 hx_q23 (by decide)
              refine lv_goto (tgt := 9) hx hb dX12_sumUp_66 (by decide) ?_
              exact ih_9 G34 hM _ _ hB g35 r36 a_h0 (iv_mea (hL.gt (by decide) a_lb a_h0) (iv_s18 hB a_h0) hn_9) ((hP.tr hL).wk (by decide)) hC37 _ (lv_sub hl [1] rfl)
            · skip
              have i37_x24 : iv_R 0 0 x24 := (i_x24.cutHi (n := 0) (iv_eq_r c29 q_0).2)
              refine lv_iconst (v := 0) hx hb dX12_sumUp_58 (by decide) ?_
              exact iv_zret X hr hlocks hB (q_0.wk (by decide)) ⟨hM, (q_0.wk (by decide)), ⟨((hP.tr hL).wk (by decide)), fun h => absurd (iv_z q_0) h⟩⟩ dX12_sumUp_59
        · skip
          refine lv_aload_n hx hb dX12_sumUp_19 rfl (lv_at hl 0 rfl) ?_
          refine iv_geti0 X ft_X12 hB a_h0 sh_12 17 (by decide) rfl k_fl_X12_165 dX12_sumUp_20 e_x13 ?_
          refine lv_sipush (v := 145) hx hb dX12_sumUp_23 (by decide) ?_
          refine lv_icmp_ne (tgt := 69) hx hb dX12_sumUp_26 (by decide) (fun c39 => ?_) (fun c39 => ?_)
          · skip
            refine lv_iconst (v := 1) hx hb dX12_sumUp_69 (by decide) ?_
            exact iv_zret X hr hlocks hB (q_1.wk (by decide)) ⟨hM, (q_1.wk (by decide)), ⟨((hP.tr hL).wk (by decide)), fun _ => hC⟩⟩ dX12_sumUp_70
          · skip
            have i39_x13 : iv_R 145 145 x13 := ((i_x13.cutLo (n := 145) (iv_eq_r c39 q_145).1).cutHi (n := 145) (iv_eq_r c39 q_145).2)
            refine lv_aload_n hx hb dX12_sumUp_29 rfl (lv_at hl 0 rfl) ?_
            refine iv_geti0 X ft_X12 hB a_h0 sh_12 17 (by decide) rfl k_fl_X12_165 dX12_sumUp_30 e_x13 ?_
            refine lv_sipush (v := 143) hx hb dX12_sumUp_33 (by decide) ?_
            refine lv_icmp_ne (tgt := 44) hx hb dX12_sumUp_36 (by decide) (fun c41 => ?_) (fun c41 => ?_)
            · skip
              refine lv_bipush (v := 24) hx hb dX12_sumUp_44 (by decide) ?_
              refine lv_istore_n (lv' := [(1, .int 24), (0, .ref h0)]) hx hb dX12_sumUp_46 rfl hl (by decide) rfl (fun ls hl => ?_)
              refine lv_aload_n hx hb dX12_sumUp_47 rfl (lv_at hl 1 rfl) ?_
              have a_q42 := a_h0
              have hx_q42 := iv_get64 hB a_h0
              have hs_q42 := iv_s18 hB a_h0
              refine iv_cVv X k_good k_mf_X12_next0 k_im_X12_next0 k_sel_X12_next0 k_ml_X12_189 ft_X12 hB a_h0 sh_12 (As := []) (e_X12_next0 l D tys base G12 h0 g10 r11 a_h0) ⟨rfl, rfl⟩ ⟨Nat.le_of_ble_eq_true rfl, Nat.le_of_ble_eq_true rfl⟩ ⟨Nat.le_of_ble_eq_true rfl, Nat.le_of_ble_eq_true rfl⟩ rfl rfl hl.1 (Nat.le_of_ble_eq_true rfl) dX12_sumUp_48 (fun G9 H locs hq hB => ?_)
              obtain ⟨hm, xp43⟩ := hq
              obtain ⟨G44, hG9⟩ : ∃ g, g = G9 := ⟨_, rfl⟩
              rw [← hG9] at hm hB xp43
              have hM := hM.stp (iv_MdT.of hm) (by decide)
              obtain ⟨g45, r46, a_h0, f_g45⟩ := hm.ex a_h0
              have hL : iv_pr (1) 0 h0 G12 G44 := (hL.next1 hm a_q42 xp43 (by rw [← e_x13]; exact Int.le_trans (by decide) i39_x13.1)).wk (by decide)
              have hC47 := hC.keep hm a_q42 hx_q42
              refine lv_aload_n hx hb dX12_sumUp_51 rfl (lv_at hl 1 rfl) ?_
              have a_q48 := a_h0
              have hx_q48 := iv_get64 hB a_h0
              have hs_q48 := iv_s18 hB a_h0
              refine iv_cVi X k_good k_mf_X12_product k_im_X12_product k_sel_X12_product k_ml_X12_198 ft_X12 hB a_h0 sh_12 (As := []) (c_X12_product l D tys base G44 h0 g45 r46 a_h0 (hL.J a_lb a_h0) (hL.le (by decide) a_lb a_h0 hE)) ⟨rfl, rfl⟩ ⟨Nat.le_of_ble_eq_true rfl, Nat.le_of_ble_eq_true rfl⟩ ⟨Nat.le_of_ble_eq_true rfl, Nat.le_of_ble_eq_true rfl⟩ rfl rfl hl.1 (Nat.le_of_ble_eq_true rfl) dX12_sumUp_52 (fun x49 G9 H locs hq hB => ?_)
              obtain ⟨hm, i_x49, xp50⟩ := hq
              obtain ⟨G51, hG9⟩ : ∃ g, g = G9 := ⟨_, rfl⟩
              rw [← hG9] at hm hB xp50
              have hM := hM.stp hm (by decide)
              obtain ⟨g52, r53, a_h0, f_g52⟩ := hm.ex a_h0
              have hL : iv_pr (1) 0 h0 G12 G51 := (hL.tr xp50.1).wk (by decide)
              refine lv_if_ne (tgt := 60) hx hb dX12_sumUp_55 (by decide) (fun c54 => ?_) (fun c54 => ?_)
              · skip
                have i54_x49 : iv_R 1 1 x49 := iv_ne_lo c54 i_x49 q_0 (by decide)
                have hC56 := xp50.2 c54
                refine lv_aload_n hx hb dX12_sumUp_60 rfl (lv_at hl 1 rfl) ?_
                refine lv_iload_n hx hb dX12_sumUp_61 rfl (lv_at hl 0 rfl) ?_
                refine lv_iconst (v := 0) hx hb dX12_sumUp_62 (by decide) ?_
                have a_q57 := a_h0
                have hx_q57 := iv_get64 hB a_h0
                have hs_q57 := iv_s18 hB a_h0
                refine iv_cVv X k_good k_mf_X12_lay k_im_X12_lay k_sel_X12_lay k_ml_X12_202 ft_X12 hB a_h0 sh_12 (As := [.int 24, .int 0]) (c_X12_lay l D tys base G51 h0 g52 r53 a_h0 (hL.ly (by decide) a_lb a_h0 hE (iv_s18 hB a_h0)) 24 (q_24.wk (by decide)) 0 (q_0.wk (by decide))) ⟨rfl, rfl⟩ ⟨Nat.le_of_ble_eq_true rfl, Nat.le_of_ble_eq_true rfl⟩ ⟨Nat.le_of_ble_eq_true rfl, Nat.le_of_ble_eq_true rfl⟩ rfl rfl hl.1 (Nat.le_of_ble_eq_true rfl) dX12_sumUp_63 (fun G9 H locs hq hB => ?_)
                obtain ⟨hm, xp58⟩ := hq
                obtain ⟨G59, hG9⟩ : ∃ g, g = G9 := ⟨_, rfl⟩
                rw [← hG9] at hm hB xp58
                have hM := hM.stp hm (by decide)
                obtain ⟨g60, r61, a_h0, f_g60⟩ := hm.ex a_h0
                have hL : iv_pr (0) 1 h0 G12 G59 := (hL.lay xp58 a_q57 hx_q57).wk (by decide)
                have hC62 := hC47.op xp50 hC56 xp58 a_q48 a_q57 hx_q48 (by decide)
                refine lv_goto (tgt := 9) hx hb dX12_sumUp_66 (by decide) ?_
                exact ih_9 G59 hM _ _ hB g60 r61 a_h0 (iv_mea (hL.gt (by decide) a_lb a_h0) (iv_s18 hB a_h0) hn_9) ((hP.tr hL).wk (by decide)) hC62 _ (lv_sub hl [1] rfl)
              · skip
                have i62_x49 : iv_R 0 0 x49 := (i_x49.cutHi (n := 0) (iv_eq_r c54 q_0).2)
                refine lv_iconst (v := 0) hx hb dX12_sumUp_58 (by decide) ?_
                exact iv_zret X hr hlocks hB (q_0.wk (by decide)) ⟨hM, (q_0.wk (by decide)), ⟨((hP.tr hL).wk (by decide)), fun h => absurd (iv_z q_0) h⟩⟩ dX12_sumUp_59
            · skip
              exact absurd c41 c14
    exact L_9 _ G4 hM _ _ hB g5 r6 a_h0 (Nat.lt_succ_self _) ((hP.tr hL).wk (by decide)) hC9 _ (lv_sub hl [0] rfl)
  · skip
    have i63_x2 : iv_R 0 0 x2 := (i_x2.cutHi (n := 0) (iv_eq_r c7 q_0).2)
    refine lv_iconst (v := 0) hx hb dX12_sumUp_7 (by decide) ?_
    exact iv_zret X hr hlocks hB (q_0.wk (by decide)) ⟨hM, (q_0.wk (by decide)), ⟨((hP.tr hL).wk (by decide)), fun h => absurd (iv_z q_0) h⟩⟩ dX12_sumUp_8
