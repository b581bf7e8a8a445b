set_option maxHeartbeats 4000000 in
set_option maxRecDepth 100000 in
theorem e_X7_forgetFault (l : Launch) (D : va_G) (tys : List (ClassId × FieldType)) (base : Nat) (G : iv_G) (h0 : Nat) (g_h0 : Nat → Int32) (r_h0 : Nat → Nat) (a_h0 : G h0 = some (7, g_h0, r_h0)) : Met l yX7_forgetFault (Cond.code yX7_forgetFault cX7_forgetFault 1 none :: iv_W0) ({ frames := 0, cells := 0, slots := 0, locals := 0 }) (iv_Pc iv_sh D classes tys base G [.ref h0]) (iv_Qv iv_sh D classes tys base (fun G' => iv_Md [7] G G' ∧ (∀ (g' : Nat → Int32) (r' : Nat → Nat), G' h0 = some (7, g', r') → g' 6 = 0 ∧ g' 7 = -1))) 0 0 (iv_A base) := by
  refine iv_head (by decide) (Nat.le_of_ble_eq_true rfl) ?_
  intro p e s m args below meth c ls X hr hlocks hname hB hl
  have X := X
  have hx := X.1.1
  have hb := X.1.2.1
  have hM : iv_Md [7] G G := iv_Md.rf
  have hl : lv_has ls 1 [(0, .ref h0)] := hl
  refine lv_aload_n hx hb dX7_forgetFault_0 rfl (lv_at hl 0 rfl) ?_
  refine lv_iconst (v := 0) hx hb dX7_forgetFault_1 (by decide) ?_
  refine iv_puti X ft_X7 hB a_h0 sh_7 6 (by decide) rfl rfl k_fl_X7_41 rfl (q_0.wk (by decide)) rfl rfl dX7_forgetFault_2 (fun H locs hB => ?_)
  have hm := iv_Md.put (x := 0) a_h0 (j := 6) (by decide) (by decide)
  have h9 := iv_up_eq (G := G) (a := h0) (k := (7, upd g_h0 6 0, r_h0))
  generalize iv_up G h0 _ = G1 at hB hm h9
  have hM := hM.stp hm (by decide)
  generalize hgn_g2 : upd g_h0 _ _ = g2 at h9
  have a_h0 := h9
  have e9_g2 : 0 = g2 6 := by rw [← hgn_g2]; simp [upd]
  refine lv_aload_n hx hb dX7_forgetFault_5 rfl (lv_at hl 0 rfl) ?_
  refine lv_iconst (v := (-1)) hx hb dX7_forgetFault_6 (by decide) ?_
  refine iv_puti X ft_X7 hB a_h0 sh_7 7 (by decide) rfl rfl k_fl_X7_18 rfl (q_n1.wk (by decide)) rfl rfl dX7_forgetFault_7 (fun H locs hB => ?_)
  have hm := iv_Md.put (x := (-1)) a_h0 (j := 7) (by decide) (by decide)
  have h9 := iv_up_eq (G := G1) (a := h0) (k := (7, upd g2 7 (-1), r_h0))
  generalize iv_up G1 h0 _ = G3 at hB hm h9
  have hM := hM.stp hm (by decide)
  generalize hgn_g4 : upd g2 _ _ = g4 at h9
  have a_h0 := h9
  have e5 : 0 = g4 6 := by rw [← hgn_g4]; exact e9_g2
  have e9_g4 : (-1) = g4 7 := by rw [← hgn_g4]; simp [upd]
  exact iv_vret X hr hlocks hB ⟨hM, (fun g8 r8 h8 => by cases a_h0.symm.trans h8; exact ⟨e5.symm, e9_g4.symm⟩)⟩ dX7_forgetFault_10
set_option maxHeartbeats 4000000 in
set_option maxRecDepth 100000 in
theorem a_X7_begin (l : Launch) (D : va_G) (tys : List (ClassId × FieldType)) (base : Nat) (G : iv_G) (h0 : Nat) (g_h0 : Nat → Int32) (r_h0 : Nat → Nat) (a_h0 : G h0 = some (7, g_h0, r_h0)) (h1 : Nat) (g_h1 : Nat → Int32) (r_h1 : Nat → Nat) (a_h1 : G h1 = some (45, g_h1, r_h1)) (x_1 : Int32) (i_x_1 : iv_R 0 400 x_1) (hby : ∀ i, i < x_1.toInt.toNat → iv_R 0 255 (g_h1 i)) : Met l yX7_begin (Cond.code yX7_begin cX7_begin 3 none :: iv_W0) ({ frames := 7, cells := 0, slots := 0, locals := 161 }) (iv_Pc iv_sh D classes tys base G [.ref h0, .ref h1, .int x_1]) (iv_Qv iv_sh D classes tys base (fun G' => iv_Md0 [7, 35, 42, 43, 44] G G' ∧ ((∀ (g' : Nat → Int32) (r' : Nat → Nat), G' h0 = some (7, g', r') → iv_R 0 400 (g' 1)) ∧ iv_RE h0 G') ∧ (∃ gk gv gp : Nat → Int32, tk_R (tk_T g_h1 x_1.toInt.toNat) x_1.toInt.toNat (tk_k gk) (tk_k gv) (tk_k gp) ∧ rs h0 (r_h0 0) gk gv gp (tk_c (tk_T g_h1 x_1.toInt.toNat) x_1.toInt.toNat x_1.toInt.toNat) 0 (g_h0 4) G' ∧ ∀ (g' : Nat → Int32) (r' : Nat → Nat), G' h0 = some (7, g', r') → (g' 8).toInt = 0))) 0 0 (iv_A base) := by
  refine iv_head (by decide) (Nat.le_of_ble_eq_true rfl) ?_
  intro p e s m args below meth c ls X hr hlocks hname hB hl
  have X := X
  have hx := X.1.1
  have hb := X.1.2.1
  have hM : iv_Md0 [7, 35, 42, 43, 44] G G := iv_Md0.rf
  have hl : lv_has ls 3 [(0, .ref h0), (1, .ref h1), (2, .int x_1)] := hl
  refine lv_aload_n hx hb dX7_begin_0 rfl (lv_at hl 0 rfl) ?_
  refine iv_getr X ft_X7 hB a_h0 sh_7 0 (by decide) rfl k_fl_X7_12 dX7_begin_1 (fun b1 g_b1 r_b1 e_b1 a_b1 => ?_)
  refine lv_aload_n hx hb dX7_begin_4 rfl (lv_at hl 1 rfl) ?_
  refine lv_iload_n hx hb dX7_begin_5 rfl (lv_at hl 2 rfl) ?_
  refine iv_cVv X k_good k_mf_X10_read k_im_X10_read k_sel_X10_read k_ml_X7_68 ft_X10 hB a_b1 sh_10 (As := [.ref h1, .int x_1]) (e_X10_read l D tys base G b1 g_b1 r_b1 a_b1 h1 g_h1 r_h1 a_h1 x_1 i_x_1 hby) ⟨rfl, rfl⟩ ⟨Nat.le_of_ble_eq_true rfl, Nat.le_of_ble_eq_true rfl⟩ ⟨Nat.le_of_ble_eq_true rfl, Nat.le_of_ble_eq_true rfl⟩ rfl rfl hl.1 (Nat.le_of_ble_eq_true rfl) dX7_begin_6 (fun G9 H locs hq hB => ?_)
  obtain ⟨hm, gk, gv, gp, rk, rv, rp, t42, t43, t44, hRt⟩ := hq
  obtain ⟨G2, hG9⟩ : ∃ g, g = G9 := ⟨_, rfl⟩
  rw [← hG9] at hm hB t42 t43 t44
  have hM := hM.stp hm.weak (by decide)
  have RX : rx b1 gk gv gp G2 := ⟨g_b1, r_b1, rk, rp, rv, hm.at a_b1 (by decide), t42, t43, t44⟩
  have a_h0 := hm.at a_h0 (by decide)
  have a_h1 := hm.at a_h1 (by decide)
  refine lv_aload_n hx hb dX7_begin_9 rfl (lv_at hl 0 rfl) ?_
  refine iv_cVv X k_good k_mf_X7_forgetFault k_im_X7_forgetFault k_sel_X7_forgetFault k_ml_X7_71 ft_X7 hB a_h0 sh_7 (As := []) (e_X7_forgetFault l D tys base G2 h0 g_h0 r_h0 a_h0) ⟨rfl, rfl⟩ ⟨Nat.le_of_ble_eq_true rfl, Nat.le_of_ble_eq_true rfl⟩ ⟨Nat.le_of_ble_eq_true rfl, Nat.le_of_ble_eq_true rfl⟩ rfl rfl hl.1 (Nat.le_of_ble_eq_true rfl) dX7_begin_10 (fun G9 H locs hq hB => ?_)
  obtain ⟨hm, vf9⟩ := hq
  obtain ⟨G3, hG9⟩ : ∃ g, g = G9 := ⟨_, rfl⟩
  rw [← hG9] at hm hB vf9
  have hM := hM.stp hm.weak (by decide)
  have RX := RX.md hm (by decide)
  obtain ⟨g4, r5, a_h0, f_g4⟩ := hm.ex a_h0
  have vz9 := vf9 _ _ a_h0
  have e6 : b1 = r5 0 := e_b1.trans (f_g4.1 0 (fun h => absurd (show (7 : Nat) = 5 from h) (by decide))).symm
  have a_h1 := hm.at a_h1 (by decide)
  refine lv_aload_n hx hb dX7_begin_13 rfl (lv_at hl 0 rfl) ?_
  refine lv_iconst (v := 0) hx hb dX7_begin_14 (by decide) ?_
  refine iv_puti X ft_X7 hB a_h0 sh_7 8 (by decide) rfl rfl k_fl_X7_74 rfl (q_0.wk (by decide)) rfl rfl dX7_begin_15 (fun H locs hB => ?_)
  have hm := iv_Md0.put (x := 0) a_h0 (j := 8) (fun h => absurd rfl h)
  have h9 := iv_up_eq (G := G3) (a := h0) (k := (7, upd g4 8 0, r5))
  generalize iv_up G3 h0 _ = G7 at hB hm h9
  have hM := hM.stp hm (by decide)
  have RX := RX.md hm (by decide)
  generalize hgn_g8 : upd g4 _ _ = g8 at h9
  have a_h1 := hm.at a_h1 (by decide)
  have a_h0 := h9
  have e9_g8 : 0 = g8 8 := by rw [← hgn_g8]; simp [upd]
  refine lv_aload_n hx hb dX7_begin_18 rfl (lv_at hl 0 rfl) ?_
  refine lv_iconst (v := 0) hx hb dX7_begin_19 (by decide) ?_
  refine iv_puti X ft_X7 hB a_h0 sh_7 5 (by decide) rfl rfl k_fl_X7_77 rfl (q_0.wk (by decide)) rfl rfl dX7_begin_20 (fun H locs hB => ?_)
  have hm := iv_Md0.put (x := 0) a_h0 (j := 5) (fun h => absurd rfl h)
  have h9 := iv_up_eq (G := G7) (a := h0) (k := (7, upd g8 5 0, r5))
  generalize iv_up G7 h0 _ = G9 at hB hm h9
  have hM := hM.stp hm (by decide)
  have RX := RX.md hm (by decide)
  generalize hgn_g10 : upd g8 _ _ = g10 at h9
  have a_h1 := hm.at a_h1 (by decide)
  have a_h0 := h9
  have e11 : 0 = g10 8 := by rw [← hgn_g10]; exact e9_g8
  have e9_g10 : 0 = g10 5 := by rw [← hgn_g10]; simp [upd]
  refine lv_aload_n hx hb dX7_begin_23 rfl (lv_at hl 0 rfl) ?_
  refine iv_getr X ft_X7 hB a_h0 sh_7 11 (by decide) rfl k_fl_X7_29 dX7_begin_24 (fun b12 g_b12 r_b12 e_b12 a_b12 => ?_)
  refine lv_iconst (v := 0) hx hb dX7_begin_27 (by decide) ?_
  refine lv_iconst (v := 0) hx hb dX7_begin_28 (by decide) ?_
  have hB0 := hB
  refine iv_ast X hB a_b12 sh_35 (iv_in q_0 (by decide)) (q_0.wk (by decide)) dX7_begin_29 (fun H locs hB => ?_)
  have hm := iv_Md.ast (j := (0 : Int32).toNatClampNeg) (x := 0) a_b12 rfl (by decide)
  have hR := iv_RE.begin a_h0 e_b12 a_b12 e11 e9_g10 (iv_got7_12 hB0 a_h0)
  have h9 := iv_up_eq (G := G9) (a := b12) (k := (35, upd g_b12 (0 : Int32).toNatClampNeg 0, r_b12))
  generalize iv_up G9 b12 _ = G13 at hB hm h9 hR
  have hM := hM.stp hm.weak (by decide)
  have RX := RX.md hm (by decide)
  have a_h1 := hm.at a_h1 (by decide)
  have a_h0 := hm.at a_h0 (by decide)
  refine lv_aload_n hx hb dX7_begin_30 rfl (lv_at hl 0 rfl) ?_
  refine lv_iconst (v := (-1)) hx hb dX7_begin_31 (by decide) ?_
  refine iv_puti X ft_X7 hB a_h0 sh_7 1 (by decide) rfl rfl k_fl_X7_80 rfl (q_n1.wk (by decide)) rfl rfl dX7_begin_32 (fun H locs hB => ?_)
  have hm := iv_Md0.put (x := (-1)) a_h0 (j := 1) (fun h => absurd rfl h)
  have hR := hR.put1 (x := (-1)) a_h0
  have h9 := iv_up_eq (G := G13) (a := h0) (k := (7, upd g10 1 (-1), r5))
  generalize iv_up G13 h0 _ = G15 at hB hm h9 hR
  have hM := hM.stp hm (by decide)
  have RX := RX.md hm (by decide)
  generalize hgn_g16 : upd g10 _ _ = g16 at h9
  have a_h1 := hm.at a_h1 (by decide)
  have a_h0 := h9
  have e17 : 0 = g16 8 := by rw [← hgn_g16]; exact e11
  have e18 : 0 = g16 5 := by rw [← hgn_g16]; exact e9_g10
  have e9_g16 : (-1) = g16 1 := by rw [← hgn_g16]; simp [upd]
  refine lv_aload_n hx hb dX7_begin_35 rfl (lv_at hl 0 rfl) ?_
  refine iv_cVv X k_good k_mf_X7_step k_im_X7_step k_sel_X7_step k_ml_X7_83 ft_X7 hB a_h0 sh_7 (As := []) (e_X7_step l D tys base G15 h0 g16 r5 a_h0 gk gv gp (by rw [← e6]; exact RX) 0 (by decide) (by rw [← e9_g16]; rfl)) ⟨rfl, rfl⟩ ⟨Nat.le_of_ble_eq_true rfl, Nat.le_of_ble_eq_true rfl⟩ ⟨Nat.le_of_ble_eq_true rfl, Nat.le_of_ble_eq_true rfl⟩ rfl rfl hl.1 (Nat.le_of_ble_eq_true rfl) dX7_begin_36 (fun G9 H locs hq hB => ?_)
  obtain ⟨hm, vg, vc⟩ := hq
  obtain ⟨G19, hG9⟩ : ∃ g, g = G9 := ⟨_, rfl⟩
  rw [← hG9] at hm hB vg vc
  have hM := hM.stp hm.weak (by decide)
  have RX := RX.md hm (by decide)
  have hR := hR.md hm (by decide) (by decide)
  have a_h1 := hm.at a_h1 (by decide)
  obtain ⟨g20, r21, a_h0, f_g20⟩ := hm.ex a_h0
  have e22 : 0 = g20 8 := e17.trans (f_g20.2.1 8 (show (8 : Nat) ∈ iv_stab 7 from by decide)).symm
  have e23 : b1 = r21 0 := e6.trans (f_g20.1 0 (fun h => absurd (show (7 : Nat) = 5 from h) (by decide))).symm
  have e24 : b12 = r21 11 := e_b12.trans (f_g20.1 11 (fun h => absurd (show (7 : Nat) = 5 from h) (by decide))).symm
  have vg25 := vg _ _ a_h0
  exact iv_vret X hr hlocks hB ⟨hM, ⟨fun g9 r9 h9 => by have h8 := a_h0.symm.trans h9; cases h8; exact vg25, hR⟩, ⟨gk, gv, gp, hRt, ⟨Nat.zero_le _, by rw [← e_b1]; exact RX, g20, r21, a_h0, e23.symm.trans e_b1, (vc _ _ a_h0).1, (f_g20.2.1 4 (show (4 : Nat) ∈ iv_stab 7 from by decide)).trans (by rw [← hgn_g16, ← hgn_g10, ← hgn_g8]; exact f_g4.2.1 4 (show (4 : Nat) ∈ iv_stab 7 from by decide)), (vc _ _ a_h0).2.1.trans (by rw [← hgn_g16, ← hgn_g10, ← hgn_g8]; exact vz9.1), (vc _ _ a_h0).2.2.trans (by rw [← hgn_g16, ← hgn_g10, ← hgn_g8]; exact vz9.2)⟩, fun g8 r8 h8 => by cases a_h0.symm.trans h8; rw [← e22]; rfl⟩⟩ dX7_begin_39
