theorem iv_nneg {n : Int32} {a b : Int} (h : iv_R a b n) (e : 0 ≤ a) : ¬ n < 0 := fun q => by
  have q1 := Int32.lt_iff_toInt_lt.mp q
  rw [Int32.toInt_zero] at q1
  have := h.1
  omega
theorem iv_cp0 {n : Int32} {a b : Int} {N : Nat} (h : iv_R a b n) (e : b ≤ (N : Int)) : (0 : Int32).toNatClampNeg + n.toNatClampNeg ≤ N := by
  have z0 : (0 : Int32).toNatClampNeg = 0 := by decide +kernel
  rw [z0]
  show 0 + n.toInt.toNat ≤ N
  have := h.2
  omega
theorem iv_Md.any {G : iv_G} {a cd : Nat} {g g' : Nat → Int32} {r : Nat → Nat} (ha : G a = some (cd, g, r)) (h1 : iv_stab cd = []) (h2 : cd ≠ 7) : iv_Md [cd] G (iv_up G a (cd, g', r)) := iv_mod.up iv_rel.rf ha rfl List.mem_cons_self ⟨fun _ _ => rfl, fun j hj => by rw [show iv_stab ((cd, g, r) : iv_K).1 = [] from h1] at hj; exact absurd hj List.not_mem_nil, fun h => absurd h h2⟩

theorem dX8_become_0 : decode cX8_become 0 = .ok (.aload_n 1, 1) := by decide +kernel
theorem dX8_become_1 : decode cX8_become 1 = .ok (.getfield 15, 3) := by decide +kernel
theorem dX8_become_4 : decode cX8_become 4 = .ok (.iconst 0, 1) := by decide +kernel
theorem dX8_become_5 : decode cX8_become 5 = .ok (.aload_n 0, 1) := by decide +kernel
theorem dX8_become_6 : decode cX8_become 6 = .ok (.getfield 15, 3) := by decide +kernel
theorem dX8_become_9 : decode cX8_become 9 = .ok (.iconst 0, 1) := by decide +kernel
theorem dX8_become_10 : decode cX8_become 10 = .ok (.aload_n 0, 1) := by decide +kernel
theorem dX8_become_11 : decode cX8_become 11 = .ok (.getfield 15, 3) := by decide +kernel
theorem dX8_become_14 : decode cX8_become 14 = .ok (.arraylength, 1) := by decide +kernel
theorem dX8_become_15 : decode cX8_become 15 = .ok (.aload_n 1, 1) := by decide +kernel
theorem dX8_become_16 : decode cX8_become 16 = .ok (.getfield 15, 3) := by decide +kernel
theorem dX8_become_19 : decode cX8_become 19 = .ok (.arraylength, 1) := by decide +kernel
theorem dX8_become_20 : decode cX8_become 20 = .ok (.invokestatic 38, 3) := by decide +kernel
theorem dX8_become_23 : decode cX8_become 23 = .ok (.invokestatic 44, 3) := by decide +kernel
theorem dX8_become_26 : decode cX8_become 26 = .ok (.aload_n 0, 1) := by decide +kernel
theorem dX8_become_27 : decode cX8_become 27 = .ok (.aload_n 1, 1) := by decide +kernel
theorem dX8_become_28 : decode cX8_become 28 = .ok (.getfield 19, 3) := by decide +kernel
theorem dX8_become_31 : decode cX8_become 31 = .ok (.putfield 19, 3) := by decide +kernel
theorem dX8_become_34 : decode cX8_become 34 = .ok (.return_, 1) := by decide +kernel
set_option maxHeartbeats 4000000 in
set_option maxRecDepth 100000 in
theorem c_X8_become_8 (l : Launch) (D : va_G) (tys : List (ClassId × FieldType)) (base : Nat) (G : iv_G) (h0 : Nat) (g_h0 : Nat → Int32) (r_h0 : Nat → Nat) (a_h0 : G h0 = some (8, g_h0, r_h0)) (h1 : Nat) (g_h1 : Nat → Int32) (r_h1 : Nat → Nat) (a_h1 : G h1 = some (8, g_h1, r_h1)) : Met l yX8_become (Cond.code yX8_become cX8_become 2 none :: iv_W0) ({ frames := 1, cells := 0, slots := 0, locals := 18 }) (iv_Pc iv_sh D classes tys base G [.ref h0, .ref h1]) (iv_Qv iv_sh D classes tys base (fun G' => iv_Md [8, 22] G G')) 0 0 (iv_A base) := by
  refine iv_head (by decide) (Nat.le_of_ble_eq_true rfl) ?_
  intro p e s m args below meth c ls X hr hlocks hname hB hl
  have X := X
  have hx := X.1.1
  have hb := X.1.2.1
  have hM : iv_Md [8, 22] G G := iv_Md.rf
  have hl : lv_has ls 2 [(0, .ref h0), (1, .ref h1)] := hl
  refine lv_aload_n hx hb dX8_become_0 rfl (lv_at hl 1 rfl) ?_
  refine iv_getr X ft_X8 hB a_h1 sh_8 1 (by decide) rfl k_fl_X8_15 dX8_become_1 (fun b1 g_b1 r_b1 e_b1 a_b1 => ?_)
  refine lv_iconst (v := 0) hx hb dX8_become_4 (by decide) ?_
  refine lv_aload_n hx hb dX8_become_5 rfl (lv_at hl 0 rfl) ?_
  refine iv_getr X ft_X8 hB a_h0 sh_8 1 (by decide) rfl k_fl_X8_15 dX8_become_6 (fun b2 g_b2 r_b2 e_b2 a_b2 => ?_)
  refine lv_iconst (v := 0) hx hb dX8_become_9 (by decide) ?_
  refine lv_aload_n hx hb dX8_become_10 rfl (lv_at hl 0 rfl) ?_
  refine iv_getr0 X ft_X8 hB a_h0 sh_8 1 (by decide) rfl k_fl_X8_15 dX8_become_11 e_b2 ?_
  refine iv_alen X hB a_b2 sh_22 (v := 60) (by decide) dX8_become_14 ?_
  refine lv_aload_n hx hb dX8_become_15 rfl (lv_at hl 1 rfl) ?_
  refine iv_getr0 X ft_X8 hB a_h1 sh_8 1 (by decide) rfl k_fl_X8_15 dX8_become_16 e_b1 ?_
  refine iv_alen X hB a_b1 sh_22 (v := 60) (by decide) dX8_become_19 ?_
  refine iv_mmin X hl.1 k_mm_X8_38 ⟨Nat.le_of_ble_eq_true rfl, Nat.le_of_ble_eq_true rfl⟩ ⟨Nat.le_of_ble_eq_true rfl, Nat.le_of_ble_eq_true rfl⟩ q_60 q_60 (lo := 60) (hi := 60) (by decide) dX8_become_20 (fun x3 e_x3 i_x3 => ?_)
  refine iv_acopyB X hB a_b1 a_b2 sh_22 sh_22 k_ml_X8_44 k_cpn k_cps k_ini_System (by decide +kernel) (by decide +kernel) (iv_nneg i_x3 (by decide)) (iv_cp0 i_x3 (by decide)) (iv_cp0 i_x3 (by decide)) hl.1 (Nat.le_of_ble_eq_true rfl) (Nat.le_of_ble_eq_true rfl) (fun _ _ j _ => iv_R.all _) dX8_become_23 (fun H locs hB => ?_)
  have hm := iv_Md.any (g' := va_cpy g_b1 g_b2 (Int32.toNatClampNeg 0) (Int32.toNatClampNeg 0) (Int32.toNatClampNeg x3)) a_b2 rfl (by decide)
  have h9 := iv_up_eq (G := G) (a := b2) (k := (22, va_cpy g_b1 g_b2 (Int32.toNatClampNeg 0) (Int32.toNatClampNeg 0) (Int32.toNatClampNeg x3), r_b2))
  generalize iv_up G b2 _ = G4 at hB hm h9
  have hM := hM.stp hm (by decide)
  have a_h0 := hm.at a_h0 (by decide)
  have a_h1 := hm.at a_h1 (by decide)
  refine lv_aload_n hx hb dX8_become_26 rfl (lv_at hl 0 rfl) ?_
  refine lv_aload_n hx hb dX8_become_27 rfl (lv_at hl 1 rfl) ?_
  refine iv_geti X ft_X8 hB a_h1 sh_8 2 (by decide) rfl k_fl_X8_19 dX8_become_28 (fun x5 e_x5 i_x5 => ?_)
  refine iv_puti X ft_X8 hB a_h0 sh_8 2 (by decide) rfl rfl k_fl_X8_19 rfl i_x5 rfl rfl dX8_become_31 (fun H locs hB => ?_)
  have hm := iv_Md.put (x := x5) a_h0 (j := 2) (by decide) (by decide)
  have h9 := iv_up_eq (G := G4) (a := h0) (k := (8, upd g_h0 2 x5, r_h0))
  generalize iv_up G4 h0 _ = G6 at hB hm h9
  have hM := hM.stp hm (by decide)
  generalize hgn_g7 : upd g_h0 _ _ = g7 at h9
  obtain ⟨g8, r9, a_h1, f_g8⟩ := hm.ex a_h1
  have e10 : b1 = r9 1 := e_b1.trans (f_g8.1 1 (fun h => absurd (show (8 : Nat) = 5 from h) (by decide))).symm
  have a_h0 := h9
  have e9_g7 : x5 = g7 2 := by rw [← hgn_g7]; simp [upd]
  exact iv_vret X hr hlocks hB hM dX8_become_34
set_option maxHeartbeats 4000000 in
set_option maxRecDepth 100000 in
theorem c_X8_become_13 (l : Launch) (D : va_G) (tys : List (ClassId × FieldType)) (base : Nat) (G : iv_G) (h0 : Nat) (g_h0 : Nat → Int32) (r_h0 : Nat → Nat) (a_h0 : G h0 = some (13, g_h0, r_h0)) (h1 : Nat) (g_h1 : Nat → Int32) (r_h1 : Nat → Nat) (a_h1 : G h1 = some (13, g_h1, r_h1)) : Met l yX8_become (Cond.code yX8_become cX8_become 2 none :: iv_W0) ({ frames := 1, cells := 0, slots := 0, locals := 18 }) (iv_Pc iv_sh D classes tys base G [.ref h0, .ref h1]) (iv_Qv iv_sh D classes tys base (fun G' => iv_Md [13, 23] G G')) 0 0 (iv_A base) := by
  refine iv_head (by decide) (Nat.le_of_ble_eq_true rfl) ?_
  intro p e s m args below meth c ls X hr hlocks hname hB hl
  have X := X
  have hx := X.1.1
  have hb := X.1.2.1
  have hM : iv_Md [13, 23] G G := iv_Md.rf
  have hl : lv_has ls 2 [(0, .ref h0), (1, .ref h1)] := hl
  refine lv_aload_n hx hb dX8_become_0 rfl (lv_at hl 1 rfl) ?_
  refine iv_getr X ft_X8 hB a_h1 sh_13 1 (by decide) rfl k_fl_X8_15 dX8_become_1 (fun b1 g_b1 r_b1 e_b1 a_b1 => ?_)
  refine lv_iconst (v := 0) hx hb dX8_become_4 (by decide) ?_
  refine lv_aload_n hx hb dX8_become_5 rfl (lv_at hl 0 rfl) ?_
  refine iv_getr X ft_X8 hB a_h0 sh_13 1 (by decide) rfl k_fl_X8_15 dX8_become_6 (fun b2 g_b2 r_b2 e_b2 a_b2 => ?_)
  refine lv_iconst (v := 0) hx hb dX8_become_9 (by decide) ?_
  refine lv_aload_n hx hb dX8_become_10 rfl (lv_at hl 0 rfl) ?_
  refine iv_getr0 X ft_X8 hB a_h0 sh_13 1 (by decide) rfl k_fl_X8_15 dX8_become_11 e_b2 ?_
  refine iv_alen X hB a_b2 sh_23 (v := 480) (by decide) dX8_become_14 ?_
  refine lv_aload_n hx hb dX8_become_15 rfl (lv_at hl 1 rfl) ?_
  refine iv_getr0 X ft_X8 hB a_h1 sh_13 1 (by decide) rfl k_fl_X8_15 dX8_become_16 e_b1 ?_
  refine iv_alen X hB a_b1 sh_23 (v := 480) (by decide) dX8_become_19 ?_
  refine iv_mmin X hl.1 k_mm_X8_38 ⟨Nat.le_of_ble_eq_true rfl, Nat.le_of_ble_eq_true rfl⟩ ⟨Nat.le_of_ble_eq_true rfl, Nat.le_of_ble_eq_true rfl⟩ q_480 q_480 (lo := 480) (hi := 480) (by decide) dX8_become_20 (fun x3 e_x3 i_x3 => ?_)
  refine iv_acopyB X hB a_b1 a_b2 sh_23 sh_23 k_ml_X8_44 k_cpn k_cps k_ini_System (by decide +kernel) (by decide +kernel) (iv_nneg i_x3 (by decide)) (iv_cp0 i_x3 (by decide)) (iv_cp0 i_x3 (by decide)) hl.1 (Nat.le_of_ble_eq_true rfl) (Nat.le_of_ble_eq_true rfl) (fun _ _ j _ => iv_R.all _) dX8_become_23 (fun H locs hB => ?_)
  have hm := iv_Md.any (g' := va_cpy g_b1 g_b2 (Int32.toNatClampNeg 0) (Int32.toNatClampNeg 0) (Int32.toNatClampNeg x3)) a_b2 rfl (by decide)
  have h9 := iv_up_eq (G := G) (a := b2) (k := (23, va_cpy g_b1 g_b2 (Int32.toNatClampNeg 0) (Int32.toNatClampNeg 0) (Int32.toNatClampNeg x3), r_b2))
  generalize iv_up G b2 _ = G4 at hB hm h9
  have hM := hM.stp hm (by decide)
  have a_h0 := hm.at a_h0 (by decide)
  have a_h1 := hm.at a_h1 (by decide)
  refine lv_aload_n hx hb dX8_become_26 rfl (lv_at hl 0 rfl) ?_
  refine lv_aload_n hx hb dX8_become_27 rfl (lv_at hl 1 rfl) ?_
  refine iv_geti X ft_X8 hB a_h1 sh_13 2 (by decide) rfl k_fl_X8_19 dX8_become_28 (fun x5 e_x5 i_x5 => ?_)
  refine iv_puti X ft_X8 hB a_h0 sh_13 2 (by decide) rfl rfl k_fl_X8_19 rfl i_x5 rfl rfl dX8_become_31 (fun H locs hB => ?_)
  have hm := iv_Md.put (x := x5) a_h0 (j := 2) (by decide) (by decide)
  have h9 := iv_up_eq (G := G4) (a := h0) (k := (13, upd g_h0 2 x5, r_h0))
  generalize iv_up G4 h0 _ = G6 at hB hm h9
  have hM := hM.stp hm (by decide)
  generalize hgn_g7 : upd g_h0 _ _ = g7 at h9
  obtain ⟨g8, r9, a_h1, f_g8⟩ := hm.ex a_h1
  have e10 : b1 = r9 1 := e_b1.trans (f_g8.1 1 (fun h => absurd (show (13 : Nat) = 5 from h) (by decide))).symm
  have a_h0 := h9
  have e9_g7 : x5 = g7 2 := by rw [← hgn_g7]; simp [upd]
  exact iv_vret X hr hlocks hB hM dX8_become_34
set_option maxHeartbeats 4000000 in
set_option maxRecDepth 100000 in
theorem c_X8_become_14 (l : Launch) (D : va_G) (tys : List (ClassId × FieldType)) (base : Nat) (G : iv_G) (h0 : Nat) (g_h0 : Nat → Int32) (r_h0 : Nat → Nat) (a_h0 : G h0 = some (14, g_h0, r_h0)) (h1 : Nat) (g_h1 : Nat → Int32) (r_h1 : Nat → Nat) (a_h1 : G h1 = some (14, g_h1, r_h1)) : Met l yX8_become (Cond.code yX8_become cX8_become 2 none :: iv_W0) ({ frames := 1, cells := 0, slots := 0, locals := 18 }) (iv_Pc iv_sh D classes tys base G [.ref h0, .ref h1]) (iv_Qv iv_sh D classes tys base (fun G' => iv_Md [14, 24] G G')) 0 0 (iv_A base) := by
  refine iv_head (by decide) (Nat.le_of_ble_eq_true rfl) ?_
  intro p e s m args below meth c ls X hr hlocks hname hB hl
  have X := X
  have hx := X.1.1
  have hb := X.1.2.1
  have hM : iv_Md [14, 24] G G := iv_Md.rf
  have hl : lv_has ls 2 [(0, .ref h0), (1, .ref h1)] := hl
  refine lv_aload_n hx hb dX8_become_0 rfl (lv_at hl 1 rfl) ?_
  refine iv_getr X ft_X8 hB a_h1 sh_14 1 (by decide) rfl k_fl_X8_15 dX8_become_1 (fun b1 g_b1 r_b1 e_b1 a_b1 => ?_)
  refine lv_iconst (v := 0) hx hb dX8_become_4 (by decide) ?_
  refine lv_aload_n hx hb dX8_become_5 rfl (lv_at hl 0 rfl) ?_
  refine iv_getr X ft_X8 hB a_h0 sh_14 1 (by decide) rfl k_fl_X8_15 dX8_become_6 (fun b2 g_b2 r_b2 e_b2 a_b2 => ?_)
  refine lv_iconst (v := 0) hx hb dX8_become_9 (by decide) ?_
  refine lv_aload_n hx hb dX8_become_10 rfl (lv_at hl 0 rfl) ?_
  refine iv_getr0 X ft_X8 hB a_h0 sh_14 1 (by decide) rfl k_fl_X8_15 dX8_become_11 e_b2 ?_
  refine iv_alen X hB a_b2 sh_24 (v := 36) (by decide) dX8_become_14 ?_
  refine lv_aload_n hx hb dX8_become_15 rfl (lv_at hl 1 rfl) ?_
  refine iv_getr0 X ft_X8 hB a_h1 sh_14 1 (by decide) rfl k_fl_X8_15 dX8_become_16 e_b1 ?_
  refine iv_alen X hB a_b1 sh_24 (v := 36) (by decide) dX8_become_19 ?_
  refine iv_mmin X hl.1 k_mm_X8_38 ⟨Nat.le_of_ble_eq_true rfl, Nat.le_of_ble_eq_true rfl⟩ ⟨Nat.le_of_ble_eq_true rfl, Nat.le_of_ble_eq_true rfl⟩ q_36 q_36 (lo := 36) (hi := 36) (by decide) dX8_become_20 (fun x3 e_x3 i_x3 => ?_)
  refine iv_acopyB X hB a_b1 a_b2 sh_24 sh_24 k_ml_X8_44 k_cpn k_cps k_ini_System (by decide +kernel) (by decide +kernel) (iv_nneg i_x3 (by decide)) (iv_cp0 i_x3 (by decide)) (iv_cp0 i_x3 (by decide)) hl.1 (Nat.le_of_ble_eq_true rfl) (Nat.le_of_ble_eq_true rfl) (fun _ _ j _ => iv_R.all _) dX8_become_23 (fun H locs hB => ?_)
  have hm := iv_Md.any (g' := va_cpy g_b1 g_b2 (Int32.toNatClampNeg 0) (Int32.toNatClampNeg 0) (Int32.toNatClampNeg x3)) a_b2 rfl (by decide)
  have h9 := iv_up_eq (G := G) (a := b2) (k := (24, va_cpy g_b1 g_b2 (Int32.toNatClampNeg 0) (Int32.toNatClampNeg 0) (Int32.toNatClampNeg x3), r_b2))
  generalize iv_up G b2 _ = G4 at hB hm h9
  have hM := hM.stp hm (by decide)
  have a_h0 := hm.at a_h0 (by decide)
  have a_h1 := hm.at a_h1 (by decide)
  refine lv_aload_n hx hb dX8_become_26 rfl (lv_at hl 0 rfl) ?_
  refine lv_aload_n hx hb dX8_become_27 rfl (lv_at hl 1 rfl) ?_
  refine iv_geti X ft_X8 hB a_h1 sh_14 2 (by decide) rfl k_fl_X8_19 dX8_become_28 (fun x5 e_x5 i_x5 => ?_)
  refine iv_puti X ft_X8 hB a_h0 sh_14 2 (by decide) rfl rfl k_fl_X8_19 rfl i_x5 rfl rfl dX8_become_31 (fun H locs hB => ?_)
  have hm := iv_Md.put (x := x5) a_h0 (j := 2) (by decide) (by decide)
  have h9 := iv_up_eq (G := G4) (a := h0) (k := (14, upd g_h0 2 x5, r_h0))
  generalize iv_up G4 h0 _ = G6 at hB hm h9
  have hM := hM.stp hm (by decide)
  generalize hgn_g7 : upd g_h0 _ _ = g7 at h9
  obtain ⟨g8, r9, a_h1, f_g8⟩ := hm.ex a_h1
  have e10 : b1 = r9 1 := e_b1.trans (f_g8.1 1 (fun h => absurd (show (14 : Nat) = 5 from h) (by decide))).symm
  have a_h0 := h9
  have e9_g7 : x5 = g7 2 := by rw [← hgn_g7]; simp [upd]
  exact iv_vret X hr hlocks hB hM dX8_become_34
theorem dX5_copyFrom_0 : decode cX5_copyFrom 0 = .ok (.iconst 0, 1) := by decide +kernel
theorem dX5_copyFrom_1 : decode cX5_copyFrom 1 = .ok (.istore_n 2, 1) := by decide +kernel
theorem dX5_copyFrom_2 : decode cX5_copyFrom 2 = .ok (.iload_n 2, 1) := by decide +kernel
theorem dX5_copyFrom_3 : decode cX5_copyFrom 3 = .ok (.bipush 10, 2) := by decide +kernel
theorem dX5_copyFrom_5 : decode cX5_copyFrom 5 = .ok (.if_icmp .ge 24, 3) := by decide +kernel
theorem dX5_copyFrom_8 : decode cX5_copyFrom 8 = .ok (.aload_n 0, 1) := by decide +kernel
theorem dX5_copyFrom_9 : decode cX5_copyFrom 9 = .ok (.getfield 11, 3) := by decide +kernel
theorem dX5_copyFrom_12 : decode cX5_copyFrom 12 = .ok (.iload_n 2, 1) := by decide +kernel
theorem dX5_copyFrom_13 : decode cX5_copyFrom 13 = .ok (.aaload, 1) := by decide +kernel
theorem dX5_copyFrom_14 : decode cX5_copyFrom 14 = .ok (.aload_n 1, 1) := by decide +kernel
theorem dX5_copyFrom_15 : decode cX5_copyFrom 15 = .ok (.getfield 11, 3) := by decide +kernel
theorem dX5_copyFrom_18 : decode cX5_copyFrom 18 = .ok (.iload_n 2, 1) := by decide +kernel
theorem dX5_copyFrom_19 : decode cX5_copyFrom 19 = .ok (.aaload, 1) := by decide +kernel
theorem dX5_copyFrom_20 : decode cX5_copyFrom 20 = .ok (.invokevirtual 57, 3) := by decide +kernel
theorem dX5_copyFrom_23 : decode cX5_copyFrom 23 = .ok (.iinc 2 1, 3) := by decide +kernel
theorem dX5_copyFrom_26 : decode cX5_copyFrom 26 = .ok (.goto (-24), 3) := by decide +kernel
theorem dX5_copyFrom_29 : decode cX5_copyFrom 29 = .ok (.aload_n 0, 1) := by decide +kernel
theorem dX5_copyFrom_30 : decode cX5_copyFrom 30 = .ok (.aload_n 1, 1) := by decide +kernel
theorem dX5_copyFrom_31 : decode cX5_copyFrom 31 = .ok (.getfield 61, 3) := by decide +kernel
theorem dX5_copyFrom_34 : decode cX5_copyFrom 34 = .ok (.putfield 61, 3) := by decide +kernel
theorem dX5_copyFrom_37 : decode cX5_copyFrom 37 = .ok (.aload_n 1, 1) := by decide +kernel
theorem dX5_copyFrom_38 : decode cX5_copyFrom 38 = .ok (.getfield 17, 3) := by decide +kernel
theorem dX5_copyFrom_41 : decode cX5_copyFrom 41 = .ok (.iconst 0, 1) := by decide +kernel
theorem dX5_copyFrom_42 : decode cX5_copyFrom 42 = .ok (.aload_n 0, 1) := by decide +kernel
theorem dX5_copyFrom_43 : decode cX5_copyFrom 43 = .ok (.getfield 17, 3) := by decide +kernel
theorem dX5_copyFrom_46 : decode cX5_copyFrom 46 = .ok (.iconst 0, 1) := by decide +kernel
theorem dX5_copyFrom_47 : decode cX5_copyFrom 47 = .ok (.bipush 16, 2) := by decide +kernel
theorem dX5_copyFrom_49 : decode cX5_copyFrom 49 = .ok (.invokestatic 64, 3) := by decide +kernel
theorem dX5_copyFrom_52 : decode cX5_copyFrom 52 = .ok (.aload_n 0, 1) := by decide +kernel
theorem dX5_copyFrom_53 : decode cX5_copyFrom 53 = .ok (.aload_n 1, 1) := by decide +kernel
theorem dX5_copyFrom_54 : decode cX5_copyFrom 54 = .ok (.getfield 21, 3) := by decide +kernel
theorem dX5_copyFrom_57 : decode cX5_copyFrom 57 = .ok (.putfield 21, 3) := by decide +kernel
theorem dX5_copyFrom_60 : decode cX5_copyFrom 60 = .ok (.aload_n 0, 1) := by decide +kernel
theorem dX5_copyFrom_61 : decode cX5_copyFrom 61 = .ok (.aload_n 1, 1) := by decide +kernel
theorem dX5_copyFrom_62 : decode cX5_copyFrom 62 = .ok (.getfield 70, 3) := by decide +kernel
theorem dX5_copyFrom_65 : decode cX5_copyFrom 65 = .ok (.putfield 70, 3) := by decide +kernel
theorem dX5_copyFrom_68 : decode cX5_copyFrom 68 = .ok (.aload_n 0, 1) := by decide +kernel
theorem dX5_copyFrom_69 : decode cX5_copyFrom 69 = .ok (.aload_n 1, 1) := by decide +kernel
theorem dX5_copyFrom_70 : decode cX5_copyFrom 70 = .ok (.getfield 73, 3) := by decide +kernel
theorem dX5_copyFrom_73 : decode cX5_copyFrom 73 = .ok (.putfield 73, 3) := by decide +kernel
theorem dX5_copyFrom_76 : decode cX5_copyFrom 76 = .ok (.aload_n 0, 1) := by decide +kernel
theorem dX5_copyFrom_77 : decode cX5_copyFrom 77 = .ok (.aload_n 1, 1) := by decide +kernel
theorem dX5_copyFrom_78 : decode cX5_copyFrom 78 = .ok (.getfield 76, 3) := by decide +kernel
theorem dX5_copyFrom_81 : decode cX5_copyFrom 81 = .ok (.putfield 76, 3) := by decide +kernel
theorem dX5_copyFrom_84 : decode cX5_copyFrom 84 = .ok (.aload_n 0, 1) := by decide +kernel
theorem dX5_copyFrom_85 : decode cX5_copyFrom 85 = .ok (.aload_n 1, 1) := by decide +kernel
theorem dX5_copyFrom_86 : decode cX5_copyFrom 86 = .ok (.getfield 79, 3) := by decide +kernel
theorem dX5_copyFrom_89 : decode cX5_copyFrom 89 = .ok (.putfield 79, 3) := by decide +kernel
theorem dX5_copyFrom_92 : decode cX5_copyFrom 92 = .ok (.aload_n 0, 1) := by decide +kernel
theorem dX5_copyFrom_93 : decode cX5_copyFrom 93 = .ok (.getfield 30, 3) := by decide +kernel
theorem dX5_copyFrom_96 : decode cX5_copyFrom 96 = .ok (.aload_n 1, 1) := by decide +kernel
theorem dX5_copyFrom_97 : decode cX5_copyFrom 97 = .ok (.getfield 30, 3) := by decide +kernel
theorem dX5_copyFrom_100 : decode cX5_copyFrom 100 = .ok (.invokevirtual 82, 3) := by decide +kernel
theorem dX5_copyFrom_103 : decode cX5_copyFrom 103 = .ok (.aload_n 0, 1) := by decide +kernel
theorem dX5_copyFrom_104 : decode cX5_copyFrom 104 = .ok (.getfield 34, 3) := by decide +kernel
theorem dX5_copyFrom_107 : decode cX5_copyFrom 107 = .ok (.aload_n 1, 1) := by decide +kernel
theorem dX5_copyFrom_108 : decode cX5_copyFrom 108 = .ok (.getfield 34, 3) := by decide +kernel
theorem dX5_copyFrom_111 : decode cX5_copyFrom 111 = .ok (.invokevirtual 82, 3) := by decide +kernel
theorem dX5_copyFrom_114 : decode cX5_copyFrom 114 = .ok (.aload_n 0, 1) := by decide +kernel
theorem dX5_copyFrom_115 : decode cX5_copyFrom 115 = .ok (.getfield 37, 3) := by decide +kernel
theorem dX5_copyFrom_118 : decode cX5_copyFrom 118 = .ok (.aload_n 1, 1) := by decide +kernel
theorem dX5_copyFrom_119 : decode cX5_copyFrom 119 = .ok (.getfield 37, 3) := by decide +kernel
theorem dX5_copyFrom_122 : decode cX5_copyFrom 122 = .ok (.invokevirtual 82, 3) := by decide +kernel
theorem dX5_copyFrom_125 : decode cX5_copyFrom 125 = .ok (.aload_n 1, 1) := by decide +kernel
theorem dX5_copyFrom_126 : decode cX5_copyFrom 126 = .ok (.getfield 40, 3) := by decide +kernel
theorem dX5_copyFrom_129 : decode cX5_copyFrom 129 = .ok (.iconst 0, 1) := by decide +kernel
theorem dX5_copyFrom_130 : decode cX5_copyFrom 130 = .ok (.aload_n 0, 1) := by decide +kernel
theorem dX5_copyFrom_131 : decode cX5_copyFrom 131 = .ok (.getfield 40, 3) := by decide +kernel
theorem dX5_copyFrom_134 : decode cX5_copyFrom 134 = .ok (.iconst 0, 1) := by decide +kernel
theorem dX5_copyFrom_135 : decode cX5_copyFrom 135 = .ok (.bipush 10, 2) := by decide +kernel
theorem dX5_copyFrom_137 : decode cX5_copyFrom 137 = .ok (.invokestatic 64, 3) := by decide +kernel
theorem dX5_copyFrom_140 : decode cX5_copyFrom 140 = .ok (.aload_n 0, 1) := by decide +kernel
theorem dX5_copyFrom_141 : decode cX5_copyFrom 141 = .ok (.aload_n 1, 1) := by decide +kernel
theorem dX5_copyFrom_142 : decode cX5_copyFrom 142 = .ok (.getfield 85, 3) := by decide +kernel
theorem dX5_copyFrom_145 : decode cX5_copyFrom 145 = .ok (.putfield 85, 3) := by decide +kernel
theorem dX5_copyFrom_148 : decode cX5_copyFrom 148 = .ok (.aload_n 0, 1) := by decide +kernel
theorem dX5_copyFrom_149 : decode cX5_copyFrom 149 = .ok (.aload_n 1, 1) := by decide +kernel
theorem dX5_copyFrom_150 : decode cX5_copyFrom 150 = .ok (.getfield 49, 3) := by decide +kernel
theorem dX5_copyFrom_153 : decode cX5_copyFrom 153 = .ok (.putfield 49, 3) := by decide +kernel
theorem dX5_copyFrom_156 : decode cX5_copyFrom 156 = .ok (.aload_n 0, 1) := by decide +kernel
theorem dX5_copyFrom_157 : decode cX5_copyFrom 157 = .ok (.aload_n 1, 1) := by decide +kernel
theorem dX5_copyFrom_158 : decode cX5_copyFrom 158 = .ok (.getfield 53, 3) := by decide +kernel
theorem dX5_copyFrom_161 : decode cX5_copyFrom 161 = .ok (.putfield 53, 3) := by decide +kernel
theorem dX5_copyFrom_164 : decode cX5_copyFrom 164 = .ok (.return_, 1) := by decide +kernel
set_option maxHeartbeats 4000000 in
set_option maxRecDepth 100000 in
theorem e_X5_copyFrom (l : Launch) (D : va_G) (tys : List (ClassId × FieldType)) (base : Nat) (G : iv_G) (h0 : Nat) (g_h0 : Nat → Int32) (r_h0 : Nat → Nat) (a_h0 : G h0 = some (5, g_h0, r_h0)) (h1 : Nat) (g_h1 : Nat → Int32) (r_h1 : Nat → Nat) (a_h1 : G h1 = some (5, g_h1, r_h1)) : Met l yX5_copyFrom (Cond.code yX5_copyFrom cX5_copyFrom 3 none :: iv_W0) ({ frames := 2, cells := 0, slots := 0, locals := 45 }) (iv_Pc iv_sh D classes tys base G [.ref h0, .ref h1]) (iv_Qv iv_sh D classes tys base (fun G' => iv_MdO [1, 5, 8, 13, 14, 20, 21, 22, 23, 24] G G' ∧ iv_kp 5 1 h0 G G' ∧ iv_kc 5 1 h0 (g_h1 1) G')) 0 0 (iv_A base) := by
  refine iv_head (by decide) (Nat.le_of_ble_eq_true rfl) ?_
  intro p e s m args below meth c ls X hr hlocks hname hB hl
  have X := X
  have hk1 : iv_kc 5 1 h1 (g_h1 1) G := ⟨_, _, a_h1, rfl⟩
  have hx := X.1.1
  have hb := X.1.2.1
  have hM : iv_MdT [1, 5, 8, 13, 14, 20, 21, 22, 23, 24] G G := iv_MdT.rf
  have hl : lv_has ls 3 [(0, .ref h0), (1, .ref h1)] := hl
  refine lv_iconst (v := 0) hx hb dX5_copyFrom_0 (by decide) ?_
  refine lv_istore_n (lv' := [(2, .int 0), (0, .ref h0), (1, .ref h1)]) hx hb dX5_copyFrom_1 rfl hl (by decide) rfl (fun ls hl => ?_)
  have L_2 : ∀ (n_2 : Nat) (G6 : iv_G) (hM : iv_MdT [1, 5, 8, 13, 14, 20, 21, 22, 23, 24] G G6) (H : Heap) (locs : List Loc) (hB : iv_B iv_sh D classes tys base G6 s.heap H locs) (g2 : Nat → Int32) (r3 : Nat → Nat) (a_h0 : G6 h0 = some (5, g2, r3)) (g4 : Nat → Int32) (r5 : Nat → Nat) (a_h1 : G6 h1 = some (5, g4, r5)) (x1 : Int32) (i_x1 : iv_R 0 10 x1) (hn_2 : (11 - x1.toInt).toNat < n_2) (ls : Array Slot) (hl : lv_has ls 3 [(2, .int x1), (0, .ref h0), (1, .ref h1)]), W p l e ({ frames := 2, cells := 0, slots := 0, locals := 45 } : Room) s m args below meth c H locs 0 0 (MQ below (iv_Qv iv_sh D classes tys base (fun G' => iv_MdO [1, 5, 8, 13, 14, 20, 21, 22, 23, 24] G G' ∧ iv_kp 5 1 h0 G G' ∧ iv_kc 5 1 h0 (g_h1 1) G')) args s 0 0 (iv_A base)) (F0 m 2 ls []) := by
    intro n_2
    induction n_2 with
    | zero => intro G6 hM H locs hB g2 r3 a_h0 g4 r5 a_h1 x1 i_x1 hn_2 ls hl; exact absurd hn_2 (Nat.not_lt_zero _)
    | succ n_2 ih_2 =>
      intro G6 hM H locs hB g2 r3 a_h0 g4 r5 a_h1 x1 i_x1 hn_2 ls hl
      refine lv_iload_n hx hb dX5_copyFrom_2 rfl (lv_at hl 0 rfl) ?_
      refine lv_bipush (v := 10) hx hb dX5_copyFrom_3 (by decide) ?_
      refine lv_icmp_ge (tgt := 29) hx hb dX5_copyFrom_5 (by decide) (fun c7 => ?_) (fun c7 => ?_)
      · skip
        have i7_x1 : iv_R 10 10 x1 := (i_x1.cutLo (n := 10) (iv_le_l c7 q_10))
        refine lv_aload_n hx hb dX5_copyFrom_29 rfl (lv_at hl 1 rfl) ?_
        refine lv_aload_n hx hb dX5_copyFrom_30 rfl (lv_at hl 2 rfl) ?_
        refine iv_geti X ft_X5 hB a_h1 sh_5 1 (by decide) rfl k_fl_X5_61 dX5_copyFrom_31 (fun x9 e_x9 i_x9 => ?_)
        refine iv_puti X ft_X5 hB a_h0 sh_5 1 (by decide) rfl rfl k_fl_X5_61 rfl i_x9 rfl rfl dX5_copyFrom_34 (fun H locs hB => ?_)
        have hk2 := (hk1.T hM (by decide)).val a_h1
        have hK : iv_kp 5 1 h0 G G6 := iv_kp.T hM (by decide)
        have hK := hK.tr (iv_kp.up (b := h0) (k := (5, upd g2 1 x9, r3)))
        have hC : iv_kc 5 1 h0 (g_h1 1) (iv_up G6 h0 (5, upd g2 1 x9, r3)) := by rw [← hk2, ← e_x9]; exact iv_kc.up
        have hm := iv_MdO.put (x := x9) a_h0 (j := 1)
        have h9 := iv_up_eq (G := G6) (a := h0) (k := (5, upd g2 1 x9, r3))
        generalize iv_up G6 h0 _ = G10 at hB hm h9 hK hC
        have hM := (iv_MdO.of hM).stp hm (by decide)
        generalize hgn_g11 : upd g2 _ _ = g11 at h9
        obtain ⟨g12, r13, a_h1, f_g12⟩ := hm.ex a_h1
        have a_h0 := h9
        have e9_g11 : x9 = g11 1 := by rw [← hgn_g11]; simp [upd]
        refine lv_aload_n hx hb dX5_copyFrom_37 rfl (lv_at hl 2 rfl) ?_
        refine iv_getr X ft_X5 hB a_h1 sh_5 2 (by decide) rfl k_fl_X5_17 dX5_copyFrom_38 (fun b14 g_b14 r_b14 e_b14 a_b14 => ?_)
        refine lv_iconst (v := 0) hx hb dX5_copyFrom_41 (by decide) ?_
        refine lv_aload_n hx hb dX5_copyFrom_42 rfl (lv_at hl 1 rfl) ?_
        refine iv_getr X ft_X5 hB a_h0 sh_5 2 (by decide) rfl k_fl_X5_17 dX5_copyFrom_43 (fun b15 g_b15 r_b15 e_b15 a_b15 => ?_)
        refine lv_iconst (v := 0) hx hb dX5_copyFrom_46 (by decide) ?_
        refine lv_bipush (v := 16) hx hb dX5_copyFrom_47 (by decide) ?_
        refine iv_acopyB X hB a_b14 a_b15 sh_20 sh_20 k_ml_X5_64 k_cpn k_cps k_ini_System (by decide +kernel) (by decide +kernel) (iv_nneg q_16 (by decide)) (iv_cp0 q_16 (by decide)) (iv_cp0 q_16 (by decide)) hl.1 (Nat.le_of_ble_eq_true rfl) (Nat.le_of_ble_eq_true rfl) (fun _ _ j _ => iv_R.all _) dX5_copyFrom_49 (fun H locs hB => ?_)
        have hm := iv_Md.any (g' := va_cpy g_b14 g_b15 (Int32.toNatClampNeg 0) (Int32.toNatClampNeg 0) (Int32.toNatClampNeg 16)) a_b15 rfl (by decide)
        have h9 := iv_up_eq (G := G10) (a := b15) (k := (20, va_cpy g_b14 g_b15 (Int32.toNatClampNeg 0) (Int32.toNatClampNeg 0) (Int32.toNatClampNeg 16), r_b15))
        generalize iv_up G10 b15 _ = G16 at hB hm h9
        have hM := hM.stp (iv_MdO.ofM hm) (by decide)
        have hK := hK.tr (iv_kp.T (iv_MdT.of hm) (by decide))
        have hC := hC.T (iv_MdT.of hm) (by decide)
        have a_h1 := hm.at a_h1 (by decide)
        have a_h0 := hm.at a_h0 (by decide)
        refine lv_aload_n hx hb dX5_copyFrom_52 rfl (lv_at hl 1 rfl) ?_
        refine lv_aload_n hx hb dX5_copyFrom_53 rfl (lv_at hl 2 rfl) ?_
        refine iv_geti X ft_X5 hB a_h1 sh_5 3 (by decide) rfl k_fl_X5_21 dX5_copyFrom_54 (fun x17 e_x17 i_x17 => ?_)
        refine iv_puti X ft_X5 hB a_h0 sh_5 3 (by decide) rfl rfl k_fl_X5_21 rfl i_x17 rfl rfl dX5_copyFrom_57 (fun H locs hB => ?_)
        have hm := iv_Md.put (x := x17) a_h0 (j := 3) (by decide) (by decide)
        have h9 := iv_up_eq (G := G16) (a := h0) (k := (5, upd g11 3 x17, r3))
        generalize iv_up G16 h0 _ = G18 at hB hm h9
        have hM := hM.stp (iv_MdO.ofM hm) (by decide)
        have hK := hK.tr (iv_kp.T (iv_MdT.of hm) (by decide))
        have hC := hC.T (iv_MdT.of hm) (by decide)
        generalize hgn_g19 : upd g11 _ _ = g19 at h9
        obtain ⟨g20, r21, a_h1, f_g20⟩ := hm.ex a_h1
        have e22 : b14 = r21 2 := e_b14.trans (f_g20.1 2 (fun _ => ⟨by decide, by decide⟩)).symm
        have a_h0 := h9
        have e23 : x9 = g19 1 := by rw [← hgn_g19]; exact e9_g11
        have e9_g19 : x17 = g19 3 := by rw [← hgn_g19]; simp [upd]
        refine lv_aload_n hx hb dX5_copyFrom_60 rfl (lv_at hl 1 rfl) ?_
        refine lv_aload_n hx hb dX5_copyFrom_61 rfl (lv_at hl 2 rfl) ?_
        refine iv_geti X ft_X5 hB a_h1 sh_5 4 (by decide) rfl k_fl_X5_70 dX5_copyFrom_62 (fun x24 e_x24 i_x24 => ?_)
        refine iv_puti X ft_X5 hB a_h0 sh_5 4 (by decide) rfl rfl k_fl_X5_70 rfl i_x24 rfl rfl dX5_copyFrom_65 (fun H locs hB => ?_)
        have hm := iv_Md.put (x := x24) a_h0 (j := 4) (by decide) (by decide)
        have h9 := iv_up_eq (G := G18) (a := h0) (k := (5, upd g19 4 x24, r3))
        generalize iv_up G18 h0 _ = G25 at hB hm h9
        have hM := hM.stp (iv_MdO.ofM hm) (by decide)
        have hK := hK.tr (iv_kp.T (iv_MdT.of hm) (by decide))
        have hC := hC.T (iv_MdT.of hm) (by decide)
        generalize hgn_g26 : upd g19 _ _ = g26 at h9
        obtain ⟨g27, r28, a_h1, f_g27⟩ := hm.ex a_h1
        have e29 : b14 = r28 2 := e22.trans (f_g27.1 2 (fun _ => ⟨by decide, by decide⟩)).symm
        have a_h0 := h9
        have e30 : x9 = g26 1 := by rw [← hgn_g26]; exact e23
        have e31 : x17 = g26 3 := by rw [← hgn_g26]; exact e9_g19
        have e9_g26 : x24 = g26 4 := by rw [← hgn_g26]; simp [upd]
        refine lv_aload_n hx hb dX5_copyFrom_68 rfl (lv_at hl 1 rfl) ?_
        refine lv_aload_n hx hb dX5_copyFrom_69 rfl (lv_at hl 2 rfl) ?_
        refine iv_geti X ft_X5 hB a_h1 sh_5 5 (by decide) rfl k_fl_X5_73 dX5_copyFrom_70 (fun x32 e_x32 i_x32 => ?_)
        refine iv_puti X ft_X5 hB a_h0 sh_5 5 (by decide) rfl rfl k_fl_X5_73 rfl i_x32 rfl rfl dX5_copyFrom_73 (fun H locs hB => ?_)
        have hm := iv_Md.put (x := x32) a_h0 (j := 5) (by decide) (by decide)
        have h9 := iv_up_eq (G := G25) (a := h0) (k := (5, upd g26 5 x32, r3))
        generalize iv_up G25 h0 _ = G33 at hB hm h9
        have hM := hM.stp (iv_MdO.ofM hm) (by decide)
        have hK := hK.tr (iv_kp.T (iv_MdT.of hm) (by decide))
        have hC := hC.T (iv_MdT.of hm) (by decide)
        generalize hgn_g34 : upd g26 _ _ = g34 at h9
        obtain ⟨g35, r36, a_h1, f_g35⟩ := hm.ex a_h1
        have e37 : b14 = r36 2 := e29.trans (f_g35.1 2 (fun _ => ⟨by decide, by decide⟩)).symm
        have a_h0 := h9
        have e38 : x9 = g34 1 := by rw [← hgn_g34]; exact e30
        have e39 : x17 = g34 3 := by rw [← hgn_g34]; exact e31
        have e40 : x24 = g34 4 := by rw [← hgn_g34]; exact e9_g26
        have e9_g34 : x32 = g34 5 := by rw [← hgn_g34]; simp [upd]
        refine lv_aload_n hx hb dX5_copyFrom_76 rfl (lv_at hl 1 rfl) ?_
        refine lv_aload_n hx hb dX5_copyFrom_77 rfl (lv_at hl 2 rfl) ?_
        refine iv_geti X ft_X5 hB a_h1 sh_5 6 (by decide) rfl k_fl_X5_76 dX5_copyFrom_78 (fun x41 e_x41 i_x41 => ?_)
        refine iv_puti X ft_X5 hB a_h0 sh_5 6 (by decide) rfl rfl k_fl_X5_76 rfl i_x41 rfl rfl dX5_copyFrom_81 (fun H locs hB => ?_)
        have hm := iv_Md.put (x := x41) a_h0 (j := 6) (by decide) (by decide)
        have h9 := iv_up_eq (G := G33) (a := h0) (k := (5, upd g34 6 x41, r3))
        generalize iv_up G33 h0 _ = G42 at hB hm h9
        have hM := hM.stp (iv_MdO.ofM hm) (by decide)
        have hK := hK.tr (iv_kp.T (iv_MdT.of hm) (by decide))
        have hC := hC.T (iv_MdT.of hm) (by decide)
        generalize hgn_g43 : upd g34 _ _ = g43 at h9
        obtain ⟨g44, r45, a_h1, f_g44⟩ := hm.ex a_h1
        have e46 : b14 = r45 2 := e37.trans (f_g44.1 2 (fun _ => ⟨by decide, by decide⟩)).symm
        have a_h0 := h9
        have e47 : x9 = g43 1 := by rw [← hgn_g43]; exact e38
        have e48 : x17 = g43 3 := by rw [← hgn_g43]; exact e39
        have e49 : x24 = g43 4 := by rw [← hgn_g43]; exact e40
        have e50 : x32 = g43 5 := by rw [← hgn_g43]; exact e9_g34
        have e9_g43 : x41 = g43 6 := by rw [← hgn_g43]; simp [upd]
        refine lv_aload_n hx hb dX5_copyFrom_84 rfl (lv_at hl 1 rfl) ?_
        refine lv_aload_n hx hb dX5_copyFrom_85 rfl (lv_at hl 2 rfl) ?_
        refine iv_geti X ft_X5 hB a_h1 sh_5 7 (by decide) rfl k_fl_X5_79 dX5_copyFrom_86 (fun x51 e_x51 i_x51 => ?_)
        refine iv_puti X ft_X5 hB a_h0 sh_5 7 (by decide) rfl rfl k_fl_X5_79 rfl i_x51 rfl rfl dX5_copyFrom_89 (fun H locs hB => ?_)
        have hm := iv_Md.put (x := x51) a_h0 (j := 7) (by decide) (by decide)
        have h9 := iv_up_eq (G := G42) (a := h0) (k := (5, upd g43 7 x51, r3))
        generalize iv_up G42 h0 _ = G52 at hB hm h9
        have hM := hM.stp (iv_MdO.ofM hm) (by decide)
        have hK := hK.tr (iv_kp.T (iv_MdT.of hm) (by decide))
        have hC := hC.T (iv_MdT.of hm) (by decide)
        generalize hgn_g53 : upd g43 _ _ = g53 at h9
        obtain ⟨g54, r55, a_h1, f_g54⟩ := hm.ex a_h1
        have e56 : b14 = r55 2 := e46.trans (f_g54.1 2 (fun _ => ⟨by decide, by decide⟩)).symm
        have a_h0 := h9
        have e57 : x9 = g53 1 := by rw [← hgn_g53]; exact e47
        have e58 : x17 = g53 3 := by rw [← hgn_g53]; exact e48
        have e59 : x24 = g53 4 := by rw [← hgn_g53]; exact e49
        have e60 : x32 = g53 5 := by rw [← hgn_g53]; exact e50
        have e61 : x41 = g53 6 := by rw [← hgn_g53]; exact e9_g43
        have e9_g53 : x51 = g53 7 := by rw [← hgn_g53]; simp [upd]
        refine lv_aload_n hx hb dX5_copyFrom_92 rfl (lv_at hl 1 rfl) ?_
        refine iv_getr X ft_X5 hB a_h0 sh_5 8 (by decide) rfl k_fl_X5_30 dX5_copyFrom_93 (fun b62 g_b62 r_b62 e_b62 a_b62 => ?_)
        refine lv_aload_n hx hb dX5_copyFrom_96 rfl (lv_at hl 2 rfl) ?_
        refine iv_getr X ft_X5 hB a_h1 sh_5 8 (by decide) rfl k_fl_X5_30 dX5_copyFrom_97 (fun b63 g_b63 r_b63 e_b63 a_b63 => ?_)
        refine iv_cVv X k_good k_mf_X8_become k_im_X8_become k_sel_X8_become k_ml_X5_82 ft_X8 hB a_b62 sh_8 (As := [.ref b63]) (c_X8_become_8 l D tys base G52 b62 g_b62 r_b62 a_b62 b63 g_b63 r_b63 a_b63) ⟨rfl, rfl⟩ ⟨Nat.le_of_ble_eq_true rfl, Nat.le_of_ble_eq_true rfl⟩ ⟨Nat.le_of_ble_eq_true rfl, Nat.le_of_ble_eq_true rfl⟩ rfl rfl hl.1 (Nat.le_of_ble_eq_true rfl) dX5_copyFrom_100 (fun G9 H locs hq hB => ?_)
        have hm := hq
        obtain ⟨G64, hG9⟩ : ∃ g, g = G9 := ⟨_, rfl⟩
        rw [← hG9] at hm hB
        have hM := hM.stp (iv_MdO.ofM hm) (by decide)
        have hK := hK.tr (iv_kp.T (iv_MdT.of hm) (by decide))
        have hC := hC.T (iv_MdT.of hm) (by decide)
        have a_h1 := hm.at a_h1 (by decide)
        have a_h0 := hm.at a_h0 (by decide)
        refine lv_aload_n hx hb dX5_copyFrom_103 rfl (lv_at hl 1 rfl) ?_
        refine iv_getr X ft_X5 hB a_h0 sh_5 9 (by decide) rfl k_fl_X5_34 dX5_copyFrom_104 (fun b65 g_b65 r_b65 e_b65 a_b65 => ?_)
        refine lv_aload_n hx hb dX5_copyFrom_107 rfl (lv_at hl 2 rfl) ?_
        refine iv_getr X ft_X5 hB a_h1 sh_5 9 (by decide) rfl k_fl_X5_34 dX5_copyFrom_108 (fun b66 g_b66 r_b66 e_b66 a_b66 => ?_)
        refine iv_cVv X k_good k_mf_X8_become k_im_X8_become k_sel_X8_become k_ml_X5_82 ft_X8 hB a_b65 sh_13 (As := [.ref b66]) (c_X8_become_13 l D tys base G64 b65 g_b65 r_b65 a_b65 b66 g_b66 r_b66 a_b66) ⟨rfl, rfl⟩ ⟨Nat.le_of_ble_eq_true rfl, Nat.le_of_ble_eq_true rfl⟩ ⟨Nat.le_of_ble_eq_true rfl, Nat.le_of_ble_eq_true rfl⟩ rfl rfl hl.1 (Nat.le_of_ble_eq_true rfl) dX5_copyFrom_111 (fun G9 H locs hq hB => ?_)
        have hm := hq
        obtain ⟨G67, hG9⟩ : ∃ g, g = G9 := ⟨_, rfl⟩
        rw [← hG9] at hm hB
        have hM := hM.stp (iv_MdO.ofM hm) (by decide)
        have hK := hK.tr (iv_kp.T (iv_MdT.of hm) (by decide))
        have hC := hC.T (iv_MdT.of hm) (by decide)
        have a_h1 := hm.at a_h1 (by decide)
        have a_h0 := hm.at a_h0 (by decide)
        refine lv_aload_n hx hb dX5_copyFrom_114 rfl (lv_at hl 1 rfl) ?_
        refine iv_getr X ft_X5 hB a_h0 sh_5 10 (by decide) rfl k_fl_X5_37 dX5_copyFrom_115 (fun b68 g_b68 r_b68 e_b68 a_b68 => ?_)
        refine lv_aload_n hx hb dX5_copyFrom_118 rfl (lv_at hl 2 rfl) ?_
        refine iv_getr X ft_X5 hB a_h1 sh_5 10 (by decide) rfl k_fl_X5_37 dX5_copyFrom_119 (fun b69 g_b69 r_b69 e_b69 a_b69 => ?_)
        refine iv_cVv X k_good k_mf_X8_become k_im_X8_become k_sel_X8_become k_ml_X5_82 ft_X8 hB a_b68 sh_14 (As := [.ref b69]) (c_X8_become_14 l D tys base G67 b68 g_b68 r_b68 a_b68 b69 g_b69 r_b69 a_b69) ⟨rfl, rfl⟩ ⟨Nat.le_of_ble_eq_true rfl, Nat.le_of_ble_eq_true rfl⟩ ⟨Nat.le_of_ble_eq_true rfl, Nat.le_of_ble_eq_true rfl⟩ rfl rfl hl.1 (Nat.le_of_ble_eq_true rfl) dX5_copyFrom_122 (fun G9 H locs hq hB => ?_)
        have hm := hq
        obtain ⟨G70, hG9⟩ : ∃ g, g = G9 := ⟨_, rfl⟩
        rw [← hG9] at hm hB
        have hM := hM.stp (iv_MdO.ofM hm) (by decide)
        have hK := hK.tr (iv_kp.T (iv_MdT.of hm) (by decide))
        have hC := hC.T (iv_MdT.of hm) (by decide)
        have a_h1 := hm.at a_h1 (by decide)
        have a_h0 := hm.at a_h0 (by decide)
        refine lv_aload_n hx hb dX5_copyFrom_125 rfl (lv_at hl 2 rfl) ?_
        refine iv_getr X ft_X5 hB a_h1 sh_5 11 (by decide) rfl k_fl_X5_40 dX5_copyFrom_126 (fun b71 g_b71 r_b71 e_b71 a_b71 => ?_)
        refine lv_iconst (v := 0) hx hb dX5_copyFrom_129 (by decide) ?_
        refine lv_aload_n hx hb dX5_copyFrom_130 rfl (lv_at hl 1 rfl) ?_
        refine iv_getr X ft_X5 hB a_h0 sh_5 11 (by decide) rfl k_fl_X5_40 dX5_copyFrom_131 (fun b72 g_b72 r_b72 e_b72 a_b72 => ?_)
        refine lv_iconst (v := 0) hx hb dX5_copyFrom_134 (by decide) ?_
        refine lv_bipush (v := 10) hx hb dX5_copyFrom_135 (by decide) ?_
        refine iv_acopyB X hB a_b71 a_b72 sh_21 sh_21 k_ml_X5_64 k_cpn k_cps k_ini_System (by decide +kernel) (by decide +kernel) (iv_nneg q_10 (by decide)) (iv_cp0 q_10 (by decide)) (iv_cp0 q_10 (by decide)) hl.1 (Nat.le_of_ble_eq_true rfl) (Nat.le_of_ble_eq_true rfl) (fun _ _ j _ => iv_R.all _) dX5_copyFrom_137 (fun H locs hB => ?_)
        have hm := iv_Md.any (g' := va_cpy g_b71 g_b72 (Int32.toNatClampNeg 0) (Int32.toNatClampNeg 0) (Int32.toNatClampNeg 10)) a_b72 rfl (by decide)
        have h9 := iv_up_eq (G := G70) (a := b72) (k := (21, va_cpy g_b71 g_b72 (Int32.toNatClampNeg 0) (Int32.toNatClampNeg 0) (Int32.toNatClampNeg 10), r_b72))
        generalize iv_up G70 b72 _ = G73 at hB hm h9
        have hM := hM.stp (iv_MdO.ofM hm) (by decide)
        have hK := hK.tr (iv_kp.T (iv_MdT.of hm) (by decide))
        have hC := hC.T (iv_MdT.of hm) (by decide)
        have a_h1 := hm.at a_h1 (by decide)
        have a_h0 := hm.at a_h0 (by decide)
        refine lv_aload_n hx hb dX5_copyFrom_140 rfl (lv_at hl 1 rfl) ?_
        refine lv_aload_n hx hb dX5_copyFrom_141 rfl (lv_at hl 2 rfl) ?_
        refine iv_geti X ft_X5 hB a_h1 sh_5 12 (by decide) rfl k_fl_X5_85 dX5_copyFrom_142 (fun x74 e_x74 i_x74 => ?_)
        refine iv_puti X ft_X5 hB a_h0 sh_5 12 (by decide) rfl rfl k_fl_X5_85 rfl i_x74 rfl rfl dX5_copyFrom_145 (fun H locs hB => ?_)
        have hm := iv_Md.put (x := x74) a_h0 (j := 12) (by decide) (by decide)
        have h9 := iv_up_eq (G := G73) (a := h0) (k := (5, upd g53 12 x74, r3))
        generalize iv_up G73 h0 _ = G75 at hB hm h9
        have hM := hM.stp (iv_MdO.ofM hm) (by decide)
        have hK := hK.tr (iv_kp.T (iv_MdT.of hm) (by decide))
        have hC := hC.T (iv_MdT.of hm) (by decide)
        generalize hgn_g76 : upd g53 _ _ = g76 at h9
        obtain ⟨g77, r78, a_h1, f_g77⟩ := hm.ex a_h1
        have e79 : b14 = r78 2 := e56.trans (f_g77.1 2 (fun _ => ⟨by decide, by decide⟩)).symm
        have e80 : b63 = r78 8 := e_b63.trans (f_g77.1 8 (fun _ => ⟨by decide, by decide⟩)).symm
        have e81 : b66 = r78 9 := e_b66.trans (f_g77.1 9 (fun _ => ⟨by decide, by decide⟩)).symm
        have e82 : b69 = r78 10 := e_b69.trans (f_g77.1 10 (fun _ => ⟨by decide, by decide⟩)).symm
        have e83 : b71 = r78 11 := e_b71.trans (f_g77.1 11 (fun _ => ⟨by decide, by decide⟩)).symm
        have a_h0 := h9
        have e84 : x9 = g76 1 := by rw [← hgn_g76]; exact e57
        have e85 : x17 = g76 3 := by rw [← hgn_g76]; exact e58
        have e86 : x24 = g76 4 := by rw [← hgn_g76]; exact e59
        have e87 : x32 = g76 5 := by rw [← hgn_g76]; exact e60
        have e88 : x41 = g76 6 := by rw [← hgn_g76]; exact e61
        have e89 : x51 = g76 7 := by rw [← hgn_g76]; exact e9_g53
        have e9_g76 : x74 = g76 12 := by rw [← hgn_g76]; simp [upd]
        refine lv_aload_n hx hb dX5_copyFrom_148 rfl (lv_at hl 1 rfl) ?_
        refine lv_aload_n hx hb dX5_copyFrom_149 rfl (lv_at hl 2 rfl) ?_
        refine iv_getr X ft_X5 hB a_h1 sh_5 13 (by decide) rfl k_fl_X5_49 dX5_copyFrom_150 (fun b90 g_b90 r_b90 e_b90 a_b90 => ?_)
        refine iv_putr X ft_X5 hB a_h0 sh_5 13 (by decide) rfl rfl k_fl_X5_49 rfl a_b90 rfl rfl rfl dX5_copyFrom_153 (fun H locs hB => ?_)
        have hm := iv_Md.putr (b := b90) a_h0 (j := 13) (by decide)
        have h9 := iv_up_eq (G := G75) (a := h0) (k := (5, g76, iv_ur r3 13 b90))
        generalize iv_up G75 h0 _ = G91 at hB hm h9
        have hM := hM.stp (iv_MdO.ofM hm) (by decide)
        have hK := hK.tr (iv_kp.T (iv_MdT.of hm) (by decide))
        have hC := hC.T (iv_MdT.of hm) (by decide)
        generalize iv_ur r3 13 b90 = r93 at h9
        obtain ⟨g94, r95, a_h1, f_g94⟩ := hm.ex a_h1
        have e96 : b14 = r95 2 := e79.trans (f_g94.1 2 (fun _ => ⟨by decide, by decide⟩)).symm
        have e97 : b63 = r95 8 := e80.trans (f_g94.1 8 (fun _ => ⟨by decide, by decide⟩)).symm
        have e98 : b66 = r95 9 := e81.trans (f_g94.1 9 (fun _ => ⟨by decide, by decide⟩)).symm
        have e99 : b69 = r95 10 := e82.trans (f_g94.1 10 (fun _ => ⟨by decide, by decide⟩)).symm
        have e100 : b71 = r95 11 := e83.trans (f_g94.1 11 (fun _ => ⟨by decide, by decide⟩)).symm
        have a_h0 := h9
        refine lv_aload_n hx hb dX5_copyFrom_156 rfl (lv_at hl 1 rfl) ?_
        refine lv_aload_n hx hb dX5_copyFrom_157 rfl (lv_at hl 2 rfl) ?_
        refine iv_getr X ft_X5 hB a_h1 sh_5 14 (by decide) rfl k_fl_X5_53 dX5_copyFrom_158 (fun b101 g_b101 r_b101 e_b101 a_b101 => ?_)
        refine iv_putr X ft_X5 hB a_h0 sh_5 14 (by decide) rfl rfl k_fl_X5_53 rfl a_b101 rfl rfl rfl dX5_copyFrom_161 (fun H locs hB => ?_)
        have hm := iv_Md.putr (b := b101) a_h0 (j := 14) (by decide)
        have h9 := iv_up_eq (G := G91) (a := h0) (k := (5, g76, iv_ur r93 14 b101))
        generalize iv_up G91 h0 _ = G102 at hB hm h9
        have hM := hM.stp (iv_MdO.ofM hm) (by decide)
        have hK := hK.tr (iv_kp.T (iv_MdT.of hm) (by decide))
        have hC := hC.T (iv_MdT.of hm) (by decide)
        generalize iv_ur r93 14 b101 = r104 at h9
        obtain ⟨g105, r106, a_h1, f_g105⟩ := hm.ex a_h1
        have e107 : b14 = r106 2 := e96.trans (f_g105.1 2 (fun _ => ⟨by decide, by decide⟩)).symm
        have e108 : b63 = r106 8 := e97.trans (f_g105.1 8 (fun _ => ⟨by decide, by decide⟩)).symm
        have e109 : b66 = r106 9 := e98.trans (f_g105.1 9 (fun _ => ⟨by decide, by decide⟩)).symm
        have e110 : b69 = r106 10 := e99.trans (f_g105.1 10 (fun _ => ⟨by decide, by decide⟩)).symm
        have e111 : b71 = r106 11 := e100.trans (f_g105.1 11 (fun _ => ⟨by decide, by decide⟩)).symm
        have a_h0 := h9
        exact iv_vret X hr hlocks hB ⟨hM, hK, hC⟩ dX5_copyFrom_164
      · skip
        have i111_x1 : iv_R 0 9 x1 := (i_x1.cutHi (n := 9) (iv_lt_r (iv_nle c7) q_10 (by decide)))
        refine lv_aload_n hx hb dX5_copyFrom_8 rfl (lv_at hl 1 rfl) ?_
        refine iv_getr X ft_X5 hB a_h0 sh_5 0 (by decide) rfl k_fl_X5_11 dX5_copyFrom_9 (fun b113 g_b113 r_b113 e_b113 a_b113 => ?_)
        refine lv_iload_n hx hb dX5_copyFrom_12 rfl (lv_at hl 0 rfl) ?_
        refine iv_aald X hB a_b113 sh_40 (iv_in i111_x1 (by decide)) dX5_copyFrom_13 (fun b114 g_b114 r_b114 e_b114 a_b114 => ?_)
        refine lv_aload_n hx hb dX5_copyFrom_14 rfl (lv_at hl 2 rfl) ?_
        refine iv_getr X ft_X5 hB a_h1 sh_5 0 (by decide) rfl k_fl_X5_11 dX5_copyFrom_15 (fun b115 g_b115 r_b115 e_b115 a_b115 => ?_)
        refine lv_iload_n hx hb dX5_copyFrom_18 rfl (lv_at hl 0 rfl) ?_
        refine iv_aald X hB a_b115 sh_40 (iv_in i111_x1 (by decide)) dX5_copyFrom_19 (fun b116 g_b116 r_b116 e_b116 a_b116 => ?_)
        refine iv_cVv X k_good k_mf_X1_become k_im_X1_become k_sel_X1_become k_ml_X5_57 ft_X1 hB a_b114 sh_1 (As := [.ref b116]) (c_X1_become l D tys base G6 b114 g_b114 r_b114 a_b114 b116 g_b116 r_b116 a_b116) ⟨rfl, rfl⟩ ⟨Nat.le_of_ble_eq_true rfl, Nat.le_of_ble_eq_true rfl⟩ ⟨Nat.le_of_ble_eq_true rfl, Nat.le_of_ble_eq_true rfl⟩ rfl rfl hl.1 (Nat.le_of_ble_eq_true rfl) dX5_copyFrom_20 (fun G9 H locs hq hB => ?_)
        have hm := hq
        obtain ⟨G117, hG9⟩ : ∃ g, g = G9 := ⟨_, rfl⟩
        rw [← hG9] at hm hB
        have hM := hM.stp (iv_MdT.of hm) (by decide)
        have a_h0 := hm.at a_h0 (by decide)
        have a_h1 := hm.at a_h1 (by decide)
        refine iv_iinc hx hb i111_x1 (lo := 1) (hi := 10) (by decide) dX5_copyFrom_23 hl (k := 0) rfl (by decide) (fun x118 ls e_x118 i_x118 hl => ?_)
        have hl : lv_has ls 3 [(2, .int x118), (0, .ref h0), (1, .ref h1)] := hl
        refine lv_goto (tgt := 2) hx hb dX5_copyFrom_26 (by decide) ?_
        exact ih_2 G117 hM _ _ hB g2 r3 a_h0 g4 r5 a_h1 x118 (i_x118.wk (by decide)) (iv_mup (c := 1) i_x1 (by decide) (by decide) (by omega) hn_2) _ (lv_sub hl [0, 1, 2] rfl)
  exact L_2 _ G hM _ _ hB g_h0 r_h0 a_h0 g_h1 r_h1 a_h1 0 (q_0.wk (by decide)) (Nat.lt_succ_self _) _ (lv_sub hl [0, 1, 2] rfl)
theorem dX11_takeHours_0 : decode cX11_takeHours 0 = .ok (.aload_n 0, 1) := by decide +kernel
theorem dX11_takeHours_1 : decode cX11_takeHours 1 = .ok (.getfield 33, 3) := by decide +kernel
theorem dX11_takeHours_4 : decode cX11_takeHours 4 = .ok (.getfield 198, 3) := by decide +kernel
theorem dX11_takeHours_7 : decode cX11_takeHours 7 = .ok (.iconst 0, 1) := by decide +kernel
theorem dX11_takeHours_8 : decode cX11_takeHours 8 = .ok (.aload_n 0, 1) := by decide +kernel
theorem dX11_takeHours_9 : decode cX11_takeHours 9 = .ok (.getfield 12, 3) := by decide +kernel
theorem dX11_takeHours_12 : decode cX11_takeHours 12 = .ok (.getfield 201, 3) := by decide +kernel
theorem dX11_takeHours_15 : decode cX11_takeHours 15 = .ok (.iconst 0, 1) := by decide +kernel
theorem dX11_takeHours_16 : decode cX11_takeHours 16 = .ok (.bipush 10, 2) := by decide +kernel
theorem dX11_takeHours_18 : decode cX11_takeHours 18 = .ok (.invokestatic 202, 3) := by decide +kernel
theorem dX11_takeHours_21 : decode cX11_takeHours 21 = .ok (.aload_n 0, 1) := by decide +kernel
theorem dX11_takeHours_22 : decode cX11_takeHours 22 = .ok (.getfield 12, 3) := by decide +kernel
theorem dX11_takeHours_25 : decode cX11_takeHours 25 = .ok (.aload_n 0, 1) := by decide +kernel
theorem dX11_takeHours_26 : decode cX11_takeHours 26 = .ok (.getfield 33, 3) := by decide +kernel
theorem dX11_takeHours_29 : decode cX11_takeHours 29 = .ok (.getfield 197, 3) := by decide +kernel
theorem dX11_takeHours_32 : decode cX11_takeHours 32 = .ok (.putfield 208, 3) := by decide +kernel
theorem dX11_takeHours_35 : decode cX11_takeHours 35 = .ok (.aload_n 0, 1) := by decide +kernel
theorem dX11_takeHours_36 : decode cX11_takeHours 36 = .ok (.getfield 22, 3) := by decide +kernel
theorem dX11_takeHours_39 : decode cX11_takeHours 39 = .ok (.invokevirtual 76, 3) := by decide +kernel
theorem dX11_takeHours_42 : decode cX11_takeHours 42 = .ok (.return_, 1) := by decide +kernel
set_option maxHeartbeats 4000000 in
set_option maxRecDepth 100000 in
theorem c_X11_takeHours (l : Launch) (D : va_G) (tys : List (ClassId × FieldType)) (base : Nat) (G : iv_G) (h0 : Nat) (g_h0 : Nat → Int32) (r_h0 : Nat → Nat) (a_h0 : G h0 = some (11, g_h0, r_h0)) : Met l yX11_takeHours (Cond.code yX11_takeHours cX11_takeHours 1 none :: iv_W0) ({ frames := 1, cells := 0, slots := 0, locals := 20 }) (iv_Pc iv_sh D classes tys base G [.ref h0]) (iv_Qv iv_sh D classes tys base (fun G' => iv_Md [5, 6, 21] G G')) 0 0 (iv_A base) := by
  refine iv_head (by decide) (Nat.le_of_ble_eq_true rfl) ?_
  intro p e s m args below meth c ls X hr hlocks hname hB hl
  have X := X
  have hx := X.1.1
  have hb := X.1.2.1
  have hM : iv_Md [5, 6, 21] G G := iv_Md.rf
  have hl : lv_has ls 1 [(0, .ref h0)] := hl
  refine lv_aload_n hx hb dX11_takeHours_0 rfl (lv_at hl 0 rfl) ?_
  refine iv_getr X ft_X11 hB a_h0 sh_11 6 (by decide) rfl k_fl_X11_33 dX11_takeHours_1 (fun b1 g_b1 r_b1 e_b1 a_b1 => ?_)
  refine iv_getr X ft_X7 hB a_b1 sh_7 9 (by decide) rfl k_fl_X11_198 dX11_takeHours_4 (fun b2 g_b2 r_b2 e_b2 a_b2 => ?_)
  refine lv_iconst (v := 0) hx hb dX11_takeHours_7 (by decide) ?_
  refine lv_aload_n hx hb dX11_takeHours_8 rfl (lv_at hl 0 rfl) ?_
  refine iv_getr X ft_X11 hB a_h0 sh_11 0 (by decide) rfl k_fl_X11_12 dX11_takeHours_9 (fun b3 g_b3 r_b3 e_b3 a_b3 => ?_)
  refine iv_getr X ft_X5 hB a_b3 sh_5 11 (by decide) rfl k_fl_X11_201 dX11_takeHours_12 (fun b4 g_b4 r_b4 e_b4 a_b4 => ?_)
  refine lv_iconst (v := 0) hx hb dX11_takeHours_15 (by decide) ?_
  refine lv_bipush (v := 10) hx hb dX11_takeHours_16 (by decide) ?_
  refine iv_acopyB X hB a_b2 a_b4 sh_21 sh_21 k_ml_X11_202 k_cpn k_cps k_ini_System (by decide +kernel) (by decide +kernel) (iv_nneg q_10 (by decide)) (iv_cp0 q_10 (by decide)) (iv_cp0 q_10 (by decide)) hl.1 (Nat.le_of_ble_eq_true rfl) (Nat.le_of_ble_eq_true rfl) (fun _ _ j _ => iv_R.all _) dX11_takeHours_18 (fun H locs hB => ?_)
  have hm := iv_Md.any (g' := va_cpy g_b2 g_b4 (Int32.toNatClampNeg 0) (Int32.toNatClampNeg 0) (Int32.toNatClampNeg 10)) a_b4 rfl (by decide)
  have h9 := iv_up_eq (G := G) (a := b4) (k := (21, va_cpy g_b2 g_b4 (Int32.toNatClampNeg 0) (Int32.toNatClampNeg 0) (Int32.toNatClampNeg 10), r_b4))
  generalize iv_up G b4 _ = G5 at hB hm h9
  have hM := hM.stp hm (by decide)
  have a_h0 := hm.at a_h0 (by decide)
  refine lv_aload_n hx hb dX11_takeHours_21 rfl (lv_at hl 0 rfl) ?_
  refine iv_getr X ft_X11 hB a_h0 sh_11 0 (by decide) rfl k_fl_X11_12 dX11_takeHours_22 (fun b6 g_b6 r_b6 e_b6 a_b6 => ?_)
  refine lv_aload_n hx hb dX11_takeHours_25 rfl (lv_at hl 0 rfl) ?_
  refine iv_getr X ft_X11 hB a_h0 sh_11 6 (by decide) rfl k_fl_X11_33 dX11_takeHours_26 (fun b7 g_b7 r_b7 e_b7 a_b7 => ?_)
  refine iv_geti X ft_X7 hB a_b7 sh_7 8 (by decide) rfl k_fl_X11_197 dX11_takeHours_29 (fun x8 e_x8 i_x8 => ?_)
  refine iv_puti X ft_X5 hB a_b6 sh_5 12 (by decide) rfl rfl k_fl_X11_208 rfl (i_x8.wk (by decide)) rfl rfl dX11_takeHours_32 (fun H locs hB => ?_)
  have hm := iv_Md.put (x := x8) a_b6 (j := 12) (by decide) (by decide)
  have h9 := iv_up_eq (G := G5) (a := b6) (k := (5, upd g_b6 12 x8, r_b6))
  generalize iv_up G5 b6 _ = G9 at hB hm h9
  have hM := hM.stp hm (by decide)
  have a_h0 := hm.at a_h0 (by decide)
  refine lv_aload_n hx hb dX11_takeHours_35 rfl (lv_at hl 0 rfl) ?_
  refine iv_getr X ft_X11 hB a_h0 sh_11 3 (by decide) rfl k_fl_X11_22 dX11_takeHours_36 (fun b11 g_b11 r_b11 e_b11 a_b11 => ?_)
  refine iv_cVv X k_good k_mf_X6_forget k_im_X6_forget k_sel_X6_forget k_ml_X11_76 ft_X6 hB a_b11 sh_6 (As := []) (c_X6_forget l D tys base G9 b11 g_b11 r_b11 a_b11) ⟨rfl, rfl⟩ ⟨Nat.le_of_ble_eq_true rfl, Nat.le_of_ble_eq_true rfl⟩ ⟨Nat.le_of_ble_eq_true rfl, Nat.le_of_ble_eq_true rfl⟩ rfl rfl hl.1 (Nat.le_of_ble_eq_true rfl) dX11_takeHours_39 (fun G9 H locs hq hB => ?_)
  have hm := hq
  obtain ⟨G12, hG9⟩ : ∃ g, g = G9 := ⟨_, rfl⟩
  rw [← hG9] at hm hB
  have hM := hM.stp hm (by decide)
  have a_h0 := hm.at a_h0 (by decide)
  exact iv_vret X hr hlocks hB hM dX11_takeHours_42
theorem dX11_image_0 : decode cX11_image 0 = .ok (.iload_n 1, 1) := by decide +kernel
theorem dX11_image_1 : decode cX11_image 1 = .ok (.ifCond .eq 21, 3) := by decide +kernel
theorem dX11_image_4 : decode cX11_image 4 = .ok (.aload_n 0, 1) := by decide +kernel
theorem dX11_image_5 : decode cX11_image 5 = .ok (.getfield 16, 3) := by decide +kernel
theorem dX11_image_8 : decode cX11_image 8 = .ok (.aload_n 0, 1) := by decide +kernel
theorem dX11_image_9 : decode cX11_image 9 = .ok (.getfield 12, 3) := by decide +kernel
theorem dX11_image_12 : decode cX11_image 12 = .ok (.invokevirtual 369, 3) := by decide +kernel
theorem dX11_image_15 : decode cX11_image 15 = .ok (.aload_n 0, 1) := by decide +kernel
theorem dX11_image_16 : decode cX11_image 16 = .ok (.iconst 1, 1) := by decide +kernel
theorem dX11_image_17 : decode cX11_image 17 = .ok (.putfield 372, 3) := by decide +kernel
theorem dX11_image_20 : decode cX11_image 20 = .ok (.iconst 1, 1) := by decide +kernel
theorem dX11_image_21 : decode cX11_image 21 = .ok (.ireturn, 1) := by decide +kernel
theorem dX11_image_22 : decode cX11_image 22 = .ok (.aload_n 0, 1) := by decide +kernel
theorem dX11_image_23 : decode cX11_image 23 = .ok (.getfield 372, 3) := by decide +kernel
theorem dX11_image_26 : decode cX11_image 26 = .ok (.ifCond .ne 5, 3) := by decide +kernel
theorem dX11_image_29 : decode cX11_image 29 = .ok (.iconst 0, 1) := by decide +kernel
theorem dX11_image_30 : decode cX11_image 30 = .ok (.ireturn, 1) := by decide +kernel
theorem dX11_image_31 : decode cX11_image 31 = .ok (.aload_n 0, 1) := by decide +kernel
theorem dX11_image_32 : decode cX11_image 32 = .ok (.getfield 12, 3) := by decide +kernel
theorem dX11_image_35 : decode cX11_image 35 = .ok (.aload_n 0, 1) := by decide +kernel
theorem dX11_image_36 : decode cX11_image 36 = .ok (.getfield 16, 3) := by decide +kernel
theorem dX11_image_39 : decode cX11_image 39 = .ok (.invokevirtual 369, 3) := by decide +kernel
theorem dX11_image_42 : decode cX11_image 42 = .ok (.aload_n 0, 1) := by decide +kernel
theorem dX11_image_43 : decode cX11_image 43 = .ok (.getfield 22, 3) := by decide +kernel
theorem dX11_image_46 : decode cX11_image 46 = .ok (.invokevirtual 76, 3) := by decide +kernel
theorem dX11_image_49 : decode cX11_image 49 = .ok (.iconst 1, 1) := by decide +kernel
theorem dX11_image_50 : decode cX11_image 50 = .ok (.ireturn, 1) := by decide +kernel
set_option maxHeartbeats 4000000 in
set_option maxRecDepth 100000 in
theorem e_X11_image (l : Launch) (D : va_G) (tys : List (ClassId × FieldType)) (base : Nat) (G : iv_G) (h0 : Nat) (g_h0 : Nat → Int32) (r_h0 : Nat → Nat) (a_h0 : G h0 = some (11, g_h0, r_h0)) (x_0 : Int32) (i_x_0 : iv_R 0 1 x_0) : Met l yX11_image (Cond.code yX11_image cX11_image 2 (some .boolean) :: iv_W0) ({ frames := 3, cells := 0, slots := 0, locals := 67 }) (iv_Pc iv_sh D classes tys base G [.ref h0, .int x_0]) (iv_Qi iv_sh D classes tys base (fun v G' => iv_MdO [1, 5, 6, 8, 11, 13, 14, 20, 21, 22, 23, 24] G G' ∧ iv_R 0 1 v ∧ (∀ (g' : Nat → Int32) (r' : Nat → Nat), G' h0 = some (11, g', r') → g' 5 = g_h0 5) ∧ (¬ v = 0 ↔ (¬ x_0 = 0 ∨ ¬ g_h0 2 = 0)) ∧ (∀ (g' : Nat → Int32) (r' : Nat → Nat), G' h0 = some (11, g', r') → g' 2 = (if v = 0 then g_h0 2 else 1)) ∧ li_P 5 1 r_h0 x_0 v G G')) 0 0 (iv_A base) := by
  refine iv_head (by decide) (Nat.le_of_ble_eq_true rfl) ?_
  intro p e s m args below meth c ls X hr hlocks hname hB hl
  have X := X
  have hx := X.1.1
  have hb := X.1.2.1
  have hM : iv_MdO [1, 5, 6, 8, 11, 13, 14, 20, 21, 22, 23, 24] G G := iv_MdO.rf
  have hl : lv_has ls 2 [(0, .ref h0), (1, .int x_0)] := hl
  obtain ⟨y5, e_y5⟩ : ∃ x, x = g_h0 5 := ⟨_, rfl⟩
  have i_y5 := iv_R.all y5
  refine lv_iload_n hx hb dX11_image_0 rfl (lv_at hl 1 rfl) ?_
  refine lv_if_eq (tgt := 22) hx hb dX11_image_1 (by decide) (fun c1 => ?_) (fun c1 => ?_)
  · skip
    have i1_x_0 : iv_R 0 0 x_0 := (i_x_0.cutHi (n := 0) (iv_eq_r c1 q_0).2)
    refine lv_aload_n hx hb dX11_image_22 rfl (lv_at hl 0 rfl) ?_
    refine iv_geti X ft_X11 hB a_h0 sh_11 2 (by decide) rfl k_fl_X11_372 dX11_image_23 (fun x3 e_x3 i_x3 => ?_)
    refine lv_if_ne (tgt := 31) hx hb dX11_image_26 (by decide) (fun c4 => ?_) (fun c4 => ?_)
    · skip
      have i4_x3 : iv_R 1 1 x3 := iv_ne_lo c4 i_x3 q_0 (by decide)
      refine lv_aload_n hx hb dX11_image_31 rfl (lv_at hl 0 rfl) ?_
      refine iv_getr X ft_X11 hB a_h0 sh_11 0 (by decide) rfl k_fl_X11_12 dX11_image_32 (fun b6 g_b6 r_b6 e_b6 a_b6 => ?_)
      refine lv_aload_n hx hb dX11_image_35 rfl (lv_at hl 0 rfl) ?_
      refine iv_getr X ft_X11 hB a_h0 sh_11 1 (by decide) rfl k_fl_X11_16 dX11_image_36 (fun b7 g_b7 r_b7 e_b7 a_b7 => ?_)
      refine iv_cVv X k_good k_mf_X5_copyFrom k_im_X5_copyFrom k_sel_X5_copyFrom k_ml_X11_369 ft_X5 hB a_b6 sh_5 (As := [.ref b7]) (e_X5_copyFrom l D tys base G b6 g_b6 r_b6 a_b6 b7 g_b7 r_b7 a_b7) ⟨rfl, rfl⟩ ⟨Nat.le_of_ble_eq_true rfl, Nat.le_of_ble_eq_true rfl⟩ ⟨Nat.le_of_ble_eq_true rfl, Nat.le_of_ble_eq_true rfl⟩ rfl rfl hl.1 (Nat.le_of_ble_eq_true rfl) dX11_image_39 (fun G9 H locs hq hB => ?_)
      have hK := hq.2.1
      have hC := hq.2.2
      have hm := hq.1
      obtain ⟨G8, hG9⟩ : ∃ g, g = G9 := ⟨_, rfl⟩
      rw [← hG9] at hm hB hK hC
      have hM := hM.stp hm (by decide)
      have a_h0 := hm.at a_h0 (by decide)
      refine lv_aload_n hx hb dX11_image_42 rfl (lv_at hl 0 rfl) ?_
      refine iv_getr X ft_X11 hB a_h0 sh_11 3 (by decide) rfl k_fl_X11_22 dX11_image_43 (fun b9 g_b9 r_b9 e_b9 a_b9 => ?_)
      refine iv_cVv X k_good k_mf_X6_forget k_im_X6_forget k_sel_X6_forget k_ml_X11_76 ft_X6 hB a_b9 sh_6 (As := []) (c_X6_forget l D tys base G8 b9 g_b9 r_b9 a_b9) ⟨rfl, rfl⟩ ⟨Nat.le_of_ble_eq_true rfl, Nat.le_of_ble_eq_true rfl⟩ ⟨Nat.le_of_ble_eq_true rfl, Nat.le_of_ble_eq_true rfl⟩ rfl rfl hl.1 (Nat.le_of_ble_eq_true rfl) dX11_image_46 (fun G9 H locs hq hB => ?_)
      have hm := hq
      obtain ⟨G10, hG9⟩ : ∃ g, g = G9 := ⟨_, rfl⟩
      rw [← hG9] at hm hB
      have hM := hM.stp (iv_MdO.ofM hm) (by decide)
      have hK := hK.tr (iv_kp.O (iv_MdO.ofM hm) (by decide))
      have hC := hC.O (iv_MdO.ofM hm) (by decide)
      have a_h0 := hm.at a_h0 (by decide)
      refine lv_iconst (v := 1) hx hb dX11_image_49 (by decide) ?_
      exact iv_zret X hr hlocks hB (q_1.wk (by decide)) ⟨hM, (q_1.wk (by decide)), (fun g9 r9 h9 => by have h8 := a_h0.symm.trans h9; cases h8; exact e_y5.symm.trans e_y5), ⟨fun _ => Or.inr (fun q => c4 (e_x3.trans q)), fun _ h => absurd h (by decide)⟩, (fun g9 r9 h9 => by have h8 := a_h0.symm.trans h9; cases h8; rw [if_neg (show ¬ (1 : Int32) = 0 by decide), ← e_x3]; exact Int32.toInt_inj.mp (by have w8 := i4_x3.1; have w9 := i4_x3.2; have e1 : (1 : Int32).toInt = 1 := rfl; omega)), li_back c1 (by decide) (fun hne p hp => by subst e_b6 e_b7; have w1 := hp.val a_b7; subst w1; exact ⟨hC, hK _ _ (Ne.symm hne) hp⟩)⟩ dX11_image_50
    · skip
      have i10_x3 : iv_R 0 0 x3 := (i_x3.cutHi (n := 0) (iv_eq_r c4 q_0).2)
      refine lv_iconst (v := 0) hx hb dX11_image_29 (by decide) ?_
      exact iv_zret X hr hlocks hB (q_0.wk (by decide)) ⟨hM, (q_0.wk (by decide)), (fun g9 r9 h9 => by have h8 := a_h0.symm.trans h9; cases h8; exact e_y5.symm.trans e_y5), ⟨fun h => absurd rfl h, fun h => h.elim (fun q => absurd c1 q) (fun q => absurd (e_x3.symm.trans c4) q)⟩, (fun g9 r9 h9 => by have h8 := a_h0.symm.trans h9; cases h8; exact (if_pos rfl).symm), li_none c1⟩ dX11_image_30
  · skip
    have i11_x_0 : iv_R 1 1 x_0 := iv_ne_lo c1 i_x_0 q_0 (by decide)
    refine lv_aload_n hx hb dX11_image_4 rfl (lv_at hl 0 rfl) ?_
    refine iv_getr X ft_X11 hB a_h0 sh_11 1 (by decide) rfl k_fl_X11_16 dX11_image_5 (fun b13 g_b13 r_b13 e_b13 a_b13 => ?_)
    refine lv_aload_n hx hb dX11_image_8 rfl (lv_at hl 0 rfl) ?_
    refine iv_getr X ft_X11 hB a_h0 sh_11 0 (by decide) rfl k_fl_X11_12 dX11_image_9 (fun b14 g_b14 r_b14 e_b14 a_b14 => ?_)
    refine iv_cVv X k_good k_mf_X5_copyFrom k_im_X5_copyFrom k_sel_X5_copyFrom k_ml_X11_369 ft_X5 hB a_b13 sh_5 (As := [.ref b14]) (e_X5_copyFrom l D tys base G b13 g_b13 r_b13 a_b13 b14 g_b14 r_b14 a_b14) ⟨rfl, rfl⟩ ⟨Nat.le_of_ble_eq_true rfl, Nat.le_of_ble_eq_true rfl⟩ ⟨Nat.le_of_ble_eq_true rfl, Nat.le_of_ble_eq_true rfl⟩ rfl rfl hl.1 (Nat.le_of_ble_eq_true rfl) dX11_image_12 (fun G9 H locs hq hB => ?_)
    have hK := hq.2.1
    have hC := hq.2.2
    have hm := hq.1
    obtain ⟨G15, hG9⟩ : ∃ g, g = G9 := ⟨_, rfl⟩
    rw [← hG9] at hm hB hK hC
    have hM := hM.stp hm (by decide)
    have a_h0 := hm.at a_h0 (by decide)
    refine lv_aload_n hx hb dX11_image_15 rfl (lv_at hl 0 rfl) ?_
    refine lv_iconst (v := 1) hx hb dX11_image_16 (by decide) ?_
    refine iv_puti X ft_X11 hB a_h0 sh_11 2 (by decide) rfl rfl k_fl_X11_372 rfl (q_1.wk (by decide)) (iv_nar (q_1.wk (by decide))) rfl dX11_image_17 (fun H locs hB => ?_)
    have hm := iv_MdO.put (x := 1) a_h0 (j := 2)
    have h9 := iv_up_eq (G := G15) (a := h0) (k := (11, upd g_h0 2 1, r_h0))
    generalize iv_up G15 h0 _ = G16 at hB hm h9
    have hK := hK.tr (iv_kp.O hm (by decide))
    have hC := hC.O hm (by decide)
    have hM := hM.stp hm (by decide)
    generalize hgn_g17 : upd g_h0 _ _ = g17 at h9
    have a_h0 := h9
    have e18 : y5 = g17 5 := by rw [← hgn_g17]; exact e_y5
    have e9_g17 : 1 = g17 2 := by rw [← hgn_g17]; simp [upd]
    refine lv_iconst (v := 1) hx hb dX11_image_20 (by decide) ?_
    exact iv_zret X hr hlocks hB (q_1.wk (by decide)) ⟨hM, (q_1.wk (by decide)), (fun g9 r9 h9 => by have h8 := a_h0.symm.trans h9; cases h8; exact e18.symm.trans e_y5), ⟨fun _ => Or.inl c1, fun _ h => absurd h (by decide)⟩, (fun g9 r9 h9 => by have h8 := a_h0.symm.trans h9; cases h8; rw [if_neg (show ¬ (1 : Int32) = 0 by decide), ← hgn_g17]; simp [upd]), li_take c1 (fun hne n hn => by subst e_b13 e_b14; have w1 := hn.val a_b14; subst w1; exact ⟨hK _ _ hne hn, hC⟩)⟩ dX11_image_21
