theorem dX6_init_0 : decode cX6_init 0 = .ok (.aload_n 0, 1) := by decide +kernel
theorem dX6_init_1 : decode cX6_init 1 = .ok (.invokespecial 5, 3) := by decide +kernel
theorem dX6_init_4 : decode cX6_init 4 = .ok (.aload_n 0, 1) := by decide +kernel
theorem dX6_init_5 : decode cX6_init 5 = .ok (.bipush 6, 2) := by decide +kernel
theorem dX6_init_7 : decode cX6_init 7 = .ok (.bipush 65, 2) := by decide +kernel
theorem dX6_init_9 : decode cX6_init 9 = .ok (.multianewarray 11 2, 4) := by decide +kernel
theorem dX6_init_13 : decode cX6_init 13 = .ok (.putfield 13, 3) := by decide +kernel
theorem dX6_init_16 : decode cX6_init 16 = .ok (.return_, 1) := by decide +kernel
set_option maxHeartbeats 8000000 in
set_option maxRecDepth 100000 in
theorem c_X6_init (l : Launch) (D : va_G) (tys : List (ClassId × FieldType)) (base : Nat) (G : iv_G) (hty : iv_ty tys) (h0 sz : Nat) (hsz : sz = h0 + 1) (hbf : base ≤ h0) (hno : G h0 = none) : Met l yX6_init (Cond.code yX6_init cX6_init 1 none :: iv_W0) ({ frames := 1, cells := 7, slots := 396, locals := 12 }) (iv_PcM iv_sh D classes tys base G sz (fun H9 => t_OB h0 (D.1 6) 3 (D.2 6) H9 (fun j => defaultValue (tyX6 j))) [.ref h0]) (iv_QvM iv_sh D classes tys base h0 (fun G' => iv_gr h0 G G' ∧ ∃ (g : Nat → Int32) (r : Nat → Nat), G' h0 = some (6, g, r))) 7 396 (iv_A h0) := by
  refine iv_headM hbf (by omega) (by decide) (Nat.le_of_ble_eq_true rfl) ?_
  intro p e s m args below meth c ls X hr hlocks hname hz hO hB hl
  have hx := X.1.1
  have hb := X.1.2.1
  have hlt : h0 < s.heap.size := by omega
  have hgr : iv_gr h0 G G := iv_gr.rf
  have hl : lv_has ls 1 [(0, .ref h0)] := hl
  refine lv_aload_n hx hb dX6_init_0 rfl (lv_at hl 0 rfl) ?_
  refine W.objInit hx hb X.1.2.2.2.1 (X.1.2.2.2.2 _ k_oi_X6) (X.1.2.2.2.2 _ k_oim) (X.1.2.2.2.2 _ k_oic) rfl (by rw [X.1.2.2.1]; exact hl.1) rfl dX6_init_1 (Nat.le_of_ble_eq_true rfl) (Nat.le_of_ble_eq_true rfl) ?_
  refine W.eq (g2 := F0 m 4 ls []) rfl ?_
  refine lv_aload_n hx hb dX6_init_4 rfl (lv_at hl 0 rfl) ?_
  refine lv_bipush (v := 6) hx hb dX6_init_5 (by decide) ?_
  refine lv_bipush (v := 65) hx hb dX6_init_7 (by decide) ?_
  have hBo := hB
  refine iv_mna X hB hty k_arr_int k_cl_X6_11 (Nat.le_of_ble_eq_true rfl) (Nat.le_of_ble_eq_true rfl) dX6_init_9 (fun q1 G1 H1 locs1 z1 y1 o1 n1 gr1 t_q1 hB => ?_)
  obtain ⟨g_q1, r_q1, t_q1⟩ := t_q1
  have hno := (gr1 h0 (by omega)).trans hno
  have hgr := hgr.tr gr1 (Nat.le_refl _) (by omega)
  have hO := hO.kept (o1 h0 (by omega))
  have hlt : h0 < H1.size := by omega
  refine iv_putF X hB ft_X6 hO hno (Nat.le_refl _) 0 (by decide) k_fl_X6_13 rfl hname rfl rfl rfl dX6_init_13 (fun H2 locs2 hO z2 o2 hB => ?_)
  have hlt : h0 < H2.size := by omega
  have hB := hB.close hno (Nat.le_refl _) (ci := 6) (cd := 6) (g := fun j => ([0, 0, 0] : List Int32).getD j 0) (rr := fun j => ([q1, 0, 0] : List Nat).getD j 0) rfl hO sh_6 (fun j hj => match j, hj with | 0, _ => rfl | 1, _ => rfl | 2, _ => rfl | n + 3, h => absurd (show n + 3 < 3 from h) (by omega)) (fun j hj => match j, hj with | 0, _ => ⟨_, t_q1, rfl⟩ | 1, _ => (iv_lit (by decide +kernel) : iv_R 0 0 (0 : Int32)).wk (by decide) | 2, _ => (iv_lit (by decide +kernel) : iv_R 0 0 (0 : Int32)).wk (by decide) | n + 3, h => absurd (show n + 3 < 3 from h) (by omega))
  refine W.widen (k := 7) (n := 396) (Nat.le_of_ble_eq_true rfl) (Nat.le_of_ble_eq_true rfl) ?_
  exact iv_vretM X hr hlocks hB ⟨hgr.tr (iv_gr.up (Nat.le_refl _)) (Nat.le_refl _) (Nat.le_refl _), _, _, iv_up_eq⟩ dX6_init_16
theorem dX11_init_0 : decode cX11_init 0 = .ok (.aload_n 0, 1) := by decide +kernel
theorem dX11_init_1 : decode cX11_init 1 = .ok (.invokespecial 3, 3) := by decide +kernel
theorem dX11_init_4 : decode cX11_init 4 = .ok (.aload_n 0, 1) := by decide +kernel
theorem dX11_init_5 : decode cX11_init 5 = .ok (.new 9, 3) := by decide +kernel
theorem dX11_init_8 : decode cX11_init 8 = .ok (.dup, 1) := by decide +kernel
theorem dX11_init_9 : decode cX11_init 9 = .ok (.invokespecial 11, 3) := by decide +kernel
theorem dX11_init_12 : decode cX11_init 12 = .ok (.putfield 12, 3) := by decide +kernel
theorem dX11_init_15 : decode cX11_init 15 = .ok (.aload_n 0, 1) := by decide +kernel
theorem dX11_init_16 : decode cX11_init 16 = .ok (.new 9, 3) := by decide +kernel
theorem dX11_init_19 : decode cX11_init 19 = .ok (.dup, 1) := by decide +kernel
theorem dX11_init_20 : decode cX11_init 20 = .ok (.invokespecial 11, 3) := by decide +kernel
theorem dX11_init_23 : decode cX11_init 23 = .ok (.putfield 16, 3) := by decide +kernel
theorem dX11_init_26 : decode cX11_init 26 = .ok (.aload_n 0, 1) := by decide +kernel
theorem dX11_init_27 : decode cX11_init 27 = .ok (.new 19, 3) := by decide +kernel
theorem dX11_init_30 : decode cX11_init 30 = .ok (.dup, 1) := by decide +kernel
theorem dX11_init_31 : decode cX11_init 31 = .ok (.invokespecial 21, 3) := by decide +kernel
theorem dX11_init_34 : decode cX11_init 34 = .ok (.putfield 22, 3) := by decide +kernel
theorem dX11_init_37 : decode cX11_init 37 = .ok (.aload_n 0, 1) := by decide +kernel
theorem dX11_init_38 : decode cX11_init 38 = .ok (.sipush 400, 3) := by decide +kernel
theorem dX11_init_41 : decode cX11_init 41 = .ok (.newarray .int, 2) := by decide +kernel
theorem dX11_init_43 : decode cX11_init 43 = .ok (.putfield 26, 3) := by decide +kernel
theorem dX11_init_46 : decode cX11_init 46 = .ok (.aload_n 0, 1) := by decide +kernel
theorem dX11_init_47 : decode cX11_init 47 = .ok (.new 30, 3) := by decide +kernel
theorem dX11_init_50 : decode cX11_init 50 = .ok (.dup, 1) := by decide +kernel
theorem dX11_init_51 : decode cX11_init 51 = .ok (.invokespecial 32, 3) := by decide +kernel
theorem dX11_init_54 : decode cX11_init 54 = .ok (.putfield 33, 3) := by decide +kernel
theorem dX11_init_57 : decode cX11_init 57 = .ok (.aload_n 0, 1) := by decide +kernel
theorem dX11_init_58 : decode cX11_init 58 = .ok (.new 37, 3) := by decide +kernel
theorem dX11_init_61 : decode cX11_init 61 = .ok (.dup, 1) := by decide +kernel
theorem dX11_init_62 : decode cX11_init 62 = .ok (.aload_n 0, 1) := by decide +kernel
theorem dX11_init_63 : decode cX11_init 63 = .ok (.getfield 12, 3) := by decide +kernel
theorem dX11_init_66 : decode cX11_init 66 = .ok (.invokespecial 39, 3) := by decide +kernel
theorem dX11_init_69 : decode cX11_init 69 = .ok (.putfield 42, 3) := by decide +kernel
theorem dX11_init_72 : decode cX11_init 72 = .ok (.aload_n 0, 1) := by decide +kernel
theorem dX11_init_73 : decode cX11_init 73 = .ok (.new 46, 3) := by decide +kernel
theorem dX11_init_76 : decode cX11_init 76 = .ok (.dup, 1) := by decide +kernel
theorem dX11_init_77 : decode cX11_init 77 = .ok (.aload_n 0, 1) := by decide +kernel
theorem dX11_init_78 : decode cX11_init 78 = .ok (.getfield 12, 3) := by decide +kernel
theorem dX11_init_81 : decode cX11_init 81 = .ok (.aload_n 0, 1) := by decide +kernel
theorem dX11_init_82 : decode cX11_init 82 = .ok (.getfield 42, 3) := by decide +kernel
theorem dX11_init_85 : decode cX11_init 85 = .ok (.invokespecial 48, 3) := by decide +kernel
theorem dX11_init_88 : decode cX11_init 88 = .ok (.putfield 51, 3) := by decide +kernel
theorem dX11_init_91 : decode cX11_init 91 = .ok (.aload_n 0, 1) := by decide +kernel
theorem dX11_init_92 : decode cX11_init 92 = .ok (.new 55, 3) := by decide +kernel
theorem dX11_init_95 : decode cX11_init 95 = .ok (.dup, 1) := by decide +kernel
theorem dX11_init_96 : decode cX11_init 96 = .ok (.aload_n 0, 1) := by decide +kernel
theorem dX11_init_97 : decode cX11_init 97 = .ok (.getfield 12, 3) := by decide +kernel
theorem dX11_init_100 : decode cX11_init 100 = .ok (.invokespecial 57, 3) := by decide +kernel
theorem dX11_init_103 : decode cX11_init 103 = .ok (.putfield 58, 3) := by decide +kernel
theorem dX11_init_106 : decode cX11_init 106 = .ok (.aload_n 0, 1) := by decide +kernel
theorem dX11_init_107 : decode cX11_init 107 = .ok (.new 62, 3) := by decide +kernel
theorem dX11_init_110 : decode cX11_init 110 = .ok (.dup, 1) := by decide +kernel
theorem dX11_init_111 : decode cX11_init 111 = .ok (.aload_n 0, 1) := by decide +kernel
theorem dX11_init_112 : decode cX11_init 112 = .ok (.getfield 12, 3) := by decide +kernel
theorem dX11_init_115 : decode cX11_init 115 = .ok (.invokespecial 64, 3) := by decide +kernel
theorem dX11_init_118 : decode cX11_init 118 = .ok (.putfield 65, 3) := by decide +kernel
theorem dX11_init_121 : decode cX11_init 121 = .ok (.aload_n 0, 1) := by decide +kernel
theorem dX11_init_122 : decode cX11_init 122 = .ok (.bipush 10, 2) := by decide +kernel
theorem dX11_init_124 : decode cX11_init 124 = .ok (.newarray .int, 2) := by decide +kernel
theorem dX11_init_126 : decode cX11_init 126 = .ok (.putfield 69, 3) := by decide +kernel
theorem dX11_init_129 : decode cX11_init 129 = .ok (.return_, 1) := by decide +kernel
set_option maxHeartbeats 8000000 in
set_option maxRecDepth 100000 in
theorem c_X11_init (l : Launch) (D : va_G) (tys : List (ClassId × FieldType)) (base : Nat) (G : iv_G) (hty : iv_ty tys) (h0 sz : Nat) (hsz : sz = h0 + 1) (hbf : base ≤ h0) (hno : G h0 = none) : Met l yX11_init (Cond.code yX11_init cX11_init 1 none :: iv_W0) ({ frames := 5, cells := 102, slots := 10017, locals := 150 }) (iv_PcM iv_sh D classes tys base G sz (fun H9 => t_OB h0 (D.1 11) 12 (D.2 11) H9 (fun j => defaultValue (tyX11 j))) [.ref h0]) (iv_QvM iv_sh D classes tys base h0 (fun G' => iv_gr h0 G G' ∧ ∃ (g : Nat → Int32) (r : Nat → Nat), G' h0 = some (11, g, r) ∧ g 5 = 0 ∧ g 2 = 0 ∧ r 0 ≠ r 1 ∧ iv_kc 5 1 (r 0) 0 G' ∧ iv_kc 5 1 (r 1) 0 G' ∧ iv_kc 7 6 (r 6) 0 G' ∧ iv_kc 7 7 (r 6) (-1) G')) 102 10017 (iv_A h0) := by
  refine iv_headM hbf (by omega) (by decide) (Nat.le_of_ble_eq_true rfl) ?_
  intro p e s m args below meth c ls X hr hlocks hname hz hO hB hl
  have hx := X.1.1
  have hb := X.1.2.1
  have hlt : h0 < s.heap.size := by omega
  have hgr : iv_gr h0 G G := iv_gr.rf
  have hl : lv_has ls 1 [(0, .ref h0)] := hl
  refine lv_aload_n hx hb dX11_init_0 rfl (lv_at hl 0 rfl) ?_
  refine W.objInit hx hb X.1.2.2.2.1 (X.1.2.2.2.2 _ k_oi_X11) (X.1.2.2.2.2 _ k_oim) (X.1.2.2.2.2 _ k_oic) rfl (by rw [X.1.2.2.1]; exact hl.1) rfl dX11_init_1 (Nat.le_of_ble_eq_true rfl) (Nat.le_of_ble_eq_true rfl) ?_
  refine W.eq (g2 := F0 m 4 ls []) rfl ?_
  refine lv_aload_n hx hb dX11_init_4 rfl (lv_at hl 0 rfl) ?_
  refine iv_newo X hB ft_X5 k_cl_X11_9 k_it_X5 k_ii_X5 (Nat.le_of_ble_eq_true rfl) (Nat.le_of_ble_eq_true rfl) dX11_init_5 (fun q1 H1 z1 y1 o1 hOq n1 hB => ?_)
  have hO := hO.kept (o1 h0 (by omega))
  have hlt : h0 < H1.size := by omega
  refine lv_dup hx hb dX11_init_8 rfl ?_
  have hBo := hB
  refine iv_cI X k_good k_mf_X5_init rfl k_im_X5_init (Or.inl k_ml_X11_11) hB (show h0 ≤ q1 by omega) (O := fun H9 => t_OB q1 (D.1 5) 15 (D.2 5) H9 (fun j => defaultValue (tyX5 j))) hOq rfl (As := []) (c_X5_init l D tys base G hty q1 _ (show H1.size = q1 + 1 by omega) (by omega) n1) ⟨rfl, rfl⟩ ⟨Nat.le_of_ble_eq_true rfl, Nat.le_of_ble_eq_true rfl⟩ ⟨Nat.le_of_ble_eq_true rfl, Nat.le_of_ble_eq_true rfl⟩ rfl rfl hl.1 (Nat.le_of_ble_eq_true rfl) dX11_init_9 (fun G2 H2 locs2 hw z2 hk hB => ?_)
  obtain ⟨gr2, g_q1, r_q1, t_q1, p_q1⟩ := hw
  have hno := (gr2 h0 (by omega)).trans hno
  have hgr := hgr.tr gr2 (Nat.le_refl _) (by omega)
  have hO := hO.kept (hk h0 (by omega) (by omega))
  have hlt : h0 < H2.size := by omega
  refine iv_putF X hB ft_X11 hO hno (Nat.le_refl _) 0 (by decide) k_fl_X11_12 rfl hname rfl rfl rfl dX11_init_12 (fun H3 locs3 hO z3 o3 hB => ?_)
  have hlt : h0 < H3.size := by omega
  refine lv_aload_n hx hb dX11_init_15 rfl (lv_at hl 0 rfl) ?_
  refine iv_newo X hB ft_X5 k_cl_X11_9 k_it_X5 k_ii_X5 (Nat.le_of_ble_eq_true rfl) (Nat.le_of_ble_eq_true rfl) dX11_init_16 (fun q4 H4 z4 y4 o4 hOq n4 hB => ?_)
  have hO := hO.kept (o4 h0 (by omega))
  have hlt : h0 < H4.size := by omega
  refine lv_dup hx hb dX11_init_19 rfl ?_
  have hBo := hB
  refine iv_cI X k_good k_mf_X5_init rfl k_im_X5_init (Or.inl k_ml_X11_11) hB (show h0 ≤ q4 by omega) (O := fun H9 => t_OB q4 (D.1 5) 15 (D.2 5) H9 (fun j => defaultValue (tyX5 j))) hOq rfl (As := []) (c_X5_init l D tys base G2 hty q4 _ (show H4.size = q4 + 1 by omega) (by omega) n4) ⟨rfl, rfl⟩ ⟨Nat.le_of_ble_eq_true rfl, Nat.le_of_ble_eq_true rfl⟩ ⟨Nat.le_of_ble_eq_true rfl, Nat.le_of_ble_eq_true rfl⟩ rfl rfl hl.1 (Nat.le_of_ble_eq_true rfl) dX11_init_20 (fun G5 H5 locs5 hw z5 hk hB => ?_)
  obtain ⟨gr5, g_q4, r_q4, t_q4, p_q4⟩ := hw
  have t_q1 := gr5.kp hBo.1 (by omega) n4 t_q1
  have hno := (gr5 h0 (by omega)).trans hno
  have hgr := hgr.tr gr5 (Nat.le_refl _) (by omega)
  have hO := hO.kept (hk h0 (by omega) (by omega))
  have hlt : h0 < H5.size := by omega
  refine iv_putF X hB ft_X11 hO hno (Nat.le_refl _) 1 (by decide) k_fl_X11_16 rfl hname rfl rfl rfl dX11_init_23 (fun H6 locs6 hO z6 o6 hB => ?_)
  have hlt : h0 < H6.size := by omega
  refine lv_aload_n hx hb dX11_init_26 rfl (lv_at hl 0 rfl) ?_
  refine iv_newo X hB ft_X6 k_cl_X11_19 k_it_X6 k_ii_X6 (Nat.le_of_ble_eq_true rfl) (Nat.le_of_ble_eq_true rfl) dX11_init_27 (fun q7 H7 z7 y7 o7 hOq n7 hB => ?_)
  have hO := hO.kept (o7 h0 (by omega))
  have hlt : h0 < H7.size := by omega
  refine lv_dup hx hb dX11_init_30 rfl ?_
  have hBo := hB
  refine iv_cI X k_good k_mf_X6_init rfl k_im_X6_init (Or.inr ⟨_, k_mn_X11_21 X.2.2⟩) hB (show h0 ≤ q7 by omega) (O := fun H9 => t_OB q7 (D.1 6) 3 (D.2 6) H9 (fun j => defaultValue (tyX6 j))) hOq rfl (As := []) (c_X6_init l D tys base G5 hty q7 _ (show H7.size = q7 + 1 by omega) (by omega) n7) ⟨rfl, rfl⟩ ⟨Nat.le_of_ble_eq_true rfl, Nat.le_of_ble_eq_true rfl⟩ ⟨Nat.le_of_ble_eq_true rfl, Nat.le_of_ble_eq_true rfl⟩ rfl rfl hl.1 (Nat.le_of_ble_eq_true rfl) dX11_init_31 (fun G8 H8 locs8 hw z8 hk hB => ?_)
  obtain ⟨gr8, g_q7, r_q7, t_q7⟩ := hw
  have t_q1 := gr8.kp hBo.1 (by omega) n7 t_q1
  have t_q4 := gr8.kp hBo.1 (by omega) n7 t_q4
  have hno := (gr8 h0 (by omega)).trans hno
  have hgr := hgr.tr gr8 (Nat.le_refl _) (by omega)
  have hO := hO.kept (hk h0 (by omega) (by omega))
  have hlt : h0 < H8.size := by omega
  refine iv_putF X hB ft_X11 hO hno (Nat.le_refl _) 3 (by decide) k_fl_X11_22 rfl hname rfl rfl rfl dX11_init_34 (fun H9 locs9 hO z9 o9 hB => ?_)
  have hlt : h0 < H9.size := by omega
  refine lv_aload_n hx hb dX11_init_37 rfl (lv_at hl 0 rfl) ?_
  refine lv_sipush (v := 400) hx hb dX11_init_38 (by decide) ?_
  have hBo := hB
  refine iv_newa X hB hty k_arr_int (cd := 45) (N := 400) sh_45 (iv_E.zr (by decide)) (by decide +kernel) (by decide +kernel) (by decide) (Nat.le_of_ble_eq_true rfl) (Nat.le_of_ble_eq_true rfl) dX11_init_41 (fun q10 H10 z10 y10 o10 n10 hB => ?_)
  have gr10 : iv_gr q10 G8 (iv_up G8 q10 (45, fun _ => 0, fun _ => 0)) := iv_gr.up (Nat.le_refl _)
  have t_q10 : iv_up G8 q10 (45, fun _ => 0, fun _ => 0) q10 = some (45, fun _ => 0, fun _ => 0) := iv_up_eq
  generalize eG10 : iv_up G8 q10 (45, fun _ => 0, fun _ => 0) = G10 at hB gr10 t_q10
  have t_q1 := gr10.kp hBo.1 (by omega) n10 t_q1
  have t_q4 := gr10.kp hBo.1 (by omega) n10 t_q4
  have t_q7 := gr10.kp hBo.1 (by omega) n10 t_q7
  have hno := (gr10 h0 (by omega)).trans hno
  have hgr := hgr.tr gr10 (Nat.le_refl _) (by omega)
  have hO := hO.kept (o10 h0 (by omega))
  have hlt : h0 < H10.size := by omega
  refine iv_putF X hB ft_X11 hO hno (Nat.le_refl _) 4 (by decide) k_fl_X11_26 rfl hname rfl rfl rfl dX11_init_43 (fun H11 locs11 hO z11 o11 hB => ?_)
  have hlt : h0 < H11.size := by omega
  refine lv_aload_n hx hb dX11_init_46 rfl (lv_at hl 0 rfl) ?_
  refine iv_newo X hB ft_X7 k_cl_X11_30 k_it_X7 k_ii_X7 (Nat.le_of_ble_eq_true rfl) (Nat.le_of_ble_eq_true rfl) dX11_init_47 (fun q12 H12 z12 y12 o12 hOq n12 hB => ?_)
  have hO := hO.kept (o12 h0 (by omega))
  have hlt : h0 < H12.size := by omega
  refine lv_dup hx hb dX11_init_50 rfl ?_
  have hBo := hB
  refine iv_cI X k_good k_mf_X7_init rfl k_im_X7_init (Or.inr ⟨_, k_mn_X11_32 X.2.2⟩) hB (show h0 ≤ q12 by omega) (O := fun H9 => t_OB q12 (D.1 7) 15 (D.2 7) H9 (fun j => defaultValue (tyX7 j))) hOq rfl (As := []) (c_X7_init l D tys base G10 hty q12 _ (show H12.size = q12 + 1 by omega) (by omega) n12) ⟨rfl, rfl⟩ ⟨Nat.le_of_ble_eq_true rfl, Nat.le_of_ble_eq_true rfl⟩ ⟨Nat.le_of_ble_eq_true rfl, Nat.le_of_ble_eq_true rfl⟩ rfl rfl hl.1 (Nat.le_of_ble_eq_true rfl) dX11_init_51 (fun G13 H13 locs13 hw z13 hk hB => ?_)
  obtain ⟨gr13, g_q12, r_q12, t_q12, p_q12⟩ := hw
  have t_q1 := gr13.kp hBo.1 (by omega) n12 t_q1
  have t_q4 := gr13.kp hBo.1 (by omega) n12 t_q4
  have t_q7 := gr13.kp hBo.1 (by omega) n12 t_q7
  have t_q10 := gr13.kp hBo.1 (by omega) n12 t_q10
  have hno := (gr13 h0 (by omega)).trans hno
  have hgr := hgr.tr gr13 (Nat.le_refl _) (by omega)
  have hO := hO.kept (hk h0 (by omega) (by omega))
  have hlt : h0 < H13.size := by omega
  refine iv_putF X hB ft_X11 hO hno (Nat.le_refl _) 6 (by decide) k_fl_X11_33 rfl hname rfl rfl rfl dX11_init_54 (fun H14 locs14 hO z14 o14 hB => ?_)
  have hlt : h0 < H14.size := by omega
  refine lv_aload_n hx hb dX11_init_57 rfl (lv_at hl 0 rfl) ?_
  refine iv_newo X hB ft_X2 k_cl_X11_37 k_it_X2 k_ii_X2 (Nat.le_of_ble_eq_true rfl) (Nat.le_of_ble_eq_true rfl) dX11_init_58 (fun q15 H15 z15 y15 o15 hOq n15 hB => ?_)
  have hO := hO.kept (o15 h0 (by omega))
  have hlt : h0 < H15.size := by omega
  refine lv_dup hx hb dX11_init_61 rfl ?_
  refine lv_aload_n hx hb dX11_init_62 rfl (lv_at hl 0 rfl) ?_
  refine iv_getU X ft_X11 hO 0 (by decide) (v := .ref q1) rfl k_fl_X11_12 dX11_init_63 ?_
  have hBo := hB
  refine iv_cI X k_good k_mf_X2_init rfl k_im_X2_init (Or.inl k_ml_X11_39) hB (show h0 ≤ q15 by omega) (O := fun H9 => t_OB q15 (D.1 2) 2 (D.2 2) H9 (fun j => defaultValue (tyX2 j))) hOq rfl (As := [.ref q1]) (c_X2_init l D tys base G13 hty q15 _ (show H15.size = q15 + 1 by omega) (by omega) n15 q1 _ _ t_q1) ⟨rfl, rfl⟩ ⟨Nat.le_of_ble_eq_true rfl, Nat.le_of_ble_eq_true rfl⟩ ⟨Nat.le_of_ble_eq_true rfl, Nat.le_of_ble_eq_true rfl⟩ rfl rfl hl.1 (Nat.le_of_ble_eq_true rfl) dX11_init_66 (fun G16 H16 locs16 hw z16 hk hB => ?_)
  obtain ⟨gr16, g_q15, r_q15, t_q15⟩ := hw
  have t_q1 := gr16.kp hBo.1 (by omega) n15 t_q1
  have t_q4 := gr16.kp hBo.1 (by omega) n15 t_q4
  have t_q7 := gr16.kp hBo.1 (by omega) n15 t_q7
  have t_q10 := gr16.kp hBo.1 (by omega) n15 t_q10
  have t_q12 := gr16.kp hBo.1 (by omega) n15 t_q12
  have hno := (gr16 h0 (by omega)).trans hno
  have hgr := hgr.tr gr16 (Nat.le_refl _) (by omega)
  have hO := hO.kept (hk h0 (by omega) (by omega))
  have hlt : h0 < H16.size := by omega
  refine iv_putF X hB ft_X11 hO hno (Nat.le_refl _) 7 (by decide) k_fl_X11_42 rfl hname rfl rfl rfl dX11_init_69 (fun H17 locs17 hO z17 o17 hB => ?_)
  have hlt : h0 < H17.size := by omega
  refine lv_aload_n hx hb dX11_init_72 rfl (lv_at hl 0 rfl) ?_
  refine iv_newo X hB ft_X0 k_cl_X11_46 k_it_X0 k_ii_X0 (Nat.le_of_ble_eq_true rfl) (Nat.le_of_ble_eq_true rfl) dX11_init_73 (fun q18 H18 z18 y18 o18 hOq n18 hB => ?_)
  have hO := hO.kept (o18 h0 (by omega))
  have hlt : h0 < H18.size := by omega
  refine lv_dup hx hb dX11_init_76 rfl ?_
  refine lv_aload_n hx hb dX11_init_77 rfl (lv_at hl 0 rfl) ?_
  refine iv_getU X ft_X11 hO 0 (by decide) (v := .ref q1) rfl k_fl_X11_12 dX11_init_78 ?_
  refine lv_aload_n hx hb dX11_init_81 rfl (lv_at hl 0 rfl) ?_
  refine iv_getU X ft_X11 hO 7 (by decide) (v := .ref q15) rfl k_fl_X11_42 dX11_init_82 ?_
  have hBo := hB
  refine iv_cI X k_good k_mf_X0_init rfl k_im_X0_init (Or.inl k_ml_X11_48) hB (show h0 ≤ q18 by omega) (O := fun H9 => t_OB q18 (D.1 0) 2 (D.2 0) H9 (fun j => defaultValue (tyX0 j))) hOq rfl (As := [.ref q1, .ref q15]) (c_X0_init l D tys base G16 hty q18 _ (show H18.size = q18 + 1 by omega) (by omega) n18 q1 _ _ t_q1 q15 _ _ t_q15) ⟨rfl, rfl⟩ ⟨Nat.le_of_ble_eq_true rfl, Nat.le_of_ble_eq_true rfl⟩ ⟨Nat.le_of_ble_eq_true rfl, Nat.le_of_ble_eq_true rfl⟩ rfl rfl hl.1 (Nat.le_of_ble_eq_true rfl) dX11_init_85 (fun G19 H19 locs19 hw z19 hk hB => ?_)
  obtain ⟨gr19, g_q18, r_q18, t_q18⟩ := hw
  have t_q1 := gr19.kp hBo.1 (by omega) n18 t_q1
  have t_q4 := gr19.kp hBo.1 (by omega) n18 t_q4
  have t_q7 := gr19.kp hBo.1 (by omega) n18 t_q7
  have t_q10 := gr19.kp hBo.1 (by omega) n18 t_q10
  have t_q12 := gr19.kp hBo.1 (by omega) n18 t_q12
  have t_q15 := gr19.kp hBo.1 (by omega) n18 t_q15
  have hno := (gr19 h0 (by omega)).trans hno
  have hgr := hgr.tr gr19 (Nat.le_refl _) (by omega)
  have hO := hO.kept (hk h0 (by omega) (by omega))
  have hlt : h0 < H19.size := by omega
  refine iv_putF X hB ft_X11 hO hno (Nat.le_refl _) 8 (by decide) k_fl_X11_51 rfl hname rfl rfl rfl dX11_init_88 (fun H20 locs20 hO z20 o20 hB => ?_)
  have hlt : h0 < H20.size := by omega
  refine lv_aload_n hx hb dX11_init_91 rfl (lv_at hl 0 rfl) ?_
  refine iv_newo X hB ft_X9 k_cl_X11_55 k_it_X9 k_ii_X9 (Nat.le_of_ble_eq_true rfl) (Nat.le_of_ble_eq_true rfl) dX11_init_92 (fun q21 H21 z21 y21 o21 hOq n21 hB => ?_)
  have hO := hO.kept (o21 h0 (by omega))
  have hlt : h0 < H21.size := by omega
  refine lv_dup hx hb dX11_init_95 rfl ?_
  refine lv_aload_n hx hb dX11_init_96 rfl (lv_at hl 0 rfl) ?_
  refine iv_getU X ft_X11 hO 0 (by decide) (v := .ref q1) rfl k_fl_X11_12 dX11_init_97 ?_
  have hBo := hB
  refine iv_cI X k_good k_mf_X9_init rfl k_im_X9_init (Or.inl k_ml_X11_57) hB (show h0 ≤ q21 by omega) (O := fun H9 => t_OB q21 (D.1 9) 2 (D.2 9) H9 (fun j => defaultValue (tyX9 j))) hOq rfl (As := [.ref q1]) (c_X9_init l D tys base G19 hty q21 _ (show H21.size = q21 + 1 by omega) (by omega) n21 q1 _ _ t_q1) ⟨rfl, rfl⟩ ⟨Nat.le_of_ble_eq_true rfl, Nat.le_of_ble_eq_true rfl⟩ ⟨Nat.le_of_ble_eq_true rfl, Nat.le_of_ble_eq_true rfl⟩ rfl rfl hl.1 (Nat.le_of_ble_eq_true rfl) dX11_init_100 (fun G22 H22 locs22 hw z22 hk hB => ?_)
  obtain ⟨gr22, g_q21, r_q21, t_q21⟩ := hw
  have t_q1 := gr22.kp hBo.1 (by omega) n21 t_q1
  have t_q4 := gr22.kp hBo.1 (by omega) n21 t_q4
  have t_q7 := gr22.kp hBo.1 (by omega) n21 t_q7
  have t_q10 := gr22.kp hBo.1 (by omega) n21 t_q10
  have t_q12 := gr22.kp hBo.1 (by omega) n21 t_q12
  have t_q15 := gr22.kp hBo.1 (by omega) n21 t_q15
  have t_q18 := gr22.kp hBo.1 (by omega) n21 t_q18
  have hno := (gr22 h0 (by omega)).trans hno
  have hgr := hgr.tr gr22 (Nat.le_refl _) (by omega)
  have hO := hO.kept (hk h0 (by omega) (by omega))
  have hlt : h0 < H22.size := by omega
  refine iv_putF X hB ft_X11 hO hno (Nat.le_refl _) 9 (by decide) k_fl_X11_58 rfl hname rfl rfl rfl dX11_init_103 (fun H23 locs23 hO z23 o23 hB => ?_)
  have hlt : h0 < H23.size := by omega
  refine lv_aload_n hx hb dX11_init_106 rfl (lv_at hl 0 rfl) ?_
  refine iv_newo X hB ft_X4 k_cl_X11_62 k_it_X4 k_ii_X4 (Nat.le_of_ble_eq_true rfl) (Nat.le_of_ble_eq_true rfl) dX11_init_107 (fun q24 H24 z24 y24 o24 hOq n24 hB => ?_)
  have hO := hO.kept (o24 h0 (by omega))
  have hlt : h0 < H24.size := by omega
  refine lv_dup hx hb dX11_init_110 rfl ?_
  refine lv_aload_n hx hb dX11_init_111 rfl (lv_at hl 0 rfl) ?_
  refine iv_getU X ft_X11 hO 0 (by decide) (v := .ref q1) rfl k_fl_X11_12 dX11_init_112 ?_
  have hBo := hB
  refine iv_cI X k_good k_mf_X4_init rfl k_im_X4_init (Or.inl k_ml_X11_64) hB (show h0 ≤ q24 by omega) (O := fun H9 => t_OB q24 (D.1 4) 5 (D.2 4) H9 (fun j => defaultValue (tyX4 j))) hOq rfl (As := [.ref q1]) (c_X4_init l D tys base G22 hty q24 _ (show H24.size = q24 + 1 by omega) (by omega) n24 q1 _ _ t_q1) ⟨rfl, rfl⟩ ⟨Nat.le_of_ble_eq_true rfl, Nat.le_of_ble_eq_true rfl⟩ ⟨Nat.le_of_ble_eq_true rfl, Nat.le_of_ble_eq_true rfl⟩ rfl rfl hl.1 (Nat.le_of_ble_eq_true rfl) dX11_init_115 (fun G25 H25 locs25 hw z25 hk hB => ?_)
  obtain ⟨gr25, g_q24, r_q24, t_q24⟩ := hw
  have t_q1 := gr25.kp hBo.1 (by omega) n24 t_q1
  have t_q4 := gr25.kp hBo.1 (by omega) n24 t_q4
  have t_q7 := gr25.kp hBo.1 (by omega) n24 t_q7
  have t_q10 := gr25.kp hBo.1 (by omega) n24 t_q10
  have t_q12 := gr25.kp hBo.1 (by omega) n24 t_q12
  have t_q15 := gr25.kp hBo.1 (by omega) n24 t_q15
  have t_q18 := gr25.kp hBo.1 (by omega) n24 t_q18
  have t_q21 := gr25.kp hBo.1 (by omega) n24 t_q21
  have hno := (gr25 h0 (by omega)).trans hno
  have hgr := hgr.tr gr25 (Nat.le_refl _) (by omega)
  have hO := hO.kept (hk h0 (by omega) (by omega))
  have hlt : h0 < H25.size := by omega
  refine iv_putF X hB ft_X11 hO hno (Nat.le_refl _) 10 (by decide) k_fl_X11_65 rfl hname rfl rfl rfl dX11_init_118 (fun H26 locs26 hO z26 o26 hB => ?_)
  have hlt : h0 < H26.size := by omega
  refine lv_aload_n hx hb dX11_init_121 rfl (lv_at hl 0 rfl) ?_
  refine lv_bipush (v := 10) hx hb dX11_init_122 (by decide) ?_
  have hBo := hB
  refine iv_newa X hB hty k_arr_int (cd := 46) (N := 10) sh_46 (iv_E.zr (by decide)) (by decide +kernel) (by decide +kernel) (by decide) (Nat.le_of_ble_eq_true rfl) (Nat.le_of_ble_eq_true rfl) dX11_init_124 (fun q27 H27 z27 y27 o27 n27 hB => ?_)
  have gr27 : iv_gr q27 G25 (iv_up G25 q27 (46, fun _ => 0, fun _ => 0)) := iv_gr.up (Nat.le_refl _)
  have t_q27 : iv_up G25 q27 (46, fun _ => 0, fun _ => 0) q27 = some (46, fun _ => 0, fun _ => 0) := iv_up_eq
  generalize eG27 : iv_up G25 q27 (46, fun _ => 0, fun _ => 0) = G27 at hB gr27 t_q27
  have t_q1 := gr27.kp hBo.1 (by omega) n27 t_q1
  have t_q4 := gr27.kp hBo.1 (by omega) n27 t_q4
  have t_q7 := gr27.kp hBo.1 (by omega) n27 t_q7
  have t_q10 := gr27.kp hBo.1 (by omega) n27 t_q10
  have t_q12 := gr27.kp hBo.1 (by omega) n27 t_q12
  have t_q15 := gr27.kp hBo.1 (by omega) n27 t_q15
  have t_q18 := gr27.kp hBo.1 (by omega) n27 t_q18
  have t_q21 := gr27.kp hBo.1 (by omega) n27 t_q21
  have t_q24 := gr27.kp hBo.1 (by omega) n27 t_q24
  have hno := (gr27 h0 (by omega)).trans hno
  have hgr := hgr.tr gr27 (Nat.le_refl _) (by omega)
  have hO := hO.kept (o27 h0 (by omega))
  have hlt : h0 < H27.size := by omega
  refine iv_putF X hB ft_X11 hO hno (Nat.le_refl _) 11 (by decide) k_fl_X11_69 rfl hname rfl rfl rfl dX11_init_126 (fun H28 locs28 hO z28 o28 hB => ?_)
  have hlt : h0 < H28.size := by omega
  have hB := hB.close hno (Nat.le_refl _) (ci := 11) (cd := 11) (g := fun j => ([0, 0, 0, 0, 0, 0, 0, 0, 0, 0, 0, 0] : List Int32).getD j 0) (rr := fun j => ([q1, q4, 0, q7, q10, 0, q12, q15, q18, q21, q24, q27] : List Nat).getD j 0) rfl hO sh_11 (fun j hj => match j, hj with | 0, _ => rfl | 1, _ => rfl | 2, _ => rfl | 3, _ => rfl | 4, _ => rfl | 5, _ => rfl | 6, _ => rfl | 7, _ => rfl | 8, _ => rfl | 9, _ => rfl | 10, _ => rfl | 11, _ => rfl | n + 12, h => absurd (show n + 12 < 12 from h) (by omega)) (fun j hj => match j, hj with | 0, _ => ⟨_, t_q1, rfl⟩ | 1, _ => ⟨_, t_q4, rfl⟩ | 2, _ => (iv_lit (by decide +kernel) : iv_R 0 0 (0 : Int32)).wk (by decide) | 3, _ => ⟨_, t_q7, rfl⟩ | 4, _ => ⟨_, t_q10, rfl⟩ | 5, _ => (iv_lit (by decide +kernel) : iv_R 0 0 (0 : Int32)).wk (by decide) | 6, _ => ⟨_, t_q12, rfl⟩ | 7, _ => ⟨_, t_q15, rfl⟩ | 8, _ => ⟨_, t_q18, rfl⟩ | 9, _ => ⟨_, t_q21, rfl⟩ | 10, _ => ⟨_, t_q24, rfl⟩ | 11, _ => ⟨_, t_q27, rfl⟩ | n + 12, h => absurd (show n + 12 < 12 from h) (by omega))
  refine W.widen (k := 102) (n := 10017) (Nat.le_of_ble_eq_true rfl) (Nat.le_of_ble_eq_true rfl) ?_
  exact iv_vretM X hr hlocks hB ⟨hgr.tr (iv_gr.up (Nat.le_refl _)) (Nat.le_refl _) (Nat.le_refl _), _, _, iv_up_eq, rfl, rfl, (show q1 ≠ q4 by omega), ⟨_, _, (iv_up_ne (show q1 ≠ h0 by omega)).trans t_q1, p_q1⟩, ⟨_, _, (iv_up_ne (show q4 ≠ h0 by omega)).trans t_q4, p_q4⟩, ⟨_, _, (iv_up_ne (show q12 ≠ h0 by omega)).trans t_q12, p_q12.1⟩, ⟨_, _, (iv_up_ne (show q12 ≠ h0 by omega)).trans t_q12, p_q12.2⟩⟩ dX11_init_129
theorem dX12_init_0 : decode cX12_init 0 = .ok (.aload_n 0, 1) := by decide +kernel
theorem dX12_init_1 : decode cX12_init 1 = .ok (.invokespecial 1, 3) := by decide +kernel
theorem dX12_init_4 : decode cX12_init 4 = .ok (.aload_n 0, 1) := by decide +kernel
theorem dX12_init_5 : decode cX12_init 5 = .ok (.sipush 2514, 3) := by decide +kernel
theorem dX12_init_8 : decode cX12_init 8 = .ok (.newarray .int, 2) := by decide +kernel
theorem dX12_init_10 : decode cX12_init 10 = .ok (.putfield 7, 3) := by decide +kernel
theorem dX12_init_13 : decode cX12_init 13 = .ok (.aload_n 0, 1) := by decide +kernel
theorem dX12_init_14 : decode cX12_init 14 = .ok (.sipush 2514, 3) := by decide +kernel
theorem dX12_init_17 : decode cX12_init 17 = .ok (.newarray .int, 2) := by decide +kernel
theorem dX12_init_19 : decode cX12_init 19 = .ok (.putfield 13, 3) := by decide +kernel
theorem dX12_init_22 : decode cX12_init 22 = .ok (.aload_n 0, 1) := by decide +kernel
theorem dX12_init_23 : decode cX12_init 23 = .ok (.sipush 876, 3) := by decide +kernel
theorem dX12_init_26 : decode cX12_init 26 = .ok (.newarray .int, 2) := by decide +kernel
theorem dX12_init_28 : decode cX12_init 28 = .ok (.putfield 16, 3) := by decide +kernel
theorem dX12_init_31 : decode cX12_init 31 = .ok (.aload_n 0, 1) := by decide +kernel
theorem dX12_init_32 : decode cX12_init 32 = .ok (.bipush 64, 2) := by decide +kernel
theorem dX12_init_34 : decode cX12_init 34 = .ok (.newarray .int, 2) := by decide +kernel
theorem dX12_init_36 : decode cX12_init 36 = .ok (.putfield 19, 3) := by decide +kernel
theorem dX12_init_39 : decode cX12_init 39 = .ok (.aload_n 0, 1) := by decide +kernel
theorem dX12_init_40 : decode cX12_init 40 = .ok (.sipush 820, 3) := by decide +kernel
theorem dX12_init_43 : decode cX12_init 43 = .ok (.newarray .int, 2) := by decide +kernel
theorem dX12_init_45 : decode cX12_init 45 = .ok (.putfield 22, 3) := by decide +kernel
theorem dX12_init_48 : decode cX12_init 48 = .ok (.aload_n 0, 1) := by decide +kernel
theorem dX12_init_49 : decode cX12_init 49 = .ok (.bipush 60, 2) := by decide +kernel
theorem dX12_init_51 : decode cX12_init 51 = .ok (.newarray .int, 2) := by decide +kernel
theorem dX12_init_53 : decode cX12_init 53 = .ok (.putfield 25, 3) := by decide +kernel
theorem dX12_init_56 : decode cX12_init 56 = .ok (.aload_n 0, 1) := by decide +kernel
theorem dX12_init_57 : decode cX12_init 57 = .ok (.sipush 400, 3) := by decide +kernel
theorem dX12_init_60 : decode cX12_init 60 = .ok (.newarray .int, 2) := by decide +kernel
theorem dX12_init_62 : decode cX12_init 62 = .ok (.putfield 28, 3) := by decide +kernel
theorem dX12_init_65 : decode cX12_init 65 = .ok (.aload_n 0, 1) := by decide +kernel
theorem dX12_init_66 : decode cX12_init 66 = .ok (.sipush 420, 3) := by decide +kernel
theorem dX12_init_69 : decode cX12_init 69 = .ok (.newarray .int, 2) := by decide +kernel
theorem dX12_init_71 : decode cX12_init 71 = .ok (.putfield 31, 3) := by decide +kernel
theorem dX12_init_74 : decode cX12_init 74 = .ok (.aload_n 0, 1) := by decide +kernel
theorem dX12_init_75 : decode cX12_init 75 = .ok (.bipush 12, 2) := by decide +kernel
theorem dX12_init_77 : decode cX12_init 77 = .ok (.newarray .int, 2) := by decide +kernel
theorem dX12_init_79 : decode cX12_init 79 = .ok (.putfield 34, 3) := by decide +kernel
theorem dX12_init_82 : decode cX12_init 82 = .ok (.aload_n 0, 1) := by decide +kernel
theorem dX12_init_83 : decode cX12_init 83 = .ok (.iconst (-1), 1) := by decide +kernel
theorem dX12_init_84 : decode cX12_init 84 = .ok (.putfield 37, 3) := by decide +kernel
theorem dX12_init_87 : decode cX12_init 87 = .ok (.aload_n 0, 1) := by decide +kernel
theorem dX12_init_88 : decode cX12_init 88 = .ok (.bipush 10, 2) := by decide +kernel
theorem dX12_init_90 : decode cX12_init 90 = .ok (.newarray .int, 2) := by decide +kernel
theorem dX12_init_92 : decode cX12_init 92 = .ok (.putfield 41, 3) := by decide +kernel
theorem dX12_init_95 : decode cX12_init 95 = .ok (.aload_n 0, 1) := by decide +kernel
theorem dX12_init_96 : decode cX12_init 96 = .ok (.bipush 10, 2) := by decide +kernel
theorem dX12_init_98 : decode cX12_init 98 = .ok (.newarray .int, 2) := by decide +kernel
theorem dX12_init_100 : decode cX12_init 100 = .ok (.putfield 44, 3) := by decide +kernel
theorem dX12_init_103 : decode cX12_init 103 = .ok (.aload_n 0, 1) := by decide +kernel
theorem dX12_init_104 : decode cX12_init 104 = .ok (.bipush 20, 2) := by decide +kernel
theorem dX12_init_106 : decode cX12_init 106 = .ok (.newarray .int, 2) := by decide +kernel
theorem dX12_init_108 : decode cX12_init 108 = .ok (.putfield 47, 3) := by decide +kernel
theorem dX12_init_111 : decode cX12_init 111 = .ok (.aload_n 0, 1) := by decide +kernel
theorem dX12_init_112 : decode cX12_init 112 = .ok (.bipush 8, 2) := by decide +kernel
theorem dX12_init_114 : decode cX12_init 114 = .ok (.newarray .int, 2) := by decide +kernel
theorem dX12_init_116 : decode cX12_init 116 = .ok (.putfield 50, 3) := by decide +kernel
theorem dX12_init_119 : decode cX12_init 119 = .ok (.aload_n 0, 1) := by decide +kernel
theorem dX12_init_120 : decode cX12_init 120 = .ok (.sipush 2304, 3) := by decide +kernel
theorem dX12_init_123 : decode cX12_init 123 = .ok (.newarray .int, 2) := by decide +kernel
theorem dX12_init_125 : decode cX12_init 125 = .ok (.putfield 53, 3) := by decide +kernel
theorem dX12_init_128 : decode cX12_init 128 = .ok (.aload_n 0, 1) := by decide +kernel
theorem dX12_init_129 : decode cX12_init 129 = .ok (.getfield 7, 3) := by decide +kernel
theorem dX12_init_132 : decode cX12_init 132 = .ok (.sipush 147, 3) := by decide +kernel
theorem dX12_init_135 : decode cX12_init 135 = .ok (.iconst 2, 1) := by decide +kernel
theorem dX12_init_136 : decode cX12_init 136 = .ok (.iastore, 1) := by decide +kernel
theorem dX12_init_137 : decode cX12_init 137 = .ok (.return_, 1) := by decide +kernel
set_option maxHeartbeats 8000000 in
set_option maxRecDepth 100000 in
theorem c_X12_init (l : Launch) (D : va_G) (tys : List (ClassId × FieldType)) (base : Nat) (G : iv_G) (hty : iv_ty tys) (h0 sz : Nat) (hsz : sz = h0 + 1) (hbf : base ≤ h0) (hno : G h0 = none) : Met l yX12_init (Cond.code yX12_init cX12_init 1 none :: iv_W0) ({ frames := 1, cells := 14, slots := 10032, locals := 12 }) (iv_PcM iv_sh D classes tys base G sz (fun H9 => t_OB h0 (D.1 12) 32 (D.2 12) H9 (fun j => defaultValue (tyX12 j))) [.ref h0]) (iv_QvM iv_sh D classes tys base h0 (fun G' => iv_gr h0 G G' ∧ ∃ (g : Nat → Int32) (r : Nat → Nat), G' h0 = some (12, g, r) ∧ g 15 = 0 ∧ g 4 = 0 ∧ r 0 ≠ r 1 ∧ iv_kc 60 146 (r 0) 0 G' ∧ iv_kc 60 146 (r 1) 0 G' ∧ g 22 = 0 ∧ g 24 = -1)) 14 10032 (iv_A h0) := by
  refine iv_headM hbf (by omega) (by decide) (Nat.le_of_ble_eq_true rfl) ?_
  intro p e s m args below meth c ls X hr hlocks hname hz hO hB hl
  have hx := X.1.1
  have hb := X.1.2.1
  have hlt : h0 < s.heap.size := by omega
  have hgr : iv_gr h0 G G := iv_gr.rf
  have hl : lv_has ls 1 [(0, .ref h0)] := hl
  refine lv_aload_n hx hb dX12_init_0 rfl (lv_at hl 0 rfl) ?_
  refine W.objInit hx hb X.1.2.2.2.1 (X.1.2.2.2.2 _ k_oi_X12) (X.1.2.2.2.2 _ k_oim) (X.1.2.2.2.2 _ k_oic) rfl (by rw [X.1.2.2.1]; exact hl.1) rfl dX12_init_1 (Nat.le_of_ble_eq_true rfl) (Nat.le_of_ble_eq_true rfl) ?_
  refine W.eq (g2 := F0 m 4 ls []) rfl ?_
  refine lv_aload_n hx hb dX12_init_4 rfl (lv_at hl 0 rfl) ?_
  refine lv_sipush (v := 2514) hx hb dX12_init_5 (by decide) ?_
  have hBo := hB
  refine iv_newa X hB hty k_arr_int (cd := 60) (N := 2514) sh_60 iv_wP.zr (by decide +kernel) (by decide +kernel) (by decide) (Nat.le_of_ble_eq_true rfl) (Nat.le_of_ble_eq_true rfl) dX12_init_8 (fun q1 H1 z1 y1 o1 n1 hB => ?_)
  have gr1 : iv_gr q1 G (iv_up G q1 (60, fun _ => 0, fun _ => 0)) := iv_gr.up (Nat.le_refl _)
  have t_q1 : iv_up G q1 (60, fun _ => 0, fun _ => 0) q1 = some (60, fun _ => 0, fun _ => 0) := iv_up_eq
  generalize eG1 : iv_up G q1 (60, fun _ => 0, fun _ => 0) = G1 at hB gr1 t_q1
  have hno := (gr1 h0 (by omega)).trans hno
  have hgr := hgr.tr gr1 (Nat.le_refl _) (by omega)
  have hO := hO.kept (o1 h0 (by omega))
  have hlt : h0 < H1.size := by omega
  refine iv_putF X hB ft_X12 hO hno (Nat.le_refl _) 0 (by decide) k_fl_X12_7 rfl hname rfl rfl rfl dX12_init_10 (fun H2 locs2 hO z2 o2 hB => ?_)
  have hlt : h0 < H2.size := by omega
  refine lv_aload_n hx hb dX12_init_13 rfl (lv_at hl 0 rfl) ?_
  refine lv_sipush (v := 2514) hx hb dX12_init_14 (by decide) ?_
  have hBo := hB
  refine iv_newa X hB hty k_arr_int (cd := 60) (N := 2514) sh_60 iv_wP.zr (by decide +kernel) (by decide +kernel) (by decide) (Nat.le_of_ble_eq_true rfl) (Nat.le_of_ble_eq_true rfl) dX12_init_17 (fun q3 H3 z3 y3 o3 n3 hB => ?_)
  have gr3 : iv_gr q3 G1 (iv_up G1 q3 (60, fun _ => 0, fun _ => 0)) := iv_gr.up (Nat.le_refl _)
  have t_q3 : iv_up G1 q3 (60, fun _ => 0, fun _ => 0) q3 = some (60, fun _ => 0, fun _ => 0) := iv_up_eq
  generalize eG3 : iv_up G1 q3 (60, fun _ => 0, fun _ => 0) = G3 at hB gr3 t_q3
  have t_q1 := gr3.kp hBo.1 (by omega) n3 t_q1
  have hno := (gr3 h0 (by omega)).trans hno
  have hgr := hgr.tr gr3 (Nat.le_refl _) (by omega)
  have hO := hO.kept (o3 h0 (by omega))
  have hlt : h0 < H3.size := by omega
  refine iv_putF X hB ft_X12 hO hno (Nat.le_refl _) 1 (by decide) k_fl_X12_13 rfl hname rfl rfl rfl dX12_init_19 (fun H4 locs4 hO z4 o4 hB => ?_)
  have hlt : h0 < H4.size := by omega
  refine lv_aload_n hx hb dX12_init_22 rfl (lv_at hl 0 rfl) ?_
  refine lv_sipush (v := 876) hx hb dX12_init_23 (by decide) ?_
  have hBo := hB
  refine iv_newa X hB hty k_arr_int (cd := 62) (N := 876) sh_62 iv_kP.zr (by decide +kernel) (by decide +kernel) (by decide) (Nat.le_of_ble_eq_true rfl) (Nat.le_of_ble_eq_true rfl) dX12_init_26 (fun q5 H5 z5 y5 o5 n5 hB => ?_)
  have gr5 : iv_gr q5 G3 (iv_up G3 q5 (62, fun _ => 0, fun _ => 0)) := iv_gr.up (Nat.le_refl _)
  have t_q5 : iv_up G3 q5 (62, fun _ => 0, fun _ => 0) q5 = some (62, fun _ => 0, fun _ => 0) := iv_up_eq
  generalize eG5 : iv_up G3 q5 (62, fun _ => 0, fun _ => 0) = G5 at hB gr5 t_q5
  have t_q1 := gr5.kp hBo.1 (by omega) n5 t_q1
  have t_q3 := gr5.kp hBo.1 (by omega) n5 t_q3
  have hno := (gr5 h0 (by omega)).trans hno
  have hgr := hgr.tr gr5 (Nat.le_refl _) (by omega)
  have hO := hO.kept (o5 h0 (by omega))
  have hlt : h0 < H5.size := by omega
  refine iv_putF X hB ft_X12 hO hno (Nat.le_refl _) 2 (by decide) k_fl_X12_16 rfl hname rfl rfl rfl dX12_init_28 (fun H6 locs6 hO z6 o6 hB => ?_)
  have hlt : h0 < H6.size := by omega
  refine lv_aload_n hx hb dX12_init_31 rfl (lv_at hl 0 rfl) ?_
  refine lv_bipush (v := 64) hx hb dX12_init_32 (by decide) ?_
  have hBo := hB
  refine iv_newa X hB hty k_arr_int (cd := 63) (N := 64) sh_63 (iv_E.zr (by decide)) (by decide +kernel) (by decide +kernel) (by decide) (Nat.le_of_ble_eq_true rfl) (Nat.le_of_ble_eq_true rfl) dX12_init_34 (fun q7 H7 z7 y7 o7 n7 hB => ?_)
  have gr7 : iv_gr q7 G5 (iv_up G5 q7 (63, fun _ => 0, fun _ => 0)) := iv_gr.up (Nat.le_refl _)
  have t_q7 : iv_up G5 q7 (63, fun _ => 0, fun _ => 0) q7 = some (63, fun _ => 0, fun _ => 0) := iv_up_eq
  generalize eG7 : iv_up G5 q7 (63, fun _ => 0, fun _ => 0) = G7 at hB gr7 t_q7
  have t_q1 := gr7.kp hBo.1 (by omega) n7 t_q1
  have t_q3 := gr7.kp hBo.1 (by omega) n7 t_q3
  have t_q5 := gr7.kp hBo.1 (by omega) n7 t_q5
  have hno := (gr7 h0 (by omega)).trans hno
  have hgr := hgr.tr gr7 (Nat.le_refl _) (by omega)
  have hO := hO.kept (o7 h0 (by omega))
  have hlt : h0 < H7.size := by omega
  refine iv_putF X hB ft_X12 hO hno (Nat.le_refl _) 5 (by decide) k_fl_X12_19 rfl hname rfl rfl rfl dX12_init_36 (fun H8 locs8 hO z8 o8 hB => ?_)
  have hlt : h0 < H8.size := by omega
  refine lv_aload_n hx hb dX12_init_39 rfl (lv_at hl 0 rfl) ?_
  refine lv_sipush (v := 820) hx hb dX12_init_40 (by decide) ?_
  have hBo := hB
  refine iv_newa X hB hty k_arr_int (cd := 64) (N := 820) sh_64 (iv_E.zr (by decide)) (by decide +kernel) (by decide +kernel) (by decide) (Nat.le_of_ble_eq_true rfl) (Nat.le_of_ble_eq_true rfl) dX12_init_43 (fun q9 H9 z9 y9 o9 n9 hB => ?_)
  have gr9 : iv_gr q9 G7 (iv_up G7 q9 (64, fun _ => 0, fun _ => 0)) := iv_gr.up (Nat.le_refl _)
  have t_q9 : iv_up G7 q9 (64, fun _ => 0, fun _ => 0) q9 = some (64, fun _ => 0, fun _ => 0) := iv_up_eq
  generalize eG9 : iv_up G7 q9 (64, fun _ => 0, fun _ => 0) = G9 at hB gr9 t_q9
  have t_q1 := gr9.kp hBo.1 (by omega) n9 t_q1
  have t_q3 := gr9.kp hBo.1 (by omega) n9 t_q3
  have t_q5 := gr9.kp hBo.1 (by omega) n9 t_q5
  have t_q7 := gr9.kp hBo.1 (by omega) n9 t_q7
  have hno := (gr9 h0 (by omega)).trans hno
  have hgr := hgr.tr gr9 (Nat.le_refl _) (by omega)
  have hO := hO.kept (o9 h0 (by omega))
  have hlt : h0 < H9.size := by omega
  refine iv_putF X hB ft_X12 hO hno (Nat.le_refl _) 6 (by decide) k_fl_X12_22 rfl hname rfl rfl rfl dX12_init_45 (fun H10 locs10 hO z10 o10 hB => ?_)
  have hlt : h0 < H10.size := by omega
  refine lv_aload_n hx hb dX12_init_48 rfl (lv_at hl 0 rfl) ?_
  refine lv_bipush (v := 60) hx hb dX12_init_49 (by decide) ?_
  have hBo := hB
  refine iv_newa X hB hty k_arr_int (cd := 65) (N := 60) sh_65 (iv_E.zr (by decide)) (by decide +kernel) (by decide +kernel) (by decide) (Nat.le_of_ble_eq_true rfl) (Nat.le_of_ble_eq_true rfl) dX12_init_51 (fun q11 H11 z11 y11 o11 n11 hB => ?_)
  have gr11 : iv_gr q11 G9 (iv_up G9 q11 (65, fun _ => 0, fun _ => 0)) := iv_gr.up (Nat.le_refl _)
  have t_q11 : iv_up G9 q11 (65, fun _ => 0, fun _ => 0) q11 = some (65, fun _ => 0, fun _ => 0) := iv_up_eq
  generalize eG11 : iv_up G9 q11 (65, fun _ => 0, fun _ => 0) = G11 at hB gr11 t_q11
  have t_q1 := gr11.kp hBo.1 (by omega) n11 t_q1
  have t_q3 := gr11.kp hBo.1 (by omega) n11 t_q3
  have t_q5 := gr11.kp hBo.1 (by omega) n11 t_q5
  have t_q7 := gr11.kp hBo.1 (by omega) n11 t_q7
  have t_q9 := gr11.kp hBo.1 (by omega) n11 t_q9
  have hno := (gr11 h0 (by omega)).trans hno
  have hgr := hgr.tr gr11 (Nat.le_refl _) (by omega)
  have hO := hO.kept (o11 h0 (by omega))
  have hlt : h0 < H11.size := by omega
  refine iv_putF X hB ft_X12 hO hno (Nat.le_refl _) 7 (by decide) k_fl_X12_25 rfl hname rfl rfl rfl dX12_init_53 (fun H12 locs12 hO z12 o12 hB => ?_)
  have hlt : h0 < H12.size := by omega
  refine lv_aload_n hx hb dX12_init_56 rfl (lv_at hl 0 rfl) ?_
  refine lv_sipush (v := 400) hx hb dX12_init_57 (by decide) ?_
  have hBo := hB
  refine iv_newa X hB hty k_arr_int (cd := 66) (N := 400) sh_66 (iv_E.zr (by decide)) (by decide +kernel) (by decide +kernel) (by decide) (Nat.le_of_ble_eq_true rfl) (Nat.le_of_ble_eq_true rfl) dX12_init_60 (fun q13 H13 z13 y13 o13 n13 hB => ?_)
  have gr13 : iv_gr q13 G11 (iv_up G11 q13 (66, fun _ => 0, fun _ => 0)) := iv_gr.up (Nat.le_refl _)
  have t_q13 : iv_up G11 q13 (66, fun _ => 0, fun _ => 0) q13 = some (66, fun _ => 0, fun _ => 0) := iv_up_eq
  generalize eG13 : iv_up G11 q13 (66, fun _ => 0, fun _ => 0) = G13 at hB gr13 t_q13
  have t_q1 := gr13.kp hBo.1 (by omega) n13 t_q1
  have t_q3 := gr13.kp hBo.1 (by omega) n13 t_q3
  have t_q5 := gr13.kp hBo.1 (by omega) n13 t_q5
  have t_q7 := gr13.kp hBo.1 (by omega) n13 t_q7
  have t_q9 := gr13.kp hBo.1 (by omega) n13 t_q9
  have t_q11 := gr13.kp hBo.1 (by omega) n13 t_q11
  have hno := (gr13 h0 (by omega)).trans hno
  have hgr := hgr.tr gr13 (Nat.le_refl _) (by omega)
  have hO := hO.kept (o13 h0 (by omega))
  have hlt : h0 < H13.size := by omega
  refine iv_putF X hB ft_X12 hO hno (Nat.le_refl _) 8 (by decide) k_fl_X12_28 rfl hname rfl rfl rfl dX12_init_62 (fun H14 locs14 hO z14 o14 hB => ?_)
  have hlt : h0 < H14.size := by omega
  refine lv_aload_n hx hb dX12_init_65 rfl (lv_at hl 0 rfl) ?_
  refine lv_sipush (v := 420) hx hb dX12_init_66 (by decide) ?_
  have hBo := hB
  refine iv_newa X hB hty k_arr_int (cd := 67) (N := 420) sh_67 (iv_E.zr (by decide)) (by decide +kernel) (by decide +kernel) (by decide) (Nat.le_of_ble_eq_true rfl) (Nat.le_of_ble_eq_true rfl) dX12_init_69 (fun q15 H15 z15 y15 o15 n15 hB => ?_)
  have gr15 : iv_gr q15 G13 (iv_up G13 q15 (67, fun _ => 0, fun _ => 0)) := iv_gr.up (Nat.le_refl _)
  have t_q15 : iv_up G13 q15 (67, fun _ => 0, fun _ => 0) q15 = some (67, fun _ => 0, fun _ => 0) := iv_up_eq
  generalize eG15 : iv_up G13 q15 (67, fun _ => 0, fun _ => 0) = G15 at hB gr15 t_q15
  have t_q1 := gr15.kp hBo.1 (by omega) n15 t_q1
  have t_q3 := gr15.kp hBo.1 (by omega) n15 t_q3
  have t_q5 := gr15.kp hBo.1 (by omega) n15 t_q5
  have t_q7 := gr15.kp hBo.1 (by omega) n15 t_q7
  have t_q9 := gr15.kp hBo.1 (by omega) n15 t_q9
  have t_q11 := gr15.kp hBo.1 (by omega) n15 t_q11
  have t_q13 := gr15.kp hBo.1 (by omega) n15 t_q13
  have hno := (gr15 h0 (by omega)).trans hno
  have hgr := hgr.tr gr15 (Nat.le_refl _) (by omega)
  have hO := hO.kept (o15 h0 (by omega))
  have hlt : h0 < H15.size := by omega
  refine iv_putF X hB ft_X12 hO hno (Nat.le_refl _) 9 (by decide) k_fl_X12_31 rfl hname rfl rfl rfl dX12_init_71 (fun H16 locs16 hO z16 o16 hB => ?_)
  have hlt : h0 < H16.size := by omega
  refine lv_aload_n hx hb dX12_init_74 rfl (lv_at hl 0 rfl) ?_
  refine lv_bipush (v := 12) hx hb dX12_init_75 (by decide) ?_
  have hBo := hB
  refine iv_newa X hB hty k_arr_int (cd := 68) (N := 12) sh_68 (iv_E.zr (by decide)) (by decide +kernel) (by decide +kernel) (by decide) (Nat.le_of_ble_eq_true rfl) (Nat.le_of_ble_eq_true rfl) dX12_init_77 (fun q17 H17 z17 y17 o17 n17 hB => ?_)
  have gr17 : iv_gr q17 G15 (iv_up G15 q17 (68, fun _ => 0, fun _ => 0)) := iv_gr.up (Nat.le_refl _)
  have t_q17 : iv_up G15 q17 (68, fun _ => 0, fun _ => 0) q17 = some (68, fun _ => 0, fun _ => 0) := iv_up_eq
  generalize eG17 : iv_up G15 q17 (68, fun _ => 0, fun _ => 0) = G17 at hB gr17 t_q17
  have t_q1 := gr17.kp hBo.1 (by omega) n17 t_q1
  have t_q3 := gr17.kp hBo.1 (by omega) n17 t_q3
  have t_q5 := gr17.kp hBo.1 (by omega) n17 t_q5
  have t_q7 := gr17.kp hBo.1 (by omega) n17 t_q7
  have t_q9 := gr17.kp hBo.1 (by omega) n17 t_q9
  have t_q11 := gr17.kp hBo.1 (by omega) n17 t_q11
  have t_q13 := gr17.kp hBo.1 (by omega) n17 t_q13
  have t_q15 := gr17.kp hBo.1 (by omega) n17 t_q15
  have hno := (gr17 h0 (by omega)).trans hno
  have hgr := hgr.tr gr17 (Nat.le_refl _) (by omega)
  have hO := hO.kept (o17 h0 (by omega))
  have hlt : h0 < H17.size := by omega
  refine iv_putF X hB ft_X12 hO hno (Nat.le_refl _) 10 (by decide) k_fl_X12_34 rfl hname rfl rfl rfl dX12_init_79 (fun H18 locs18 hO z18 o18 hB => ?_)
  have hlt : h0 < H18.size := by omega
  refine lv_aload_n hx hb dX12_init_82 rfl (lv_at hl 0 rfl) ?_
  refine lv_iconst (v := (-1)) hx hb dX12_init_83 (by decide) ?_
  refine iv_putU X hB ft_X12 hO hno (Nat.le_refl _) 24 (by decide) k_fl_X12_37 rfl rfl rfl dX12_init_84 (fun H19 locs19 hO z19 o19 hB => ?_)
  have hlt : h0 < H19.size := by omega
  refine lv_aload_n hx hb dX12_init_87 rfl (lv_at hl 0 rfl) ?_
  refine lv_bipush (v := 10) hx hb dX12_init_88 (by decide) ?_
  have hBo := hB
  refine iv_newa X hB hty k_arr_int (cd := 69) (N := 10) sh_69 (iv_E.zr (by decide)) (by decide +kernel) (by decide +kernel) (by decide) (Nat.le_of_ble_eq_true rfl) (Nat.le_of_ble_eq_true rfl) dX12_init_90 (fun q20 H20 z20 y20 o20 n20 hB => ?_)
  have gr20 : iv_gr q20 G17 (iv_up G17 q20 (69, fun _ => 0, fun _ => 0)) := iv_gr.up (Nat.le_refl _)
  have t_q20 : iv_up G17 q20 (69, fun _ => 0, fun _ => 0) q20 = some (69, fun _ => 0, fun _ => 0) := iv_up_eq
  generalize eG20 : iv_up G17 q20 (69, fun _ => 0, fun _ => 0) = G20 at hB gr20 t_q20
  have t_q1 := gr20.kp hBo.1 (by omega) n20 t_q1
  have t_q3 := gr20.kp hBo.1 (by omega) n20 t_q3
  have t_q5 := gr20.kp hBo.1 (by omega) n20 t_q5
  have t_q7 := gr20.kp hBo.1 (by omega) n20 t_q7
  have t_q9 := gr20.kp hBo.1 (by omega) n20 t_q9
  have t_q11 := gr20.kp hBo.1 (by omega) n20 t_q11
  have t_q13 := gr20.kp hBo.1 (by omega) n20 t_q13
  have t_q15 := gr20.kp hBo.1 (by omega) n20 t_q15
  have t_q17 := gr20.kp hBo.1 (by omega) n20 t_q17
  have hno := (gr20 h0 (by omega)).trans hno
  have hgr := hgr.tr gr20 (Nat.le_refl _) (by omega)
  have hO := hO.kept (o20 h0 (by omega))
  have hlt : h0 < H20.size := by omega
  refine iv_putF X hB ft_X12 hO hno (Nat.le_refl _) 26 (by decide) k_fl_X12_41 rfl hname rfl rfl rfl dX12_init_92 (fun H21 locs21 hO z21 o21 hB => ?_)
  have hlt : h0 < H21.size := by omega
  refine lv_aload_n hx hb dX12_init_95 rfl (lv_at hl 0 rfl) ?_
  refine lv_bipush (v := 10) hx hb dX12_init_96 (by decide) ?_
  have hBo := hB
  refine iv_newa X hB hty k_arr_int (cd := 70) (N := 10) sh_70 (iv_E.zr (by decide)) (by decide +kernel) (by decide +kernel) (by decide) (Nat.le_of_ble_eq_true rfl) (Nat.le_of_ble_eq_true rfl) dX12_init_98 (fun q22 H22 z22 y22 o22 n22 hB => ?_)
  have gr22 : iv_gr q22 G20 (iv_up G20 q22 (70, fun _ => 0, fun _ => 0)) := iv_gr.up (Nat.le_refl _)
  have t_q22 : iv_up G20 q22 (70, fun _ => 0, fun _ => 0) q22 = some (70, fun _ => 0, fun _ => 0) := iv_up_eq
  generalize eG22 : iv_up G20 q22 (70, fun _ => 0, fun _ => 0) = G22 at hB gr22 t_q22
  have t_q1 := gr22.kp hBo.1 (by omega) n22 t_q1
  have t_q3 := gr22.kp hBo.1 (by omega) n22 t_q3
  have t_q5 := gr22.kp hBo.1 (by omega) n22 t_q5
  have t_q7 := gr22.kp hBo.1 (by omega) n22 t_q7
  have t_q9 := gr22.kp hBo.1 (by omega) n22 t_q9
  have t_q11 := gr22.kp hBo.1 (by omega) n22 t_q11
  have t_q13 := gr22.kp hBo.1 (by omega) n22 t_q13
  have t_q15 := gr22.kp hBo.1 (by omega) n22 t_q15
  have t_q17 := gr22.kp hBo.1 (by omega) n22 t_q17
  have t_q20 := gr22.kp hBo.1 (by omega) n22 t_q20
  have hno := (gr22 h0 (by omega)).trans hno
  have hgr := hgr.tr gr22 (Nat.le_refl _) (by omega)
  have hO := hO.kept (o22 h0 (by omega))
  have hlt : h0 < H22.size := by omega
  refine iv_putF X hB ft_X12 hO hno (Nat.le_refl _) 27 (by decide) k_fl_X12_44 rfl hname rfl rfl rfl dX12_init_100 (fun H23 locs23 hO z23 o23 hB => ?_)
  have hlt : h0 < H23.size := by omega
  refine lv_aload_n hx hb dX12_init_103 rfl (lv_at hl 0 rfl) ?_
  refine lv_bipush (v := 20) hx hb dX12_init_104 (by decide) ?_
  have hBo := hB
  refine iv_newa X hB hty k_arr_int (cd := 71) (N := 20) sh_71 (iv_E.zr (by decide)) (by decide +kernel) (by decide +kernel) (by decide) (Nat.le_of_ble_eq_true rfl) (Nat.le_of_ble_eq_true rfl) dX12_init_106 (fun q24 H24 z24 y24 o24 n24 hB => ?_)
  have gr24 : iv_gr q24 G22 (iv_up G22 q24 (71, fun _ => 0, fun _ => 0)) := iv_gr.up (Nat.le_refl _)
  have t_q24 : iv_up G22 q24 (71, fun _ => 0, fun _ => 0) q24 = some (71, fun _ => 0, fun _ => 0) := iv_up_eq
  generalize eG24 : iv_up G22 q24 (71, fun _ => 0, fun _ => 0) = G24 at hB gr24 t_q24
  have t_q1 := gr24.kp hBo.1 (by omega) n24 t_q1
  have t_q3 := gr24.kp hBo.1 (by omega) n24 t_q3
  have t_q5 := gr24.kp hBo.1 (by omega) n24 t_q5
  have t_q7 := gr24.kp hBo.1 (by omega) n24 t_q7
  have t_q9 := gr24.kp hBo.1 (by omega) n24 t_q9
  have t_q11 := gr24.kp hBo.1 (by omega) n24 t_q11
  have t_q13 := gr24.kp hBo.1 (by omega) n24 t_q13
  have t_q15 := gr24.kp hBo.1 (by omega) n24 t_q15
  have t_q17 := gr24.kp hBo.1 (by omega) n24 t_q17
  have t_q20 := gr24.kp hBo.1 (by omega) n24 t_q20
  have t_q22 := gr24.kp hBo.1 (by omega) n24 t_q22
  have hno := (gr24 h0 (by omega)).trans hno
  have hgr := hgr.tr gr24 (Nat.le_refl _) (by omega)
  have hO := hO.kept (o24 h0 (by omega))
  have hlt : h0 < H24.size := by omega
  refine iv_putF X hB ft_X12 hO hno (Nat.le_refl _) 28 (by decide) k_fl_X12_47 rfl hname rfl rfl rfl dX12_init_108 (fun H25 locs25 hO z25 o25 hB => ?_)
  have hlt : h0 < H25.size := by omega
  refine lv_aload_n hx hb dX12_init_111 rfl (lv_at hl 0 rfl) ?_
  refine lv_bipush (v := 8) hx hb dX12_init_112 (by decide) ?_
  have hBo := hB
  refine iv_newa X hB hty k_arr_int (cd := 72) (N := 8) sh_72 (iv_E.zr (by decide)) (by decide +kernel) (by decide +kernel) (by decide) (Nat.le_of_ble_eq_true rfl) (Nat.le_of_ble_eq_true rfl) dX12_init_114 (fun q26 H26 z26 y26 o26 n26 hB => ?_)
  have gr26 : iv_gr q26 G24 (iv_up G24 q26 (72, fun _ => 0, fun _ => 0)) := iv_gr.up (Nat.le_refl _)
  have t_q26 : iv_up G24 q26 (72, fun _ => 0, fun _ => 0) q26 = some (72, fun _ => 0, fun _ => 0) := iv_up_eq
  generalize eG26 : iv_up G24 q26 (72, fun _ => 0, fun _ => 0) = G26 at hB gr26 t_q26
  have t_q1 := gr26.kp hBo.1 (by omega) n26 t_q1
  have t_q3 := gr26.kp hBo.1 (by omega) n26 t_q3
  have t_q5 := gr26.kp hBo.1 (by omega) n26 t_q5
  have t_q7 := gr26.kp hBo.1 (by omega) n26 t_q7
  have t_q9 := gr26.kp hBo.1 (by omega) n26 t_q9
  have t_q11 := gr26.kp hBo.1 (by omega) n26 t_q11
  have t_q13 := gr26.kp hBo.1 (by omega) n26 t_q13
  have t_q15 := gr26.kp hBo.1 (by omega) n26 t_q15
  have t_q17 := gr26.kp hBo.1 (by omega) n26 t_q17
  have t_q20 := gr26.kp hBo.1 (by omega) n26 t_q20
  have t_q22 := gr26.kp hBo.1 (by omega) n26 t_q22
  have t_q24 := gr26.kp hBo.1 (by omega) n26 t_q24
  have hno := (gr26 h0 (by omega)).trans hno
  have hgr := hgr.tr gr26 (Nat.le_refl _) (by omega)
  have hO := hO.kept (o26 h0 (by omega))
  have hlt : h0 < H26.size := by omega
  refine iv_putF X hB ft_X12 hO hno (Nat.le_refl _) 29 (by decide) k_fl_X12_50 rfl hname rfl rfl rfl dX12_init_116 (fun H27 locs27 hO z27 o27 hB => ?_)
  have hlt : h0 < H27.size := by omega
  refine lv_aload_n hx hb dX12_init_119 rfl (lv_at hl 0 rfl) ?_
  refine lv_sipush (v := 2304) hx hb dX12_init_120 (by decide) ?_
  have hBo := hB
  refine iv_newa X hB hty k_arr_int (cd := 73) (N := 2304) sh_73 (iv_E.zr (by decide)) (by decide +kernel) (by decide +kernel) (by decide) (Nat.le_of_ble_eq_true rfl) (Nat.le_of_ble_eq_true rfl) dX12_init_123 (fun q28 H28 z28 y28 o28 n28 hB => ?_)
  have gr28 : iv_gr q28 G26 (iv_up G26 q28 (73, fun _ => 0, fun _ => 0)) := iv_gr.up (Nat.le_refl _)
  have t_q28 : iv_up G26 q28 (73, fun _ => 0, fun _ => 0) q28 = some (73, fun _ => 0, fun _ => 0) := iv_up_eq
  generalize eG28 : iv_up G26 q28 (73, fun _ => 0, fun _ => 0) = G28 at hB gr28 t_q28
  have t_q1 := gr28.kp hBo.1 (by omega) n28 t_q1
  have t_q3 := gr28.kp hBo.1 (by omega) n28 t_q3
  have t_q5 := gr28.kp hBo.1 (by omega) n28 t_q5
  have t_q7 := gr28.kp hBo.1 (by omega) n28 t_q7
  have t_q9 := gr28.kp hBo.1 (by omega) n28 t_q9
  have t_q11 := gr28.kp hBo.1 (by omega) n28 t_q11
  have t_q13 := gr28.kp hBo.1 (by omega) n28 t_q13
  have t_q15 := gr28.kp hBo.1 (by omega) n28 t_q15
  have t_q17 := gr28.kp hBo.1 (by omega) n28 t_q17
  have t_q20 := gr28.kp hBo.1 (by omega) n28 t_q20
  have t_q22 := gr28.kp hBo.1 (by omega) n28 t_q22
  have t_q24 := gr28.kp hBo.1 (by omega) n28 t_q24
  have t_q26 := gr28.kp hBo.1 (by omega) n28 t_q26
  have hno := (gr28 h0 (by omega)).trans hno
  have hgr := hgr.tr gr28 (Nat.le_refl _) (by omega)
  have hO := hO.kept (o28 h0 (by omega))
  have hlt : h0 < H28.size := by omega
  refine iv_putF X hB ft_X12 hO hno (Nat.le_refl _) 30 (by decide) k_fl_X12_53 rfl hname rfl rfl rfl dX12_init_125 (fun H29 locs29 hO z29 o29 hB => ?_)
  have hlt : h0 < H29.size := by omega
  refine lv_aload_n hx hb dX12_init_128 rfl (lv_at hl 0 rfl) ?_
  refine iv_getU X ft_X12 hO 0 (by decide) (v := .ref q1) rfl k_fl_X12_7 dX12_init_129 ?_
  refine lv_sipush (v := 147) hx hb dX12_init_132 (by decide) ?_
  refine lv_iconst (v := 2) hx hb dX12_init_135 (by decide) ?_
  have hBo := hB
  refine iv_astM X hB t_q1 (by omega) sh_60 (iv_in (q_147) (by decide)) (fun h9 => h9.up (by decide) (by decide) (by decide) (iv_R.all _)) dX12_init_136 (fun H30 locs30 z30 o30 hB => ?_)
  have hO := hO.kept (o30 h0 (by omega))
  have hlt : h0 < H30.size := by omega
  obtain ⟨G31, eG31⟩ : ∃ G9, G9 = iv_up G28 q1 (60, upd (fun _ => 0) (Int32.toNatClampNeg 147) 2, fun _ => 0) := ⟨_, rfl⟩
  rw [← eG31] at hB
  have gA31 : ∀ x, x ≠ q1 → G31 x = G28 x := fun x h9 => by rw [eG31]; exact iv_up_ne h9
  have t_q3 := (gA31 q3 (by omega)).trans t_q3
  have t_q5 := (gA31 q5 (by omega)).trans t_q5
  have t_q7 := (gA31 q7 (by omega)).trans t_q7
  have t_q9 := (gA31 q9 (by omega)).trans t_q9
  have t_q11 := (gA31 q11 (by omega)).trans t_q11
  have t_q13 := (gA31 q13 (by omega)).trans t_q13
  have t_q15 := (gA31 q15 (by omega)).trans t_q15
  have t_q17 := (gA31 q17 (by omega)).trans t_q17
  have t_q20 := (gA31 q20 (by omega)).trans t_q20
  have t_q22 := (gA31 q22 (by omega)).trans t_q22
  have t_q24 := (gA31 q24 (by omega)).trans t_q24
  have t_q26 := (gA31 q26 (by omega)).trans t_q26
  have t_q28 := (gA31 q28 (by omega)).trans t_q28
  have hno := (gA31 h0 (by omega)).trans hno
  have hgr := hgr.tr (show iv_gr h0 G28 G31 from fun x h9 => gA31 x (by omega)) (Nat.le_refl _) (Nat.le_refl _)
  have t_q1 : G31 q1 = some (60, upd (fun _ => 0) (Int32.toNatClampNeg 147) 2, fun _ => 0) := by rw [eG31]; exact iv_up_eq
  have hB := hB.close hno (Nat.le_refl _) (ci := 12) (cd := 12) (g := fun j => ([0, 0, 0, 0, 0, 0, 0, 0, 0, 0, 0, 0, 0, 0, 0, 0, 0, 0, 0, 0, 0, 0, 0, 0, (-1), 0, 0, 0, 0, 0, 0, 0] : List Int32).getD j 0) (rr := fun j => ([q1, q3, q5, 0, 0, q7, q9, q11, q13, q15, q17, 0, 0, 0, 0, 0, 0, 0, 0, 0, 0, 0, 0, 0, 0, 0, q20, q22, q24, q26, q28, 0] : List Nat).getD j 0) rfl hO sh_12 (fun j hj => match j, hj with | 0, _ => rfl | 1, _ => rfl | 2, _ => rfl | 3, _ => rfl | 4, _ => rfl | 5, _ => rfl | 6, _ => rfl | 7, _ => rfl | 8, _ => rfl | 9, _ => rfl | 10, _ => rfl | 11, _ => rfl | 12, _ => rfl | 13, _ => rfl | 14, _ => rfl | 15, _ => rfl | 16, _ => rfl | 17, _ => rfl | 18, _ => rfl | 19, _ => rfl | 20, _ => rfl | 21, _ => rfl | 22, _ => rfl | 23, _ => rfl | 24, _ => rfl | 25, _ => rfl | 26, _ => rfl | 27, _ => rfl | 28, _ => rfl | 29, _ => rfl | 30, _ => rfl | 31, _ => rfl | n + 32, h => absurd (show n + 32 < 32 from h) (by omega)) (fun j hj => match j, hj with | 0, _ => ⟨_, t_q1, rfl⟩ | 1, _ => ⟨_, t_q3, rfl⟩ | 2, _ => ⟨_, t_q5, rfl⟩ | 3, _ => (iv_lit (by decide +kernel) : iv_R 0 0 (0 : Int32)).wk (by decide) | 4, _ => (iv_lit (by decide +kernel) : iv_R 0 0 (0 : Int32)).wk (by decide) | 5, _ => ⟨_, t_q7, rfl⟩ | 6, _ => ⟨_, t_q9, rfl⟩ | 7, _ => ⟨_, t_q11, rfl⟩ | 8, _ => ⟨_, t_q13, rfl⟩ | 9, _ => ⟨_, t_q15, rfl⟩ | 10, _ => ⟨_, t_q17, rfl⟩ | 11, _ => (iv_lit (by decide +kernel) : iv_R 0 0 (0 : Int32)).wk (by decide) | 12, _ => (iv_lit (by decide +kernel) : iv_R 0 0 (0 : Int32)).wk (by decide) | 13, _ => (iv_lit (by decide +kernel) : iv_R 0 0 (0 : Int32)).wk (by decide) | 14, _ => (iv_lit (by decide +kernel) : iv_R 0 0 (0 : Int32)).wk (by decide) | 15, _ => (iv_lit (by decide +kernel) : iv_R 0 0 (0 : Int32)).wk (by decide) | 16, _ => (iv_lit (by decide +kernel) : iv_R 0 0 (0 : Int32)).wk (by decide) | 17, _ => (iv_lit (by decide +kernel) : iv_R 0 0 (0 : Int32)).wk (by decide) | 18, _ => (iv_lit (by decide +kernel) : iv_R 0 0 (0 : Int32)).wk (by decide) | 19, _ => (iv_lit (by decide +kernel) : iv_R 0 0 (0 : Int32)).wk (by decide) | 20, _ => (iv_lit (by decide +kernel) : iv_R 0 0 (0 : Int32)).wk (by decide) | 21, _ => (iv_lit (by decide +kernel) : iv_R 0 0 (0 : Int32)).wk (by decide) | 22, _ => (iv_lit (by decide +kernel) : iv_R 0 0 (0 : Int32)).wk (by decide) | 23, _ => (iv_lit (by decide +kernel) : iv_R 0 0 (0 : Int32)).wk (by decide) | 24, _ => (iv_lit (by decide +kernel) : iv_R (-1) (-1) ((-1) : Int32)).wk (by decide) | 25, _ => (iv_lit (by decide +kernel) : iv_R 0 0 (0 : Int32)).wk (by decide) | 26, _ => ⟨_, t_q20, rfl⟩ | 27, _ => ⟨_, t_q22, rfl⟩ | 28, _ => ⟨_, t_q24, rfl⟩ | 29, _ => ⟨_, t_q26, rfl⟩ | 30, _ => ⟨_, t_q28, rfl⟩ | 31, _ => (iv_lit (by decide +kernel) : iv_R 0 0 (0 : Int32)).wk (by decide) | n + 32, h => absurd (show n + 32 < 32 from h) (by omega))
  refine W.widen (k := 14) (n := 10032) (Nat.le_of_ble_eq_true rfl) (Nat.le_of_ble_eq_true rfl) ?_
  exact iv_vretM X hr hlocks hB ⟨hgr.tr (iv_gr.up (Nat.le_refl _)) (Nat.le_refl _) (Nat.le_refl _), _, _, iv_up_eq, rfl, rfl, (show q1 ≠ q3 by omega), ⟨_, _, (iv_up_ne (show q1 ≠ h0 by omega)).trans t_q1, rfl⟩, ⟨_, _, (iv_up_ne (show q3 ≠ h0 by omega)).trans t_q3, rfl⟩, rfl, rfl⟩ dX12_init_137
