theorem dX3_init_0 : decode cX3_init 0 = .ok (.aload_n 0, 1) := by decide +kernel
theorem dX3_init_1 : decode cX3_init 1 = .ok (.invokespecial 3, 3) := by decide +kernel
theorem dX3_init_4 : decode cX3_init 4 = .ok (.aload_n 0, 1) := by decide +kernel
theorem dX3_init_5 : decode cX3_init 5 = .ok (.bipush 40, 2) := by decide +kernel
theorem dX3_init_7 : decode cX3_init 7 = .ok (.newarray .int, 2) := by decide +kernel
theorem dX3_init_9 : decode cX3_init 9 = .ok (.putfield 11, 3) := by decide +kernel
theorem dX3_init_12 : decode cX3_init 12 = .ok (.aload_n 0, 1) := by decide +kernel
theorem dX3_init_13 : decode cX3_init 13 = .ok (.iload_n 1, 1) := by decide +kernel
theorem dX3_init_14 : decode cX3_init 14 = .ok (.putfield 15, 3) := by decide +kernel
theorem dX3_init_17 : decode cX3_init 17 = .ok (.aload_n 0, 1) := by decide +kernel
theorem dX3_init_18 : decode cX3_init 18 = .ok (.aload_n 2, 1) := by decide +kernel
theorem dX3_init_19 : decode cX3_init 19 = .ok (.iload_n 1, 1) := by decide +kernel
theorem dX3_init_20 : decode cX3_init 20 = .ok (.invokestatic 19, 3) := by decide +kernel
theorem dX3_init_23 : decode cX3_init 23 = .ok (.putfield 25, 3) := by decide +kernel
theorem dX3_init_26 : decode cX3_init 26 = .ok (.aload_n 0, 1) := by decide +kernel
theorem dX3_init_27 : decode cX3_init 27 = .ok (.aload_n 3, 1) := by decide +kernel
theorem dX3_init_28 : decode cX3_init 28 = .ok (.iload_n 1, 1) := by decide +kernel
theorem dX3_init_29 : decode cX3_init 29 = .ok (.iconst 1, 1) := by decide +kernel
theorem dX3_init_30 : decode cX3_init 30 = .ok (.iadd, 1) := by decide +kernel
theorem dX3_init_31 : decode cX3_init 31 = .ok (.invokestatic 19, 3) := by decide +kernel
theorem dX3_init_34 : decode cX3_init 34 = .ok (.putfield 28, 3) := by decide +kernel
theorem dX3_init_37 : decode cX3_init 37 = .ok (.aload_n 0, 1) := by decide +kernel
theorem dX3_init_38 : decode cX3_init 38 = .ok (.aload 4, 2) := by decide +kernel
theorem dX3_init_40 : decode cX3_init 40 = .ok (.iload_n 1, 1) := by decide +kernel
theorem dX3_init_41 : decode cX3_init 41 = .ok (.invokestatic 19, 3) := by decide +kernel
theorem dX3_init_44 : decode cX3_init 44 = .ok (.putfield 31, 3) := by decide +kernel
theorem dX3_init_47 : decode cX3_init 47 = .ok (.aload_n 0, 1) := by decide +kernel
theorem dX3_init_48 : decode cX3_init 48 = .ok (.getfield 28, 3) := by decide +kernel
theorem dX3_init_51 : decode cX3_init 51 = .ok (.iload_n 1, 1) := by decide +kernel
theorem dX3_init_52 : decode cX3_init 52 = .ok (.iaload, 1) := by decide +kernel
theorem dX3_init_53 : decode cX3_init 53 = .ok (.istore 7, 2) := by decide +kernel
theorem dX3_init_55 : decode cX3_init 55 = .ok (.aload_n 0, 1) := by decide +kernel
theorem dX3_init_56 : decode cX3_init 56 = .ok (.aload 5, 2) := by decide +kernel
theorem dX3_init_58 : decode cX3_init 58 = .ok (.iload 7, 2) := by decide +kernel
theorem dX3_init_60 : decode cX3_init 60 = .ok (.invokestatic 19, 3) := by decide +kernel
theorem dX3_init_63 : decode cX3_init 63 = .ok (.putfield 34, 3) := by decide +kernel
theorem dX3_init_66 : decode cX3_init 66 = .ok (.aload_n 0, 1) := by decide +kernel
theorem dX3_init_67 : decode cX3_init 67 = .ok (.aload 6, 2) := by decide +kernel
theorem dX3_init_69 : decode cX3_init 69 = .ok (.iload 7, 2) := by decide +kernel
theorem dX3_init_71 : decode cX3_init 71 = .ok (.invokestatic 19, 3) := by decide +kernel
theorem dX3_init_74 : decode cX3_init 74 = .ok (.putfield 37, 3) := by decide +kernel
theorem dX3_init_77 : decode cX3_init 77 = .ok (.return_, 1) := by decide +kernel
theorem dX3_withoutLines_0 : decode cX3_withoutLines 0 = .ok (.iconst 1, 1) := by decide +kernel
theorem dX3_withoutLines_1 : decode cX3_withoutLines 1 = .ok (.newarray .int, 2) := by decide +kernel
theorem dX3_withoutLines_3 : decode cX3_withoutLines 3 = .ok (.astore_n 0, 1) := by decide +kernel
theorem dX3_withoutLines_4 : decode cX3_withoutLines 4 = .ok (.new 9, 3) := by decide +kernel
theorem dX3_withoutLines_7 : decode cX3_withoutLines 7 = .ok (.dup, 1) := by decide +kernel
theorem dX3_withoutLines_8 : decode cX3_withoutLines 8 = .ok (.iconst 0, 1) := by decide +kernel
theorem dX3_withoutLines_9 : decode cX3_withoutLines 9 = .ok (.aload_n 0, 1) := by decide +kernel
theorem dX3_withoutLines_10 : decode cX3_withoutLines 10 = .ok (.aload_n 0, 1) := by decide +kernel
theorem dX3_withoutLines_11 : decode cX3_withoutLines 11 = .ok (.aload_n 0, 1) := by decide +kernel
theorem dX3_withoutLines_12 : decode cX3_withoutLines 12 = .ok (.aload_n 0, 1) := by decide +kernel
theorem dX3_withoutLines_13 : decode cX3_withoutLines 13 = .ok (.aload_n 0, 1) := by decide +kernel
theorem dX3_withoutLines_14 : decode cX3_withoutLines 14 = .ok (.invokespecial 40, 3) := by decide +kernel
theorem dX3_withoutLines_17 : decode cX3_withoutLines 17 = .ok (.areturn, 1) := by decide +kernel
theorem iv_cz.zr {L i : Nat} : iv_cz (fun _ => 0) L i = 0 := by
  unfold iv_cz
  split <;> rfl
set_option maxHeartbeats 8000000 in
set_option maxRecDepth 100000 in
theorem c_X3_init (l : Launch) (D : va_G) (tys : List (ClassId × FieldType)) (base : Nat) (G : iv_G) (hty : iv_ty tys) (h0 sz : Nat) (hsz : sz = h0 + 1) (hbf : base ≤ h0) (hno : G h0 = none) (n u : Nat) (hn : n ≤ 16) (hu : u ≤ 400) (x_0 : Int32) (hx0 : x_0.toInt = (n : Int)) (h2 : Nat) (g_h2 : Nat → Int32) (r_h2 : Nat → Nat) (cd2 L2 : Nat) (P2 : (Nat → Int32) → Prop) (a_h2 : G h2 = some (cd2, g_h2, r_h2)) (hs2 : iv_sh cd2 = .inr (.inl (L2, P2))) (hL2 : L2 ≤ 2000) (h3 : Nat) (g_h3 : Nat → Int32) (r_h3 : Nat → Nat) (cd3 L3 : Nat) (P3 : (Nat → Int32) → Prop) (a_h3 : G h3 = some (cd3, g_h3, r_h3)) (hs3 : iv_sh cd3 = .inr (.inl (L3, P3))) (hL3 : L3 ≤ 2000) (h4 : Nat) (g_h4 : Nat → Int32) (r_h4 : Nat → Nat) (cd4 L4 : Nat) (P4 : (Nat → Int32) → Prop) (a_h4 : G h4 = some (cd4, g_h4, r_h4)) (hs4 : iv_sh cd4 = .inr (.inl (L4, P4))) (hL4 : L4 ≤ 2000) (h5 : Nat) (g_h5 : Nat → Int32) (r_h5 : Nat → Nat) (cd5 L5 : Nat) (P5 : (Nat → Int32) → Prop) (a_h5 : G h5 = some (cd5, g_h5, r_h5)) (hs5 : iv_sh cd5 = .inr (.inl (L5, P5))) (hL5 : L5 ≤ 2000) (h6 : Nat) (g_h6 : Nat → Int32) (r_h6 : Nat → Nat) (cd6 L6 : Nat) (P6 : (Nat → Int32) → Prop) (a_h6 : G h6 = some (cd6, g_h6, r_h6)) (hs6 : iv_sh cd6 = .inr (.inl (L6, P6))) (hL6 : L6 ≤ 2000) (hst : ∀ i, i < n + 1 → iv_R 0 (u : Int) (iv_cz g_h3 L3 i)) (hla : (iv_cz g_h3 L3 n).toInt = (u : Int)) (hwh : ∀ i, i < n → iv_R 0 (u : Int) (iv_cz g_h4 L4 i)) (hco : ∀ i, i < u → iv_R 0 148 (iv_cz g_h5 L5 i)) : Met l yX3_init (Cond.code yX3_init cX3_init 8 none :: iv_W0) ({ frames := 2, cells := 6, slots := 889, locals := 82 }) (iv_PcM iv_sh D classes tys base G sz (fun H9 => t_OB h0 (D.1 3) 7 (D.2 3) H9 (fun j => defaultValue (tyX3 j))) [.ref h0, .int x_0, .ref h2, .ref h3, .ref h4, .ref h5, .ref h6]) (iv_QvM iv_sh D classes tys base h0 (fun G' => iv_gr h0 G G' ∧ ∃ (g : Nat → Int32) (r : Nat → Nat), G' h0 = some (3, g, r))) 6 889 (iv_A h0) := by
  refine iv_headM hbf (by omega) (by decide) (Nat.le_of_ble_eq_true rfl) ?_
  intro p e s m args below meth c ls X hr hlocks hname hz hO hB hl
  have hx := X.1.1
  have hb := X.1.2.1
  have hlt : h0 < s.heap.size := by omega
  have hgr : iv_gr h0 G G := iv_gr.rf
  have t_h2 := a_h2
  have t_h3 := a_h3
  have t_h4 := a_h4
  have t_h5 := a_h5
  have t_h6 := a_h6
  have ix : iv_R 0 16 x_0 := ⟨by omega, by omega⟩
  have hl : lv_has ls 8 [(0, .ref h0), (1, .int x_0), (2, .ref h2), (3, .ref h3), (4, .ref h4), (5, .ref h5), (6, .ref h6)] := hl
  refine lv_aload_n hx hb dX3_init_0 rfl (lv_at hl 0 rfl) ?_
  refine W.objInit hx hb X.1.2.2.2.1 (X.1.2.2.2.2 _ k_oi_X3) (X.1.2.2.2.2 _ k_oim) (X.1.2.2.2.2 _ k_oic) rfl (by rw [X.1.2.2.1]; exact hl.1) rfl dX3_init_1 (Nat.le_of_ble_eq_true rfl) (Nat.le_of_ble_eq_true rfl) ?_
  refine W.eq (g2 := F0 m 4 ls []) rfl ?_
  refine lv_aload_n hx hb dX3_init_4 rfl (lv_at hl 0 rfl) ?_
  refine lv_bipush (v := 40) hx hb dX3_init_5 (by decide) ?_
  have hBo := hB
  refine iv_newa X hB hty k_arr_int (cd := 28) (N := 40) sh_28 (iv_E.zr (by decide)) (by decide +kernel) (by decide +kernel) (by decide) (Nat.le_of_ble_eq_true rfl) (Nat.le_of_ble_eq_true rfl) dX3_init_7 (fun q1 H1 z1 y1 o1 n1 hB => ?_)
  have gr1 : iv_gr q1 G (iv_up G q1 (28, fun _ => 0, fun _ => 0)) := iv_gr.up (Nat.le_refl _)
  have t_q1 : iv_up G q1 (28, fun _ => 0, fun _ => 0) q1 = some (28, fun _ => 0, fun _ => 0) := iv_up_eq
  generalize eG1 : iv_up G q1 (28, fun _ => 0, fun _ => 0) = G1 at hB gr1 t_q1
  have t_h2 := gr1.kp hBo.1 (by omega) n1 t_h2
  have t_h3 := gr1.kp hBo.1 (by omega) n1 t_h3
  have t_h4 := gr1.kp hBo.1 (by omega) n1 t_h4
  have t_h5 := gr1.kp hBo.1 (by omega) n1 t_h5
  have t_h6 := gr1.kp hBo.1 (by omega) n1 t_h6
  have hno := (gr1 h0 (by omega)).trans hno
  have hgr := hgr.tr gr1 (Nat.le_refl _) (by omega)
  have hO := hO.kept (o1 h0 (by omega))
  have hlt : h0 < H1.size := by omega
  refine iv_putF X hB ft_X3 hO hno (Nat.le_refl _) 6 (by decide) k_fl_X3_11 rfl hname rfl rfl rfl dX3_init_9 (fun H2 locs2 hO z2 o2 hB => ?_)
  have hlt : h0 < H2.size := by omega
  refine lv_aload_n hx hb dX3_init_12 rfl (lv_at hl 0 rfl) ?_
  refine lv_iload_n hx hb dX3_init_13 rfl (lv_at hl 1 rfl) ?_
  refine iv_putF X hB ft_X3 hO hno (Nat.le_refl _) 0 (by decide) k_fl_X3_15 rfl hname rfl rfl rfl dX3_init_14 (fun H3 locs3 hO z3 o3 hB => ?_)
  have hlt : h0 < H3.size := by omega
  have hn64 : n % 64 = n := Nat.mod_eq_of_lt (by omega)
  have hu24 : u % 1024 = u := Nat.mod_eq_of_lt (by omega)
  have hs0 : iv_sh (iv_lc 0 n u) = .inr (.inl (n, iv_E (-2147483648) 2147483647 n)) := iv_sh_lc (by omega) (by omega)
  have hs1 : iv_sh (iv_lc 1 n u) = .inr (.inl (n + 1, iv_E 0 (u : Int) (n + 1))) := iv_sh_lc (by omega) (by omega)
  have hs2l : iv_sh (iv_lc 2 n u) = .inr (.inl (n, iv_E 0 (u : Int) n)) := iv_sh_lc (by omega) (by omega)
  have hs3l : iv_sh (iv_lc 3 n u) = .inr (.inl (u, iv_E 0 148 u)) := iv_sh_lc (by omega) (by omega)
  have hs4l : iv_sh (iv_lc 4 n u) = .inr (.inl (u, iv_E (-2147483648) 2147483647 u)) := iv_sh_lc (by omega) (by omega)
  refine lv_aload_n hx hb dX3_init_17 rfl (lv_at hl 0 rfl) ?_
  refine lv_aload_n hx hb dX3_init_18 rfl (lv_at hl 2 rfl) ?_
  refine lv_iload_n hx hb dX3_init_19 rfl (lv_at hl 1 rfl) ?_
  have hBo := hB
  refine iv_cSr X k_good k_mf_J7_copyOf_59c91 k_st_J7_copyOf_59c91 k_ml_X3_19 hB (O := fun _ => True) trivial rfl (As := [.ref h2, .int x_0]) (c_J7_copyOf l D tys base G1 hty H3.size (by omega) h2 _ _ _ _ _ t_h2 hs2 hL2 x_0 (n) hx0 (by omega) (iv_lc 0 n u) _ hs0 (fun F hF i hi => iv_R.all _)) ⟨rfl, rfl⟩ ⟨Nat.le_of_ble_eq_true rfl, Nat.le_of_ble_eq_true rfl⟩ ⟨Nat.le_of_ble_eq_true rfl, by show 0 + 40 + (n) ≤ 889; omega⟩ rfl rfl hl.1 (Nat.le_of_ble_eq_true rfl) dX3_init_20 (fun q4 G4 H4 locs4 hw z4 hk hB => ?_)
  obtain ⟨y4, gr4, F4, r4, t_q4, e_F4⟩ := hw
  have t_h2 := hBo.1.keep (Nat.le_refl _) gr4 t_h2
  have t_h3 := hBo.1.keep (Nat.le_refl _) gr4 t_h3
  have t_h4 := hBo.1.keep (Nat.le_refl _) gr4 t_h4
  have t_h5 := hBo.1.keep (Nat.le_refl _) gr4 t_h5
  have t_h6 := hBo.1.keep (Nat.le_refl _) gr4 t_h6
  have t_q1 := hBo.1.keep (Nat.le_refl _) gr4 t_q1
  have hno := (gr4 h0 (by omega)).trans hno
  have hgr := hgr.tr gr4 (Nat.le_refl _) (by omega)
  have hO := hO.kept (hk h0 (by omega))
  have hlt : h0 < H4.size := by omega
  refine iv_putF X hB ft_X3 hO hno (Nat.le_refl _) 1 (by decide) k_fl_X3_25 rfl hname rfl rfl rfl dX3_init_23 (fun H5 locs5 hO z5 o5 hB => ?_)
  have hlt : h0 < H5.size := by omega
  refine lv_aload_n hx hb dX3_init_26 rfl (lv_at hl 0 rfl) ?_
  refine lv_aload_n hx hb dX3_init_27 rfl (lv_at hl 3 rfl) ?_
  refine lv_iload_n hx hb dX3_init_28 rfl (lv_at hl 1 rfl) ?_
  refine lv_iconst (v := 1) hx hb dX3_init_29 (by decide) ?_
  refine iv_iadd hx hb ix q_1 (lo := 1) (hi := 17) (by decide) dX3_init_30 (fun x1 e1 i1 => ?_)
  have e1 : x1.toInt = ((n + 1 : Nat) : Int) := by have z1 : (1 : Int32).toInt = 1 := rfl; omega
  have hBo := hB
  refine iv_cSr X k_good k_mf_J7_copyOf_59c91 k_st_J7_copyOf_59c91 k_ml_X3_19 hB (O := fun _ => True) trivial rfl (As := [.ref h3, .int x1]) (c_J7_copyOf l D tys base G4 hty H5.size (by omega) h3 _ _ _ _ _ t_h3 hs3 hL3 x1 (n + 1) e1 (by omega) (iv_lc 1 n u) _ hs1 (fun F hF i hi => by rw [hF i hi]; exact hst i hi)) ⟨rfl, rfl⟩ ⟨Nat.le_of_ble_eq_true rfl, Nat.le_of_ble_eq_true rfl⟩ ⟨Nat.le_of_ble_eq_true rfl, by show 0 + 40 + (n) + (n + 1) ≤ 889; omega⟩ rfl rfl hl.1 (Nat.le_of_ble_eq_true rfl) dX3_init_31 (fun q6 G6 H6 locs6 hw z6 hk hB => ?_)
  obtain ⟨y6, gr6, F6, r6, t_q6, e_F6⟩ := hw
  have t_h2 := hBo.1.keep (Nat.le_refl _) gr6 t_h2
  have t_h3 := hBo.1.keep (Nat.le_refl _) gr6 t_h3
  have t_h4 := hBo.1.keep (Nat.le_refl _) gr6 t_h4
  have t_h5 := hBo.1.keep (Nat.le_refl _) gr6 t_h5
  have t_h6 := hBo.1.keep (Nat.le_refl _) gr6 t_h6
  have t_q1 := hBo.1.keep (Nat.le_refl _) gr6 t_q1
  have t_q4 := hBo.1.keep (Nat.le_refl _) gr6 t_q4
  have hno := (gr6 h0 (by omega)).trans hno
  have hgr := hgr.tr gr6 (Nat.le_refl _) (by omega)
  have hO := hO.kept (hk h0 (by omega))
  have hlt : h0 < H6.size := by omega
  refine iv_putF X hB ft_X3 hO hno (Nat.le_refl _) 2 (by decide) k_fl_X3_28 rfl hname rfl rfl rfl dX3_init_34 (fun H7 locs7 hO z7 o7 hB => ?_)
  have hlt : h0 < H7.size := by omega
  refine lv_aload_n hx hb dX3_init_37 rfl (lv_at hl 0 rfl) ?_
  refine lv_aload hx hb dX3_init_38 (lv_at hl 4 rfl) ?_
  refine lv_iload_n hx hb dX3_init_40 rfl (lv_at hl 1 rfl) ?_
  have hBo := hB
  refine iv_cSr X k_good k_mf_J7_copyOf_59c91 k_st_J7_copyOf_59c91 k_ml_X3_19 hB (O := fun _ => True) trivial rfl (As := [.ref h4, .int x_0]) (c_J7_copyOf l D tys base G6 hty H7.size (by omega) h4 _ _ _ _ _ t_h4 hs4 hL4 x_0 (n) hx0 (by omega) (iv_lc 2 n u) _ hs2l (fun F hF i hi => by rw [hF i hi]; exact hwh i hi)) ⟨rfl, rfl⟩ ⟨Nat.le_of_ble_eq_true rfl, Nat.le_of_ble_eq_true rfl⟩ ⟨Nat.le_of_ble_eq_true rfl, by show 0 + 40 + (n) + (n + 1) + (n) ≤ 889; omega⟩ rfl rfl hl.1 (Nat.le_of_ble_eq_true rfl) dX3_init_41 (fun q8 G8 H8 locs8 hw z8 hk hB => ?_)
  obtain ⟨y8, gr8, F8, r8, t_q8, e_F8⟩ := hw
  have t_h2 := hBo.1.keep (Nat.le_refl _) gr8 t_h2
  have t_h3 := hBo.1.keep (Nat.le_refl _) gr8 t_h3
  have t_h4 := hBo.1.keep (Nat.le_refl _) gr8 t_h4
  have t_h5 := hBo.1.keep (Nat.le_refl _) gr8 t_h5
  have t_h6 := hBo.1.keep (Nat.le_refl _) gr8 t_h6
  have t_q1 := hBo.1.keep (Nat.le_refl _) gr8 t_q1
  have t_q4 := hBo.1.keep (Nat.le_refl _) gr8 t_q4
  have t_q6 := hBo.1.keep (Nat.le_refl _) gr8 t_q6
  have hno := (gr8 h0 (by omega)).trans hno
  have hgr := hgr.tr gr8 (Nat.le_refl _) (by omega)
  have hO := hO.kept (hk h0 (by omega))
  have hlt : h0 < H8.size := by omega
  refine iv_putF X hB ft_X3 hO hno (Nat.le_refl _) 3 (by decide) k_fl_X3_31 rfl hname rfl rfl rfl dX3_init_44 (fun H9 locs9 hO z9 o9 hB => ?_)
  have hlt : h0 < H9.size := by omega
  refine lv_aload_n hx hb dX3_init_47 rfl (lv_at hl 0 rfl) ?_
  refine iv_getU X ft_X3 hO 2 (by decide) (v := .ref q6) rfl k_fl_X3_28 dX3_init_48 ?_
  refine lv_iload_n hx hb dX3_init_51 rfl (lv_at hl 1 rfl) ?_
  have iin : vp_in x_0 (n + 1) := iv_in (a := 0) (b := (n : Int)) ⟨by omega, by omega⟩ ⟨by omega, by omega⟩
  refine iv_aldP X hB.B t_q6 hs1 iin dX3_init_52 (fun _ => ?_)
  obtain ⟨x7, e7⟩ : ∃ x, x = F6 x_0.toNatClampNeg := ⟨_, rfl⟩
  rw [← e7]
  have hx7 : x7.toInt = (u : Int) := by
    have nn : x_0.toNatClampNeg = n := by
      show x_0.toInt.toNat = n
      omega
    rw [e7, nn, e_F6 n (by omega)]
    exact hla
  refine lv_istore (lv' := [(7, .int x7), (0, .ref h0), (1, .int x_0), (2, .ref h2), (3, .ref h3), (4, .ref h4), (5, .ref h5), (6, .ref h6)]) hx hb dX3_init_53 hl (by decide) rfl (fun ls hl => ?_)
  refine lv_aload_n hx hb dX3_init_55 rfl (lv_at hl 1 rfl) ?_
  refine lv_aload hx hb dX3_init_56 (lv_at hl 6 rfl) ?_
  refine lv_iload hx hb dX3_init_58 (lv_at hl 0 rfl) ?_
  have hBo := hB
  refine iv_cSr X k_good k_mf_J7_copyOf_59c91 k_st_J7_copyOf_59c91 k_ml_X3_19 hB (O := fun _ => True) trivial rfl (As := [.ref h5, .int x7]) (c_J7_copyOf l D tys base G8 hty H9.size (by omega) h5 _ _ _ _ _ t_h5 hs5 hL5 x7 (u) hx7 (by omega) (iv_lc 3 n u) _ hs3l (fun F hF i hi => by rw [hF i hi]; exact hco i hi)) ⟨rfl, rfl⟩ ⟨Nat.le_of_ble_eq_true rfl, Nat.le_of_ble_eq_true rfl⟩ ⟨Nat.le_of_ble_eq_true rfl, by show 0 + 40 + (n) + (n + 1) + (n) + (u) ≤ 889; omega⟩ rfl rfl hl.1 (Nat.le_of_ble_eq_true rfl) dX3_init_60 (fun q10 G10 H10 locs10 hw z10 hk hB => ?_)
  obtain ⟨y10, gr10, F10, r10, t_q10, e_F10⟩ := hw
  have t_h2 := hBo.1.keep (Nat.le_refl _) gr10 t_h2
  have t_h3 := hBo.1.keep (Nat.le_refl _) gr10 t_h3
  have t_h4 := hBo.1.keep (Nat.le_refl _) gr10 t_h4
  have t_h5 := hBo.1.keep (Nat.le_refl _) gr10 t_h5
  have t_h6 := hBo.1.keep (Nat.le_refl _) gr10 t_h6
  have t_q1 := hBo.1.keep (Nat.le_refl _) gr10 t_q1
  have t_q4 := hBo.1.keep (Nat.le_refl _) gr10 t_q4
  have t_q6 := hBo.1.keep (Nat.le_refl _) gr10 t_q6
  have t_q8 := hBo.1.keep (Nat.le_refl _) gr10 t_q8
  have hno := (gr10 h0 (by omega)).trans hno
  have hgr := hgr.tr gr10 (Nat.le_refl _) (by omega)
  have hO := hO.kept (hk h0 (by omega))
  have hlt : h0 < H10.size := by omega
  refine iv_putF X hB ft_X3 hO hno (Nat.le_refl _) 4 (by decide) k_fl_X3_34 rfl hname rfl rfl rfl dX3_init_63 (fun H11 locs11 hO z11 o11 hB => ?_)
  have hlt : h0 < H11.size := by omega
  refine lv_aload_n hx hb dX3_init_66 rfl (lv_at hl 1 rfl) ?_
  refine lv_aload hx hb dX3_init_67 (lv_at hl 7 rfl) ?_
  refine lv_iload hx hb dX3_init_69 (lv_at hl 0 rfl) ?_
  have hBo := hB
  refine iv_cSr X k_good k_mf_J7_copyOf_59c91 k_st_J7_copyOf_59c91 k_ml_X3_19 hB (O := fun _ => True) trivial rfl (As := [.ref h6, .int x7]) (c_J7_copyOf l D tys base G10 hty H11.size (by omega) h6 _ _ _ _ _ t_h6 hs6 hL6 x7 (u) hx7 (by omega) (iv_lc 4 n u) _ hs4l (fun F hF i hi => iv_R.all _)) ⟨rfl, rfl⟩ ⟨Nat.le_of_ble_eq_true rfl, Nat.le_of_ble_eq_true rfl⟩ ⟨Nat.le_of_ble_eq_true rfl, by show 0 + 40 + (n) + (n + 1) + (n) + (u) + (u) ≤ 889; omega⟩ rfl rfl hl.1 (Nat.le_of_ble_eq_true rfl) dX3_init_71 (fun q12 G12 H12 locs12 hw z12 hk hB => ?_)
  obtain ⟨y12, gr12, F12, r12, t_q12, e_F12⟩ := hw
  have t_h2 := hBo.1.keep (Nat.le_refl _) gr12 t_h2
  have t_h3 := hBo.1.keep (Nat.le_refl _) gr12 t_h3
  have t_h4 := hBo.1.keep (Nat.le_refl _) gr12 t_h4
  have t_h5 := hBo.1.keep (Nat.le_refl _) gr12 t_h5
  have t_h6 := hBo.1.keep (Nat.le_refl _) gr12 t_h6
  have t_q1 := hBo.1.keep (Nat.le_refl _) gr12 t_q1
  have t_q4 := hBo.1.keep (Nat.le_refl _) gr12 t_q4
  have t_q6 := hBo.1.keep (Nat.le_refl _) gr12 t_q6
  have t_q8 := hBo.1.keep (Nat.le_refl _) gr12 t_q8
  have t_q10 := hBo.1.keep (Nat.le_refl _) gr12 t_q10
  have hno := (gr12 h0 (by omega)).trans hno
  have hgr := hgr.tr gr12 (Nat.le_refl _) (by omega)
  have hO := hO.kept (hk h0 (by omega))
  have hlt : h0 < H12.size := by omega
  refine iv_putF X hB ft_X3 hO hno (Nat.le_refl _) 5 (by decide) k_fl_X3_37 rfl hname rfl rfl rfl dX3_init_74 (fun H13 locs13 hO z13 o13 hB => ?_)
  have hlt : h0 < H13.size := by omega
  have hB := hB.close hno (Nat.le_refl _) (ci := 3) (cd := 3) (g := fun j => ([x_0] : List Int32).getD j 0) (rr := fun j => ([0, q4, q6, q8, q10, q12, q1, 0, 0, 0, n, u] : List Nat).getD j 0) rfl hO sh_3 (fun j hj => match j, hj with | 0, _ => rfl | 1, _ => rfl | 2, _ => rfl | 3, _ => rfl | 4, _ => rfl | 5, _ => rfl | 6, _ => rfl | n + 7, h => absurd (show n + 7 < 7 from h) (by omega)) (fun j hj => match j, hj with | 0, _ => (show iv_R ((n % 64 : Nat) : Int) ((n % 64 : Nat) : Int) x_0 from by rw [hn64]; exact ⟨by omega, by omega⟩) | 1, _ => ⟨_, t_q4, by show iv_lc 0 n u = iv_lc 0 (n % 64) (u % 1024); rw [hn64, hu24]⟩ | 2, _ => ⟨_, t_q6, by show iv_lc 1 n u = iv_lc 1 (n % 64) (u % 1024); rw [hn64, hu24]⟩ | 3, _ => ⟨_, t_q8, by show iv_lc 2 n u = iv_lc 2 (n % 64) (u % 1024); rw [hn64, hu24]⟩ | 4, _ => ⟨_, t_q10, by show iv_lc 3 n u = iv_lc 3 (n % 64) (u % 1024); rw [hn64, hu24]⟩ | 5, _ => ⟨_, t_q12, by show iv_lc 4 n u = iv_lc 4 (n % 64) (u % 1024); rw [hn64, hu24]⟩ | 6, _ => ⟨_, t_q1, rfl⟩ | n + 7, h => absurd (show n + 7 < 7 from h) (by omega))
  refine W.widen (k := 6) (n := 889) (Nat.le_of_ble_eq_true rfl) (by show 0 + 40 + (n) + (n + 1) + (n) + (u) + (u) ≤ 889; omega) ?_
  exact iv_vretM X hr hlocks hB ⟨hgr.tr (iv_gr.up (Nat.le_refl _)) (Nat.le_refl _) (Nat.le_refl _), _, _, iv_up_eq⟩ dX3_init_77
set_option maxHeartbeats 8000000 in
set_option maxRecDepth 100000 in
theorem c_X3_withoutLines (l : Launch) (D : va_G) (tys : List (ClassId × FieldType)) (base : Nat) (G : iv_G) (hty : iv_ty tys) (sz : Nat) (hbs : base ≤ sz) : Met l yX3_withoutLines (Cond.code yX3_withoutLines cX3_withoutLines 1 (some (.object "UnbornBells$Law")) :: iv_W0) ({ frames := 3, cells := 8, slots := 897, locals := 109 }) (iv_PcM iv_sh D classes tys base G sz (fun _ => True) []) (iv_QrM iv_sh D classes tys base sz (fun G' q => sz ≤ q ∧ iv_gr sz G G' ∧ ∃ (g : Nat → Int32) (r : Nat → Nat), G' q = some (3, g, r))) 8 897 (iv_A sz) := by
  refine iv_headM hbs (Nat.le_refl _) (by decide) (Nat.le_of_ble_eq_true rfl) ?_
  intro p e s m args below meth c ls X hr hlocks hname hz hO hB hl
  have hx := X.1.1
  have hb := X.1.2.1
  refine lv_iconst (v := 1) hx hb dX3_withoutLines_0 (by decide) ?_
  have hsh : iv_sh (iv_lc 0 1 0) = .inr (.inl (1, iv_E (-2147483648) 2147483647 1)) := iv_sh_lc (by decide) (by decide)
  have hBo := hB
  refine iv_newa X hB hty k_arr_int (cd := iv_lc 0 1 0) (N := 1) hsh (iv_E.zr (by decide)) (by decide +kernel) (by decide +kernel) (by decide) (Nat.le_of_ble_eq_true rfl) (Nat.le_of_ble_eq_true rfl) dX3_withoutLines_1 (fun q1 H1 z1 y1 o1 n1 hB => ?_)
  have gr1 : iv_gr q1 G (iv_up G q1 (iv_lc 0 1 0, fun _ => 0, fun _ => 0)) := iv_gr.up (Nat.le_refl _)
  have t_q1 : iv_up G q1 (iv_lc 0 1 0, fun _ => 0, fun _ => 0) q1 = some (iv_lc 0 1 0, fun _ => 0, fun _ => 0) := iv_up_eq
  generalize eG1 : iv_up G q1 (iv_lc 0 1 0, fun _ => 0, fun _ => 0) = G1 at hB gr1 t_q1
  refine lv_astore_n (lv' := [(0, .ref q1)]) hx hb dX3_withoutLines_3 rfl hl (by decide) rfl (fun ls hl => ?_)
  refine iv_newo X hB ft_X3 k_cl_X3_9 k_it_X3 k_ii_X3 (Nat.le_of_ble_eq_true rfl) (Nat.le_of_ble_eq_true rfl) dX3_withoutLines_4 (fun q2 H2 z2 y2 o2 hOq n2 hB => ?_)
  refine lv_dup hx hb dX3_withoutLines_7 rfl ?_
  refine lv_iconst (v := 0) hx hb dX3_withoutLines_8 (by decide) ?_
  refine lv_aload_n hx hb dX3_withoutLines_9 rfl (lv_at hl 0 rfl) ?_
  refine lv_aload_n hx hb dX3_withoutLines_10 rfl (lv_at hl 0 rfl) ?_
  refine lv_aload_n hx hb dX3_withoutLines_11 rfl (lv_at hl 0 rfl) ?_
  refine lv_aload_n hx hb dX3_withoutLines_12 rfl (lv_at hl 0 rfl) ?_
  refine lv_aload_n hx hb dX3_withoutLines_13 rfl (lv_at hl 0 rfl) ?_
  refine iv_cI X k_good k_mf_X3_init rfl k_im_X3_init (Or.inl k_ml_X3_40) hB (show sz ≤ q2 by omega) (O := fun H9 => t_OB q2 (D.1 3) 7 (D.2 3) H9 (fun j => defaultValue (tyX3 j))) hOq rfl (As := [.int 0, .ref q1, .ref q1, .ref q1, .ref q1, .ref q1]) (c_X3_init l D tys base G1 hty q2 _ (show H2.size = q2 + 1 by omega) (by omega) n2 0 0 (by decide) (by decide) 0 rfl q1 _ _ _ 1 _ t_q1 hsh (by decide) q1 _ _ _ 1 _ t_q1 hsh (by decide) q1 _ _ _ 1 _ t_q1 hsh (by decide) q1 _ _ _ 1 _ t_q1 hsh (by decide) q1 _ _ _ 1 _ t_q1 hsh (by decide) (fun i _ => by rw [iv_cz.zr]; exact q_0) (by rw [iv_cz.zr]; rfl) (fun i h9 => absurd h9 (Nat.not_lt_zero _)) (fun i h9 => absurd h9 (Nat.not_lt_zero _))) ⟨rfl, rfl⟩ ⟨Nat.le_of_ble_eq_true rfl, Nat.le_of_ble_eq_true rfl⟩ ⟨Nat.le_of_ble_eq_true rfl, Nat.le_of_ble_eq_true rfl⟩ rfl rfl hl.1 (Nat.le_of_ble_eq_true rfl) dX3_withoutLines_14 (fun G3 H3 locs3 hw z3 hk hB => ?_)
  obtain ⟨gr3, g_q2, r_q2, t_q2⟩ := hw
  refine W.widen (k := 8) (n := 897) (Nat.le_of_ble_eq_true rfl) (Nat.le_of_ble_eq_true rfl) ?_
  exact iv_aretM X hr hlocks hB ⟨by omega, (iv_gr.rf.tr gr1 (Nat.le_refl _) (by omega)).tr gr3 (Nat.le_refl _) (by omega), _, _, t_q2⟩ (Or.inl ⟨_, rfl⟩) dX3_withoutLines_17
theorem dX1_init_0 : decode cX1_init 0 = .ok (.aload_n 0, 1) := by decide +kernel
theorem dX1_init_1 : decode cX1_init 1 = .ok (.invokespecial 3, 3) := by decide +kernel
theorem dX1_init_4 : decode cX1_init 4 = .ok (.return_, 1) := by decide +kernel
set_option maxHeartbeats 8000000 in
set_option maxRecDepth 100000 in
theorem c_X1_init (l : Launch) (D : va_G) (tys : List (ClassId × FieldType)) (base : Nat) (G : iv_G) (hty : iv_ty tys) (h0 sz : Nat) (hsz : sz = h0 + 1) (hbf : base ≤ h0) (hno : G h0 = none) : Met l yX1_init (Cond.code yX1_init cX1_init 1 none :: iv_W0) ({ frames := 1, cells := 0, slots := 0, locals := 12 }) (iv_PcM iv_sh D classes tys base G sz (fun H9 => t_OB h0 (D.1 1) 8 (D.2 1) H9 (fun j => defaultValue (tyX1 j))) [.ref h0]) (iv_QvM iv_sh D classes tys base h0 (fun G' => iv_gr h0 G G' ∧ ∃ (g : Nat → Int32) (r : Nat → Nat), G' h0 = some (1, g, r))) 0 0 (iv_A h0) := by
  refine iv_headM hbf (by omega) (by decide) (Nat.le_of_ble_eq_true rfl) ?_
  intro p e s m args below meth c ls X hr hlocks hname hz hO hB hl
  have hx := X.1.1
  have hb := X.1.2.1
  have hlt : h0 < s.heap.size := by omega
  have hgr : iv_gr h0 G G := iv_gr.rf
  have hl : lv_has ls 1 [(0, .ref h0)] := hl
  refine lv_aload_n hx hb dX1_init_0 rfl (lv_at hl 0 rfl) ?_
  refine W.objInit hx hb X.1.2.2.2.1 (X.1.2.2.2.2 _ k_oi_X1) (X.1.2.2.2.2 _ k_oim) (X.1.2.2.2.2 _ k_oic) rfl (by rw [X.1.2.2.1]; exact hl.1) rfl dX1_init_1 (Nat.le_of_ble_eq_true rfl) (Nat.le_of_ble_eq_true rfl) ?_
  refine W.eq (g2 := F0 m 4 ls []) rfl ?_
  have hB := hB.close hno (Nat.le_refl _) (ci := 1) (cd := 1) (g := fun j => ([0, 0, 0, 0, 0, 0, 0, 0] : List Int32).getD j 0) (rr := fun j => ([0, 0, 0, 0, 0, 0, 0, 0] : List Nat).getD j 0) rfl hO sh_1 (fun j hj => match j, hj with | 0, _ => rfl | 1, _ => rfl | 2, _ => rfl | 3, _ => rfl | 4, _ => rfl | 5, _ => rfl | 6, _ => rfl | 7, _ => rfl | n + 8, h => absurd (show n + 8 < 8 from h) (by omega)) (fun j hj => match j, hj with | 0, _ => (iv_lit (by decide +kernel) : iv_R 0 0 (0 : Int32)).wk (by decide) | 1, _ => (iv_lit (by decide +kernel) : iv_R 0 0 (0 : Int32)).wk (by decide) | 2, _ => (iv_lit (by decide +kernel) : iv_R 0 0 (0 : Int32)).wk (by decide) | 3, _ => (iv_lit (by decide +kernel) : iv_R 0 0 (0 : Int32)).wk (by decide) | 4, _ => (iv_lit (by decide +kernel) : iv_R 0 0 (0 : Int32)).wk (by decide) | 5, _ => (iv_lit (by decide +kernel) : iv_R 0 0 (0 : Int32)).wk (by decide) | 6, _ => (iv_lit (by decide +kernel) : iv_R 0 0 (0 : Int32)).wk (by decide) | 7, _ => (iv_lit (by decide +kernel) : iv_R 0 0 (0 : Int32)).wk (by decide) | n + 8, h => absurd (show n + 8 < 8 from h) (by omega))
  refine W.widen (k := 0) (n := 0) (Nat.le_of_ble_eq_true rfl) (Nat.le_of_ble_eq_true rfl) ?_
  exact iv_vretM X hr hlocks hB ⟨hgr.tr (iv_gr.up (Nat.le_refl _)) (Nat.le_refl _) (Nat.le_refl _), _, _, iv_up_eq⟩ dX1_init_4
theorem dX8_init_0 : decode cX8_init 0 = .ok (.aload_n 0, 1) := by decide +kernel
theorem dX8_init_1 : decode cX8_init 1 = .ok (.invokespecial 3, 3) := by decide +kernel
theorem dX8_init_4 : decode cX8_init 4 = .ok (.aload_n 0, 1) := by decide +kernel
theorem dX8_init_5 : decode cX8_init 5 = .ok (.iload_n 1, 1) := by decide +kernel
theorem dX8_init_6 : decode cX8_init 6 = .ok (.putfield 9, 3) := by decide +kernel
theorem dX8_init_9 : decode cX8_init 9 = .ok (.aload_n 0, 1) := by decide +kernel
theorem dX8_init_10 : decode cX8_init 10 = .ok (.iload_n 1, 1) := by decide +kernel
theorem dX8_init_11 : decode cX8_init 11 = .ok (.iload_n 2, 1) := by decide +kernel
theorem dX8_init_12 : decode cX8_init 12 = .ok (.imul, 1) := by decide +kernel
theorem dX8_init_13 : decode cX8_init 13 = .ok (.newarray .int, 2) := by decide +kernel
theorem dX8_init_15 : decode cX8_init 15 = .ok (.putfield 15, 3) := by decide +kernel
theorem dX8_init_18 : decode cX8_init 18 = .ok (.return_, 1) := by decide +kernel
set_option maxHeartbeats 8000000 in
set_option maxRecDepth 100000 in
theorem c_X8_init_8 (l : Launch) (D : va_G) (tys : List (ClassId × FieldType)) (base : Nat) (G : iv_G) (hty : iv_ty tys) (h0 sz : Nat) (hsz : sz = h0 + 1) (hbf : base ≤ h0) (hno : G h0 = none) : Met l yX8_init (Cond.code yX8_init cX8_init 3 none :: iv_W0) ({ frames := 1, cells := 1, slots := 60, locals := 12 }) (iv_PcM iv_sh D classes tys base G sz (fun H9 => t_OB h0 (D.1 8) 3 (D.2 8) H9 (fun j => defaultValue (tyX8 j))) [.ref h0, .int 3, .int 20]) (iv_QvM iv_sh D classes tys base h0 (fun G' => iv_gr h0 G G' ∧ ∃ (g : Nat → Int32) (r : Nat → Nat), G' h0 = some (8, g, r))) 1 60 (iv_A h0) := by
  refine iv_headM hbf (by omega) (by decide) (Nat.le_of_ble_eq_true rfl) ?_
  intro p e s m args below meth c ls X hr hlocks hname hz hO hB hl
  have hx := X.1.1
  have hb := X.1.2.1
  have hlt : h0 < s.heap.size := by omega
  have hgr : iv_gr h0 G G := iv_gr.rf
  have hl : lv_has ls 3 [(0, .ref h0), (1, .int 3), (2, .int 20)] := hl
  refine lv_aload_n hx hb dX8_init_0 rfl (lv_at hl 0 rfl) ?_
  refine W.objInit hx hb X.1.2.2.2.1 (X.1.2.2.2.2 _ k_oi_X8) (X.1.2.2.2.2 _ k_oim) (X.1.2.2.2.2 _ k_oic) rfl (by rw [X.1.2.2.1]; exact hl.1) rfl dX8_init_1 (Nat.le_of_ble_eq_true rfl) (Nat.le_of_ble_eq_true rfl) ?_
  refine W.eq (g2 := F0 m 4 ls []) rfl ?_
  refine lv_aload_n hx hb dX8_init_4 rfl (lv_at hl 0 rfl) ?_
  refine lv_iload_n hx hb dX8_init_5 rfl (lv_at hl 1 rfl) ?_
  refine iv_putF X hB ft_X8 hO hno (Nat.le_refl _) 0 (by decide) k_fl_X8_9 rfl hname rfl rfl rfl dX8_init_6 (fun H1 locs1 hO z1 o1 hB => ?_)
  have hlt : h0 < H1.size := by omega
  refine lv_aload_n hx hb dX8_init_9 rfl (lv_at hl 0 rfl) ?_
  refine lv_iload_n hx hb dX8_init_10 rfl (lv_at hl 1 rfl) ?_
  refine lv_iload_n hx hb dX8_init_11 rfl (lv_at hl 2 rfl) ?_
  refine lv_imul hx hb dX8_init_12 ?_
  have hBo := hB
  refine iv_newa X hB hty k_arr_int (cd := 22) (N := 60) sh_22 (iv_E.zr (by decide)) (by decide +kernel) (by decide +kernel) (by decide) (Nat.le_of_ble_eq_true rfl) (Nat.le_of_ble_eq_true rfl) dX8_init_13 (fun q2 H2 z2 y2 o2 n2 hB => ?_)
  have gr2 : iv_gr q2 G (iv_up G q2 (22, fun _ => 0, fun _ => 0)) := iv_gr.up (Nat.le_refl _)
  have t_q2 : iv_up G q2 (22, fun _ => 0, fun _ => 0) q2 = some (22, fun _ => 0, fun _ => 0) := iv_up_eq
  generalize eG2 : iv_up G q2 (22, fun _ => 0, fun _ => 0) = G2 at hB gr2 t_q2
  have hno := (gr2 h0 (by omega)).trans hno
  have hgr := hgr.tr gr2 (Nat.le_refl _) (by omega)
  have hO := hO.kept (o2 h0 (by omega))
  have hlt : h0 < H2.size := by omega
  refine iv_putF X hB ft_X8 hO hno (Nat.le_refl _) 1 (by decide) k_fl_X8_15 rfl hname rfl rfl rfl dX8_init_15 (fun H3 locs3 hO z3 o3 hB => ?_)
  have hlt : h0 < H3.size := by omega
  have hB := hB.close hno (Nat.le_refl _) (ci := 8) (cd := 8) (g := fun j => ([3, 0, 0] : List Int32).getD j 0) (rr := fun j => ([0, q2, 0] : List Nat).getD j 0) rfl hO sh_8 (fun j hj => match j, hj with | 0, _ => rfl | 1, _ => rfl | 2, _ => rfl | n + 3, h => absurd (show n + 3 < 3 from h) (by omega)) (fun j hj => match j, hj with | 0, _ => (iv_lit (by decide +kernel) : iv_R 3 3 (3 : Int32)).wk (by decide) | 1, _ => ⟨_, t_q2, rfl⟩ | 2, _ => (iv_lit (by decide +kernel) : iv_R 0 0 (0 : Int32)).wk (by decide) | n + 3, h => absurd (show n + 3 < 3 from h) (by omega))
  refine W.widen (k := 1) (n := 60) (Nat.le_of_ble_eq_true rfl) (Nat.le_of_ble_eq_true rfl) ?_
  exact iv_vretM X hr hlocks hB ⟨hgr.tr (iv_gr.up (Nat.le_refl _)) (Nat.le_refl _) (Nat.le_refl _), _, _, iv_up_eq⟩ dX8_init_18
set_option maxHeartbeats 8000000 in
set_option maxRecDepth 100000 in
theorem c_X8_init_13 (l : Launch) (D : va_G) (tys : List (ClassId × FieldType)) (base : Nat) (G : iv_G) (hty : iv_ty tys) (h0 sz : Nat) (hsz : sz = h0 + 1) (hbf : base ≤ h0) (hno : G h0 = none) : Met l yX8_init (Cond.code yX8_init cX8_init 3 none :: iv_W0) ({ frames := 1, cells := 1, slots := 480, locals := 12 }) (iv_PcM iv_sh D classes tys base G sz (fun H9 => t_OB h0 (D.1 8) 3 (D.2 8) H9 (fun j => defaultValue (tyX8 j))) [.ref h0, .int 4, .int 120]) (iv_QvM iv_sh D classes tys base h0 (fun G' => iv_gr h0 G G' ∧ ∃ (g : Nat → Int32) (r : Nat → Nat), G' h0 = some (13, g, r))) 1 480 (iv_A h0) := by
  refine iv_headM hbf (by omega) (by decide) (Nat.le_of_ble_eq_true rfl) ?_
  intro p e s m args below meth c ls X hr hlocks hname hz hO hB hl
  have hx := X.1.1
  have hb := X.1.2.1
  have hlt : h0 < s.heap.size := by omega
  have hgr : iv_gr h0 G G := iv_gr.rf
  have hl : lv_has ls 3 [(0, .ref h0), (1, .int 4), (2, .int 120)] := hl
  refine lv_aload_n hx hb dX8_init_0 rfl (lv_at hl 0 rfl) ?_
  refine W.objInit hx hb X.1.2.2.2.1 (X.1.2.2.2.2 _ k_oi_X8) (X.1.2.2.2.2 _ k_oim) (X.1.2.2.2.2 _ k_oic) rfl (by rw [X.1.2.2.1]; exact hl.1) rfl dX8_init_1 (Nat.le_of_ble_eq_true rfl) (Nat.le_of_ble_eq_true rfl) ?_
  refine W.eq (g2 := F0 m 4 ls []) rfl ?_
  refine lv_aload_n hx hb dX8_init_4 rfl (lv_at hl 0 rfl) ?_
  refine lv_iload_n hx hb dX8_init_5 rfl (lv_at hl 1 rfl) ?_
  refine iv_putF X hB ft_X8 hO hno (Nat.le_refl _) 0 (by decide) k_fl_X8_9 rfl hname rfl rfl rfl dX8_init_6 (fun H1 locs1 hO z1 o1 hB => ?_)
  have hlt : h0 < H1.size := by omega
  refine lv_aload_n hx hb dX8_init_9 rfl (lv_at hl 0 rfl) ?_
  refine lv_iload_n hx hb dX8_init_10 rfl (lv_at hl 1 rfl) ?_
  refine lv_iload_n hx hb dX8_init_11 rfl (lv_at hl 2 rfl) ?_
  refine lv_imul hx hb dX8_init_12 ?_
  have hBo := hB
  refine iv_newa X hB hty k_arr_int (cd := 23) (N := 480) sh_23 (iv_E.zr (by decide)) (by decide +kernel) (by decide +kernel) (by decide) (Nat.le_of_ble_eq_true rfl) (Nat.le_of_ble_eq_true rfl) dX8_init_13 (fun q2 H2 z2 y2 o2 n2 hB => ?_)
  have gr2 : iv_gr q2 G (iv_up G q2 (23, fun _ => 0, fun _ => 0)) := iv_gr.up (Nat.le_refl _)
  have t_q2 : iv_up G q2 (23, fun _ => 0, fun _ => 0) q2 = some (23, fun _ => 0, fun _ => 0) := iv_up_eq
  generalize eG2 : iv_up G q2 (23, fun _ => 0, fun _ => 0) = G2 at hB gr2 t_q2
  have hno := (gr2 h0 (by omega)).trans hno
  have hgr := hgr.tr gr2 (Nat.le_refl _) (by omega)
  have hO := hO.kept (o2 h0 (by omega))
  have hlt : h0 < H2.size := by omega
  refine iv_putF X hB ft_X8 hO hno (Nat.le_refl _) 1 (by decide) k_fl_X8_15 rfl hname rfl rfl rfl dX8_init_15 (fun H3 locs3 hO z3 o3 hB => ?_)
  have hlt : h0 < H3.size := by omega
  have hB := hB.close hno (Nat.le_refl _) (ci := 8) (cd := 13) (g := fun j => ([4, 0, 0] : List Int32).getD j 0) (rr := fun j => ([0, q2, 0] : List Nat).getD j 0) rfl hO sh_13 (fun j hj => match j, hj with | 0, _ => rfl | 1, _ => rfl | 2, _ => rfl | n + 3, h => absurd (show n + 3 < 3 from h) (by omega)) (fun j hj => match j, hj with | 0, _ => (iv_lit (by decide +kernel) : iv_R 4 4 (4 : Int32)).wk (by decide) | 1, _ => ⟨_, t_q2, rfl⟩ | 2, _ => (iv_lit (by decide +kernel) : iv_R 0 0 (0 : Int32)).wk (by decide) | n + 3, h => absurd (show n + 3 < 3 from h) (by omega))
  refine W.widen (k := 1) (n := 480) (Nat.le_of_ble_eq_true rfl) (Nat.le_of_ble_eq_true rfl) ?_
  exact iv_vretM X hr hlocks hB ⟨hgr.tr (iv_gr.up (Nat.le_refl _)) (Nat.le_refl _) (Nat.le_refl _), _, _, iv_up_eq⟩ dX8_init_18
set_option maxHeartbeats 8000000 in
set_option maxRecDepth 100000 in
theorem c_X8_init_14 (l : Launch) (D : va_G) (tys : List (ClassId × FieldType)) (base : Nat) (G : iv_G) (hty : iv_ty tys) (h0 sz : Nat) (hsz : sz = h0 + 1) (hbf : base ≤ h0) (hno : G h0 = none) : Met l yX8_init (Cond.code yX8_init cX8_init 3 none :: iv_W0) ({ frames := 1, cells := 1, slots := 36, locals := 12 }) (iv_PcM iv_sh D classes tys base G sz (fun H9 => t_OB h0 (D.1 8) 3 (D.2 8) H9 (fun j => defaultValue (tyX8 j))) [.ref h0, .int 3, .int 12]) (iv_QvM iv_sh D classes tys base h0 (fun G' => iv_gr h0 G G' ∧ ∃ (g : Nat → Int32) (r : Nat → Nat), G' h0 = some (14, g, r))) 1 36 (iv_A h0) := by
  refine iv_headM hbf (by omega) (by decide) (Nat.le_of_ble_eq_true rfl) ?_
  intro p e s m args below meth c ls X hr hlocks hname hz hO hB hl
  have hx := X.1.1
  have hb := X.1.2.1
  have hlt : h0 < s.heap.size := by omega
  have hgr : iv_gr h0 G G := iv_gr.rf
  have hl : lv_has ls 3 [(0, .ref h0), (1, .int 3), (2, .int 12)] := hl
  refine lv_aload_n hx hb dX8_init_0 rfl (lv_at hl 0 rfl) ?_
  refine W.objInit hx hb X.1.2.2.2.1 (X.1.2.2.2.2 _ k_oi_X8) (X.1.2.2.2.2 _ k_oim) (X.1.2.2.2.2 _ k_oic) rfl (by rw [X.1.2.2.1]; exact hl.1) rfl dX8_init_1 (Nat.le_of_ble_eq_true rfl) (Nat.le_of_ble_eq_true rfl) ?_
  refine W.eq (g2 := F0 m 4 ls []) rfl ?_
  refine lv_aload_n hx hb dX8_init_4 rfl (lv_at hl 0 rfl) ?_
  refine lv_iload_n hx hb dX8_init_5 rfl (lv_at hl 1 rfl) ?_
  refine iv_putF X hB ft_X8 hO hno (Nat.le_refl _) 0 (by decide) k_fl_X8_9 rfl hname rfl rfl rfl dX8_init_6 (fun H1 locs1 hO z1 o1 hB => ?_)
  have hlt : h0 < H1.size := by omega
  refine lv_aload_n hx hb dX8_init_9 rfl (lv_at hl 0 rfl) ?_
  refine lv_iload_n hx hb dX8_init_10 rfl (lv_at hl 1 rfl) ?_
  refine lv_iload_n hx hb dX8_init_11 rfl (lv_at hl 2 rfl) ?_
  refine lv_imul hx hb dX8_init_12 ?_
  have hBo := hB
  refine iv_newa X hB hty k_arr_int (cd := 24) (N := 36) sh_24 (iv_E.zr (by decide)) (by decide +kernel) (by decide +kernel) (by decide) (Nat.le_of_ble_eq_true rfl) (Nat.le_of_ble_eq_true rfl) dX8_init_13 (fun q2 H2 z2 y2 o2 n2 hB => ?_)
  have gr2 : iv_gr q2 G (iv_up G q2 (24, fun _ => 0, fun _ => 0)) := iv_gr.up (Nat.le_refl _)
  have t_q2 : iv_up G q2 (24, fun _ => 0, fun _ => 0) q2 = some (24, fun _ => 0, fun _ => 0) := iv_up_eq
  generalize eG2 : iv_up G q2 (24, fun _ => 0, fun _ => 0) = G2 at hB gr2 t_q2
  have hno := (gr2 h0 (by omega)).trans hno
  have hgr := hgr.tr gr2 (Nat.le_refl _) (by omega)
  have hO := hO.kept (o2 h0 (by omega))
  have hlt : h0 < H2.size := by omega
  refine iv_putF X hB ft_X8 hO hno (Nat.le_refl _) 1 (by decide) k_fl_X8_15 rfl hname rfl rfl rfl dX8_init_15 (fun H3 locs3 hO z3 o3 hB => ?_)
  have hlt : h0 < H3.size := by omega
  have hB := hB.close hno (Nat.le_refl _) (ci := 8) (cd := 14) (g := fun j => ([3, 0, 0] : List Int32).getD j 0) (rr := fun j => ([0, q2, 0] : List Nat).getD j 0) rfl hO sh_14 (fun j hj => match j, hj with | 0, _ => rfl | 1, _ => rfl | 2, _ => rfl | n + 3, h => absurd (show n + 3 < 3 from h) (by omega)) (fun j hj => match j, hj with | 0, _ => (iv_lit (by decide +kernel) : iv_R 3 3 (3 : Int32)).wk (by decide) | 1, _ => ⟨_, t_q2, rfl⟩ | 2, _ => (iv_lit (by decide +kernel) : iv_R 0 0 (0 : Int32)).wk (by decide) | n + 3, h => absurd (show n + 3 < 3 from h) (by omega))
  refine W.widen (k := 1) (n := 36) (Nat.le_of_ble_eq_true rfl) (Nat.le_of_ble_eq_true rfl) ?_
  exact iv_vretM X hr hlocks hB ⟨hgr.tr (iv_gr.up (Nat.le_refl _)) (Nat.le_refl _) (Nat.le_refl _), _, _, iv_up_eq⟩ dX8_init_18
theorem dX5_init_0 : decode cX5_init 0 = .ok (.aload_n 0, 1) := by decide +kernel
theorem dX5_init_1 : decode cX5_init 1 = .ok (.invokespecial 3, 3) := by decide +kernel
theorem dX5_init_4 : decode cX5_init 4 = .ok (.aload_n 0, 1) := by decide +kernel
theorem dX5_init_5 : decode cX5_init 5 = .ok (.bipush 10, 2) := by decide +kernel
theorem dX5_init_7 : decode cX5_init 7 = .ok (.anewarray 9, 3) := by decide +kernel
theorem dX5_init_10 : decode cX5_init 10 = .ok (.putfield 11, 3) := by decide +kernel
theorem dX5_init_13 : decode cX5_init 13 = .ok (.aload_n 0, 1) := by decide +kernel
theorem dX5_init_14 : decode cX5_init 14 = .ok (.bipush 16, 2) := by decide +kernel
theorem dX5_init_16 : decode cX5_init 16 = .ok (.newarray .int, 2) := by decide +kernel
theorem dX5_init_18 : decode cX5_init 18 = .ok (.putfield 17, 3) := by decide +kernel
theorem dX5_init_21 : decode cX5_init 21 = .ok (.aload_n 0, 1) := by decide +kernel
theorem dX5_init_22 : decode cX5_init 22 = .ok (.iconst 2, 1) := by decide +kernel
theorem dX5_init_23 : decode cX5_init 23 = .ok (.putfield 21, 3) := by decide +kernel
theorem dX5_init_26 : decode cX5_init 26 = .ok (.aload_n 0, 1) := by decide +kernel
theorem dX5_init_27 : decode cX5_init 27 = .ok (.new 25, 3) := by decide +kernel
theorem dX5_init_30 : decode cX5_init 30 = .ok (.dup, 1) := by decide +kernel
theorem dX5_init_31 : decode cX5_init 31 = .ok (.iconst 3, 1) := by decide +kernel
theorem dX5_init_32 : decode cX5_init 32 = .ok (.bipush 20, 2) := by decide +kernel
theorem dX5_init_34 : decode cX5_init 34 = .ok (.invokespecial 27, 3) := by decide +kernel
theorem dX5_init_37 : decode cX5_init 37 = .ok (.putfield 30, 3) := by decide +kernel
theorem dX5_init_40 : decode cX5_init 40 = .ok (.aload_n 0, 1) := by decide +kernel
theorem dX5_init_41 : decode cX5_init 41 = .ok (.new 25, 3) := by decide +kernel
theorem dX5_init_44 : decode cX5_init 44 = .ok (.dup, 1) := by decide +kernel
theorem dX5_init_45 : decode cX5_init 45 = .ok (.iconst 4, 1) := by decide +kernel
theorem dX5_init_46 : decode cX5_init 46 = .ok (.bipush 120, 2) := by decide +kernel
theorem dX5_init_48 : decode cX5_init 48 = .ok (.invokespecial 27, 3) := by decide +kernel
theorem dX5_init_51 : decode cX5_init 51 = .ok (.putfield 34, 3) := by decide +kernel
theorem dX5_init_54 : decode cX5_init 54 = .ok (.aload_n 0, 1) := by decide +kernel
theorem dX5_init_55 : decode cX5_init 55 = .ok (.new 25, 3) := by decide +kernel
theorem dX5_init_58 : decode cX5_init 58 = .ok (.dup, 1) := by decide +kernel
theorem dX5_init_59 : decode cX5_init 59 = .ok (.iconst 3, 1) := by decide +kernel
theorem dX5_init_60 : decode cX5_init 60 = .ok (.bipush 12, 2) := by decide +kernel
theorem dX5_init_62 : decode cX5_init 62 = .ok (.invokespecial 27, 3) := by decide +kernel
theorem dX5_init_65 : decode cX5_init 65 = .ok (.putfield 37, 3) := by decide +kernel
theorem dX5_init_68 : decode cX5_init 68 = .ok (.aload_n 0, 1) := by decide +kernel
theorem dX5_init_69 : decode cX5_init 69 = .ok (.bipush 10, 2) := by decide +kernel
theorem dX5_init_71 : decode cX5_init 71 = .ok (.newarray .int, 2) := by decide +kernel
theorem dX5_init_73 : decode cX5_init 73 = .ok (.putfield 40, 3) := by decide +kernel
theorem dX5_init_76 : decode cX5_init 76 = .ok (.aload_n 0, 1) := by decide +kernel
theorem dX5_init_77 : decode cX5_init 77 = .ok (.invokestatic 43, 3) := by decide +kernel
theorem dX5_init_80 : decode cX5_init 80 = .ok (.putfield 49, 3) := by decide +kernel
theorem dX5_init_83 : decode cX5_init 83 = .ok (.aload_n 0, 1) := by decide +kernel
theorem dX5_init_84 : decode cX5_init 84 = .ok (.invokestatic 43, 3) := by decide +kernel
theorem dX5_init_87 : decode cX5_init 87 = .ok (.putfield 53, 3) := by decide +kernel
theorem dX5_init_90 : decode cX5_init 90 = .ok (.iconst 0, 1) := by decide +kernel
theorem dX5_init_91 : decode cX5_init 91 = .ok (.istore_n 1, 1) := by decide +kernel
theorem dX5_init_92 : decode cX5_init 92 = .ok (.iload_n 1, 1) := by decide +kernel
theorem dX5_init_93 : decode cX5_init 93 = .ok (.bipush 10, 2) := by decide +kernel
theorem dX5_init_95 : decode cX5_init 95 = .ok (.if_icmp .ge 22, 3) := by decide +kernel
theorem dX5_init_98 : decode cX5_init 98 = .ok (.aload_n 0, 1) := by decide +kernel
theorem dX5_init_99 : decode cX5_init 99 = .ok (.getfield 11, 3) := by decide +kernel
theorem dX5_init_102 : decode cX5_init 102 = .ok (.iload_n 1, 1) := by decide +kernel
theorem dX5_init_103 : decode cX5_init 103 = .ok (.new 9, 3) := by decide +kernel
theorem dX5_init_106 : decode cX5_init 106 = .ok (.dup, 1) := by decide +kernel
theorem dX5_init_107 : decode cX5_init 107 = .ok (.invokespecial 56, 3) := by decide +kernel
theorem dX5_init_110 : decode cX5_init 110 = .ok (.aastore, 1) := by decide +kernel
theorem dX5_init_111 : decode cX5_init 111 = .ok (.iinc 1 1, 3) := by decide +kernel
theorem dX5_init_114 : decode cX5_init 114 = .ok (.goto (-22), 3) := by decide +kernel
theorem dX5_init_117 : decode cX5_init 117 = .ok (.return_, 1) := by decide +kernel
set_option maxHeartbeats 8000000 in
set_option maxRecDepth 100000 in
theorem c_X5_init (l : Launch) (D : va_G) (tys : List (ClassId × FieldType)) (base : Nat) (G : iv_G) (hty : iv_ty tys) (h0 sz : Nat) (hsz : sz = h0 + 1) (hbf : base ≤ h0) (hno : G h0 = none) : Met l yX5_init (Cond.code yX5_init cX5_init 2 none :: iv_W0) ({ frames := 4, cells := 35, slots := 2495, locals := 129 }) (iv_PcM iv_sh D classes tys base G sz (fun H9 => t_OB h0 (D.1 5) 15 (D.2 5) H9 (fun j => defaultValue (tyX5 j))) [.ref h0]) (iv_QvM iv_sh D classes tys base h0 (fun G' => iv_gr h0 G G' ∧ ∃ (g : Nat → Int32) (r : Nat → Nat), G' h0 = some (5, g, r) ∧ g 1 = 0)) 35 2495 (iv_A h0) := by
  refine iv_headM hbf (by omega) (by decide) (Nat.le_of_ble_eq_true rfl) ?_
  intro p e s m args below meth c ls X hr hlocks hname hz hO hB hl
  have hx := X.1.1
  have hb := X.1.2.1
  have hlt : h0 < s.heap.size := by omega
  have hgr : iv_gr h0 G G := iv_gr.rf
  have hl : lv_has ls 2 [(0, .ref h0)] := hl
  refine lv_aload_n hx hb dX5_init_0 rfl (lv_at hl 0 rfl) ?_
  refine W.objInit hx hb X.1.2.2.2.1 (X.1.2.2.2.2 _ k_oi_X5) (X.1.2.2.2.2 _ k_oim) (X.1.2.2.2.2 _ k_oic) rfl (by rw [X.1.2.2.1]; exact hl.1) rfl dX5_init_1 (Nat.le_of_ble_eq_true rfl) (Nat.le_of_ble_eq_true rfl) ?_
  refine W.eq (g2 := F0 m 4 ls []) rfl ?_
  refine lv_aload_n hx hb dX5_init_4 rfl (lv_at hl 0 rfl) ?_
  refine lv_bipush (v := 10) hx hb dX5_init_5 (by decide) ?_
  obtain ⟨cB, htB⟩ := hty.2.1
  refine iv_newq X hB htB k_cl_X5_9 (N := 10) (by decide +kernel) (by decide +kernel) (by decide) (Nat.le_of_ble_eq_true rfl) (Nat.le_of_ble_eq_true rfl) dX5_init_7 (fun q1 H1 z1 y1 o1 hnq hA hB => ?_)
  have hO := hO.kept (o1 h0 (by omega))
  have hlt : h0 < H1.size := by omega
  refine iv_putF X hB ft_X5 hO hno (Nat.le_refl _) 0 (by decide) k_fl_X5_11 rfl hname rfl rfl rfl dX5_init_10 (fun H2 locs2 hO z2 o2 hB => ?_)
  have hA := (o2 q1 (by omega)).trans hA
  have hlt : h0 < H2.size := by omega
  refine lv_aload_n hx hb dX5_init_13 rfl (lv_at hl 0 rfl) ?_
  refine lv_bipush (v := 16) hx hb dX5_init_14 (by decide) ?_
  have hBo := hB
  refine iv_newa X hB hty k_arr_int (cd := 20) (N := 16) sh_20 (iv_E.zr (by decide)) (by decide +kernel) (by decide +kernel) (by decide) (Nat.le_of_ble_eq_true rfl) (Nat.le_of_ble_eq_true rfl) dX5_init_16 (fun q3 H3 z3 y3 o3 n3 hB => ?_)
  have gr3 : iv_gr q3 G (iv_up G q3 (20, fun _ => 0, fun _ => 0)) := iv_gr.up (Nat.le_refl _)
  have t_q3 : iv_up G q3 (20, fun _ => 0, fun _ => 0) q3 = some (20, fun _ => 0, fun _ => 0) := iv_up_eq
  generalize eG3 : iv_up G q3 (20, fun _ => 0, fun _ => 0) = G3 at hB gr3 t_q3
  have hno := (gr3 h0 (by omega)).trans hno
  have hnq := (gr3 q1 (by omega)).trans hnq
  have hgr := hgr.tr gr3 (Nat.le_refl _) (by omega)
  have hO := hO.kept (o3 h0 (by omega))
  have hA := (o3 q1 (by omega)).trans hA
  have hlt : h0 < H3.size := by omega
  refine iv_putF X hB ft_X5 hO hno (Nat.le_refl _) 2 (by decide) k_fl_X5_17 rfl hname rfl rfl rfl dX5_init_18 (fun H4 locs4 hO z4 o4 hB => ?_)
  have hA := (o4 q1 (by omega)).trans hA
  have hlt : h0 < H4.size := by omega
  refine lv_aload_n hx hb dX5_init_21 rfl (lv_at hl 0 rfl) ?_
  refine lv_iconst (v := 2) hx hb dX5_init_22 (by decide) ?_
  refine iv_putU X hB ft_X5 hO hno (Nat.le_refl _) 3 (by decide) k_fl_X5_21 rfl rfl rfl dX5_init_23 (fun H5 locs5 hO z5 o5 hB => ?_)
  have hA := (o5 q1 (by omega)).trans hA
  have hlt : h0 < H5.size := by omega
  refine lv_aload_n hx hb dX5_init_26 rfl (lv_at hl 0 rfl) ?_
  refine iv_newo X hB ft_X8 k_cl_X5_25 k_it_X8 k_ii_X8 (Nat.le_of_ble_eq_true rfl) (Nat.le_of_ble_eq_true rfl) dX5_init_27 (fun q6 H6 z6 y6 o6 hOq n6 hB => ?_)
  have hO := hO.kept (o6 h0 (by omega))
  have hA := (o6 q1 (by omega)).trans hA
  have hlt : h0 < H6.size := by omega
  refine lv_dup hx hb dX5_init_30 rfl ?_
  refine lv_iconst (v := 3) hx hb dX5_init_31 (by decide) ?_
  refine lv_bipush (v := 20) hx hb dX5_init_32 (by decide) ?_
  have hBo := hB
  refine iv_cI X k_good k_mf_X8_init rfl k_im_X8_init (Or.inl k_ml_X5_27) hB (show h0 ≤ q6 by omega) (O := fun H9 => t_OB q6 (D.1 8) 3 (D.2 8) H9 (fun j => defaultValue (tyX8 j))) hOq rfl (As := [.int 3, .int 20]) (c_X8_init_8 l D tys base G3 hty q6 _ (show H6.size = q6 + 1 by omega) (by omega) n6) ⟨rfl, rfl⟩ ⟨Nat.le_of_ble_eq_true rfl, Nat.le_of_ble_eq_true rfl⟩ ⟨Nat.le_of_ble_eq_true rfl, Nat.le_of_ble_eq_true rfl⟩ rfl rfl hl.1 (Nat.le_of_ble_eq_true rfl) dX5_init_34 (fun G7 H7 locs7 hw z7 hk hB => ?_)
  obtain ⟨gr7, g_q6, r_q6, t_q6⟩ := hw
  have t_q3 := gr7.kp hBo.1 (by omega) n6 t_q3
  have hno := (gr7 h0 (by omega)).trans hno
  have hnq := (gr7 q1 (by omega)).trans hnq
  have hgr := hgr.tr gr7 (Nat.le_refl _) (by omega)
  have hO := hO.kept (hk h0 (by omega) (by omega))
  have hA := (hk q1 (by omega) (by omega)).trans hA
  have hlt : h0 < H7.size := by omega
  refine iv_putF X hB ft_X5 hO hno (Nat.le_refl _) 8 (by decide) k_fl_X5_30 rfl hname rfl rfl rfl dX5_init_37 (fun H8 locs8 hO z8 o8 hB => ?_)
  have hA := (o8 q1 (by omega)).trans hA
  have hlt : h0 < H8.size := by omega
  refine lv_aload_n hx hb dX5_init_40 rfl (lv_at hl 0 rfl) ?_
  refine iv_newo X hB ft_X8 k_cl_X5_25 k_it_X8 k_ii_X8 (Nat.le_of_ble_eq_true rfl) (Nat.le_of_ble_eq_true rfl) dX5_init_41 (fun q9 H9 z9 y9 o9 hOq n9 hB => ?_)
  have hO := hO.kept (o9 h0 (by omega))
  have hA := (o9 q1 (by omega)).trans hA
  have hlt : h0 < H9.size := by omega
  refine lv_dup hx hb dX5_init_44 rfl ?_
  refine lv_iconst (v := 4) hx hb dX5_init_45 (by decide) ?_
  refine lv_bipush (v := 120) hx hb dX5_init_46 (by decide) ?_
  have hBo := hB
  refine iv_cI X k_good k_mf_X8_init rfl k_im_X8_init (Or.inl k_ml_X5_27) hB (show h0 ≤ q9 by omega) (O := fun H9 => t_OB q9 (D.1 8) 3 (D.2 8) H9 (fun j => defaultValue (tyX8 j))) hOq rfl (As := [.int 4, .int 120]) (c_X8_init_13 l D tys base G7 hty q9 _ (show H9.size = q9 + 1 by omega) (by omega) n9) ⟨rfl, rfl⟩ ⟨Nat.le_of_ble_eq_true rfl, Nat.le_of_ble_eq_true rfl⟩ ⟨Nat.le_of_ble_eq_true rfl, Nat.le_of_ble_eq_true rfl⟩ rfl rfl hl.1 (Nat.le_of_ble_eq_true rfl) dX5_init_48 (fun G10 H10 locs10 hw z10 hk hB => ?_)
  obtain ⟨gr10, g_q9, r_q9, t_q9⟩ := hw
  have t_q3 := gr10.kp hBo.1 (by omega) n9 t_q3
  have t_q6 := gr10.kp hBo.1 (by omega) n9 t_q6
  have hno := (gr10 h0 (by omega)).trans hno
  have hnq := (gr10 q1 (by omega)).trans hnq
  have hgr := hgr.tr gr10 (Nat.le_refl _) (by omega)
  have hO := hO.kept (hk h0 (by omega) (by omega))
  have hA := (hk q1 (by omega) (by omega)).trans hA
  have hlt : h0 < H10.size := by omega
  refine iv_putF X hB ft_X5 hO hno (Nat.le_refl _) 9 (by decide) k_fl_X5_34 rfl hname rfl rfl rfl dX5_init_51 (fun H11 locs11 hO z11 o11 hB => ?_)
  have hA := (o11 q1 (by omega)).trans hA
  have hlt : h0 < H11.size := by omega
  refine lv_aload_n hx hb dX5_init_54 rfl (lv_at hl 0 rfl) ?_
  refine iv_newo X hB ft_X8 k_cl_X5_25 k_it_X8 k_ii_X8 (Nat.le_of_ble_eq_true rfl) (Nat.le_of_ble_eq_true rfl) dX5_init_55 (fun q12 H12 z12 y12 o12 hOq n12 hB => ?_)
  have hO := hO.kept (o12 h0 (by omega))
  have hA := (o12 q1 (by omega)).trans hA
  have hlt : h0 < H12.size := by omega
  refine lv_dup hx hb dX5_init_58 rfl ?_
  refine lv_iconst (v := 3) hx hb dX5_init_59 (by decide) ?_
  refine lv_bipush (v := 12) hx hb dX5_init_60 (by decide) ?_
  have hBo := hB
  refine iv_cI X k_good k_mf_X8_init rfl k_im_X8_init (Or.inl k_ml_X5_27) hB (show h0 ≤ q12 by omega) (O := fun H9 => t_OB q12 (D.1 8) 3 (D.2 8) H9 (fun j => defaultValue (tyX8 j))) hOq rfl (As := [.int 3, .int 12]) (c_X8_init_14 l D tys base G10 hty q12 _ (show H12.size = q12 + 1 by omega) (by omega) n12) ⟨rfl, rfl⟩ ⟨Nat.le_of_ble_eq_true rfl, Nat.le_of_ble_eq_true rfl⟩ ⟨Nat.le_of_ble_eq_true rfl, Nat.le_of_ble_eq_true rfl⟩ rfl rfl hl.1 (Nat.le_of_ble_eq_true rfl) dX5_init_62 (fun G13 H13 locs13 hw z13 hk hB => ?_)
  obtain ⟨gr13, g_q12, r_q12, t_q12⟩ := hw
  have t_q3 := gr13.kp hBo.1 (by omega) n12 t_q3
  have t_q6 := gr13.kp hBo.1 (by omega) n12 t_q6
  have t_q9 := gr13.kp hBo.1 (by omega) n12 t_q9
  have hno := (gr13 h0 (by omega)).trans hno
  have hnq := (gr13 q1 (by omega)).trans hnq
  have hgr := hgr.tr gr13 (Nat.le_refl _) (by omega)
  have hO := hO.kept (hk h0 (by omega) (by omega))
  have hA := (hk q1 (by omega) (by omega)).trans hA
  have hlt : h0 < H13.size := by omega
  refine iv_putF X hB ft_X5 hO hno (Nat.le_refl _) 10 (by decide) k_fl_X5_37 rfl hname rfl rfl rfl dX5_init_65 (fun H14 locs14 hO z14 o14 hB => ?_)
  have hA := (o14 q1 (by omega)).trans hA
  have hlt : h0 < H14.size := by omega
  refine lv_aload_n hx hb dX5_init_68 rfl (lv_at hl 0 rfl) ?_
  refine lv_bipush (v := 10) hx hb dX5_init_69 (by decide) ?_
  have hBo := hB
  refine iv_newa X hB hty k_arr_int (cd := 21) (N := 10) sh_21 (iv_E.zr (by decide)) (by decide +kernel) (by decide +kernel) (by decide) (Nat.le_of_ble_eq_true rfl) (Nat.le_of_ble_eq_true rfl) dX5_init_71 (fun q15 H15 z15 y15 o15 n15 hB => ?_)
  have gr15 : iv_gr q15 G13 (iv_up G13 q15 (21, fun _ => 0, fun _ => 0)) := iv_gr.up (Nat.le_refl _)
  have t_q15 : iv_up G13 q15 (21, fun _ => 0, fun _ => 0) q15 = some (21, fun _ => 0, fun _ => 0) := iv_up_eq
  generalize eG15 : iv_up G13 q15 (21, fun _ => 0, fun _ => 0) = G15 at hB gr15 t_q15
  have t_q3 := gr15.kp hBo.1 (by omega) n15 t_q3
  have t_q6 := gr15.kp hBo.1 (by omega) n15 t_q6
  have t_q9 := gr15.kp hBo.1 (by omega) n15 t_q9
  have t_q12 := gr15.kp hBo.1 (by omega) n15 t_q12
  have hno := (gr15 h0 (by omega)).trans hno
  have hnq := (gr15 q1 (by omega)).trans hnq
  have hgr := hgr.tr gr15 (Nat.le_refl _) (by omega)
  have hO := hO.kept (o15 h0 (by omega))
  have hA := (o15 q1 (by omega)).trans hA
  have hlt : h0 < H15.size := by omega
  refine iv_putF X hB ft_X5 hO hno (Nat.le_refl _) 11 (by decide) k_fl_X5_40 rfl hname rfl rfl rfl dX5_init_73 (fun H16 locs16 hO z16 o16 hB => ?_)
  have hA := (o16 q1 (by omega)).trans hA
  have hlt : h0 < H16.size := by omega
  refine lv_aload_n hx hb dX5_init_76 rfl (lv_at hl 0 rfl) ?_
  have hBo := hB
  refine iv_cSr X k_good k_mf_X3_withoutLines k_st_X3_withoutLines k_ml_X5_43 hB (O := fun _ => True) trivial rfl (As := []) (c_X3_withoutLines l D tys base G15 hty H16.size (by omega)) ⟨rfl, rfl⟩ ⟨Nat.le_of_ble_eq_true rfl, Nat.le_of_ble_eq_true rfl⟩ ⟨Nat.le_of_ble_eq_true rfl, Nat.le_of_ble_eq_true rfl⟩ rfl rfl hl.1 (Nat.le_of_ble_eq_true rfl) dX5_init_77 (fun q17 G17 H17 locs17 hw z17 hk hB => ?_)
  obtain ⟨y17, gr17, g_q17, r_q17, t_q17⟩ := hw
  have t_q3 := hBo.1.keep (Nat.le_refl _) gr17 t_q3
  have t_q6 := hBo.1.keep (Nat.le_refl _) gr17 t_q6
  have t_q9 := hBo.1.keep (Nat.le_refl _) gr17 t_q9
  have t_q12 := hBo.1.keep (Nat.le_refl _) gr17 t_q12
  have t_q15 := hBo.1.keep (Nat.le_refl _) gr17 t_q15
  have hno := (gr17 h0 (by omega)).trans hno
  have hnq := (gr17 q1 (by omega)).trans hnq
  have hgr := hgr.tr gr17 (Nat.le_refl _) (by omega)
  have hO := hO.kept (hk h0 (by omega))
  have hA := (hk q1 (by omega)).trans hA
  have hlt : h0 < H17.size := by omega
  refine iv_putU X hB ft_X5 hO hno (Nat.le_refl _) 13 (by decide) k_fl_X5_49 rfl rfl rfl dX5_init_80 (fun H18 locs18 hO z18 o18 hB => ?_)
  have hA := (o18 q1 (by omega)).trans hA
  have hlt : h0 < H18.size := by omega
  refine lv_aload_n hx hb dX5_init_83 rfl (lv_at hl 0 rfl) ?_
  have hBo := hB
  refine iv_cSr X k_good k_mf_X3_withoutLines k_st_X3_withoutLines k_ml_X5_43 hB (O := fun _ => True) trivial rfl (As := []) (c_X3_withoutLines l D tys base G17 hty H18.size (by omega)) ⟨rfl, rfl⟩ ⟨Nat.le_of_ble_eq_true rfl, Nat.le_of_ble_eq_true rfl⟩ ⟨Nat.le_of_ble_eq_true rfl, Nat.le_of_ble_eq_true rfl⟩ rfl rfl hl.1 (Nat.le_of_ble_eq_true rfl) dX5_init_84 (fun q19 G19 H19 locs19 hw z19 hk hB => ?_)
  obtain ⟨y19, gr19, g_q19, r_q19, t_q19⟩ := hw
  have t_q3 := hBo.1.keep (Nat.le_refl _) gr19 t_q3
  have t_q6 := hBo.1.keep (Nat.le_refl _) gr19 t_q6
  have t_q9 := hBo.1.keep (Nat.le_refl _) gr19 t_q9
  have t_q12 := hBo.1.keep (Nat.le_refl _) gr19 t_q12
  have t_q15 := hBo.1.keep (Nat.le_refl _) gr19 t_q15
  have t_q17 := hBo.1.keep (Nat.le_refl _) gr19 t_q17
  have hno := (gr19 h0 (by omega)).trans hno
  have hnq := (gr19 q1 (by omega)).trans hnq
  have hgr := hgr.tr gr19 (Nat.le_refl _) (by omega)
  have hO := hO.kept (hk h0 (by omega))
  have hA := (hk q1 (by omega)).trans hA
  have hlt : h0 < H19.size := by omega
  refine iv_putU X hB ft_X5 hO hno (Nat.le_refl _) 14 (by decide) k_fl_X5_53 rfl rfl rfl dX5_init_87 (fun H20 locs20 hO z20 o20 hB => ?_)
  have hA := (o20 q1 (by omega)).trans hA
  have hlt : h0 < H20.size := by omega
  refine lv_iconst (v := 0) hx hb dX5_init_90 (by decide) ?_
  refine lv_istore_n (lv' := [(1, .int 0), (0, .ref h0)]) hx hb dX5_init_91 rfl hl (by decide) rfl (fun ls hl => ?_)
  refine lv_iload_n hx hb dX5_init_92 rfl (lv_at hl 0 rfl) ?_
  refine lv_bipush (v := 10) hx hb dX5_init_93 (by decide) ?_
  refine lv_icmp_ge (tgt := 117) hx hb dX5_init_95 (by decide) (fun c9 => absurd c9 (by decide)) (fun _ => ?_)
  refine lv_aload_n hx hb dX5_init_98 rfl (lv_at hl 1 rfl) ?_
  refine iv_getU X ft_X5 hO 0 (by decide) (v := .ref q1) rfl k_fl_X5_11 dX5_init_99 ?_
  refine lv_iload_n hx hb dX5_init_102 rfl (lv_at hl 0 rfl) ?_
  refine iv_newo X hB ft_X1 k_cl_X5_9 k_it_X1 k_ii_X1 (Nat.le_of_ble_eq_true rfl) (Nat.le_of_ble_eq_true rfl) dX5_init_103 (fun q21 H21 z21 y21 o21 hOq n21 hB => ?_)
  have hO := hO.kept (o21 h0 (by omega))
  have hA := (o21 q1 (by omega)).trans hA
  have hlt : h0 < H21.size := by omega
  refine lv_dup hx hb dX5_init_106 rfl ?_
  have hBo := hB
  refine iv_cI X k_good k_mf_X1_init rfl k_im_X1_init (Or.inr ⟨_, k_mn_X5_56 X.2.2⟩) hB (show h0 ≤ q21 by omega) (O := fun H9 => t_OB q21 (D.1 1) 8 (D.2 1) H9 (fun j => defaultValue (tyX1 j))) hOq rfl (As := []) (c_X1_init l D tys base G19 hty q21 _ (show H21.size = q21 + 1 by omega) (by omega) n21) ⟨rfl, rfl⟩ ⟨Nat.le_of_ble_eq_true rfl, Nat.le_of_ble_eq_true rfl⟩ ⟨Nat.le_of_ble_eq_true rfl, Nat.le_of_ble_eq_true rfl⟩ rfl rfl hl.1 (Nat.le_of_ble_eq_true rfl) dX5_init_107 (fun G22 H22 locs22 hw z22 hk hB => ?_)
  obtain ⟨gr22, g_q21, r_q21, t_q21⟩ := hw
  have t_q3 := gr22.kp hBo.1 (by omega) n21 t_q3
  have t_q6 := gr22.kp hBo.1 (by omega) n21 t_q6
  have t_q9 := gr22.kp hBo.1 (by omega) n21 t_q9
  have t_q12 := gr22.kp hBo.1 (by omega) n21 t_q12
  have t_q15 := gr22.kp hBo.1 (by omega) n21 t_q15
  have t_q17 := gr22.kp hBo.1 (by omega) n21 t_q17
  have t_q19 := gr22.kp hBo.1 (by omega) n21 t_q19
  have hno := (gr22 h0 (by omega)).trans hno
  have hnq := (gr22 q1 (by omega)).trans hnq
  have hgr := hgr.tr gr22 (Nat.le_refl _) (by omega)
  have hO := hO.kept (hk h0 (by omega) (by omega))
  have hA := (hk q1 (by omega) (by omega)).trans hA
  have hlt : h0 < H22.size := by omega
  refine iv_astU X hB htB hA hnq (by omega) (ci := 1) rfl rfl t_q21 sh_1 (iv_in (q_0) (by decide)) dX5_init_110 (fun H23 locs23 hA z23 o23 hB => ?_)
  have hO := hO.kept (o23 h0 (by omega))
  have hlt : h0 < H23.size := by omega
  refine lv_iinc (v := 1) (lv' := [(1, .int 1), (0, .ref h0)]) (k := 0) hx hb dX5_init_111 hl rfl (by decide) (by decide) rfl (fun ls hl => ?_)
  refine lv_goto (tgt := 92) hx hb dX5_init_114 (by decide) ?_
  refine lv_iload_n hx hb dX5_init_92 rfl (lv_at hl 0 rfl) ?_
  refine lv_bipush (v := 10) hx hb dX5_init_93 (by decide) ?_
  refine lv_icmp_ge (tgt := 117) hx hb dX5_init_95 (by decide) (fun c9 => absurd c9 (by decide)) (fun _ => ?_)
  refine lv_aload_n hx hb dX5_init_98 rfl (lv_at hl 1 rfl) ?_
  refine iv_getU X ft_X5 hO 0 (by decide) (v := .ref q1) rfl k_fl_X5_11 dX5_init_99 ?_
  refine lv_iload_n hx hb dX5_init_102 rfl (lv_at hl 0 rfl) ?_
  refine iv_newo X hB ft_X1 k_cl_X5_9 k_it_X1 k_ii_X1 (Nat.le_of_ble_eq_true rfl) (Nat.le_of_ble_eq_true rfl) dX5_init_103 (fun q24 H24 z24 y24 o24 hOq n24 hB => ?_)
  have hO := hO.kept (o24 h0 (by omega))
  have hA := (o24 q1 (by omega)).trans hA
  have hlt : h0 < H24.size := by omega
  refine lv_dup hx hb dX5_init_106 rfl ?_
  have hBo := hB
  refine iv_cI X k_good k_mf_X1_init rfl k_im_X1_init (Or.inr ⟨_, k_mn_X5_56 X.2.2⟩) hB (show h0 ≤ q24 by omega) (O := fun H9 => t_OB q24 (D.1 1) 8 (D.2 1) H9 (fun j => defaultValue (tyX1 j))) hOq rfl (As := []) (c_X1_init l D tys base G22 hty q24 _ (show H24.size = q24 + 1 by omega) (by omega) n24) ⟨rfl, rfl⟩ ⟨Nat.le_of_ble_eq_true rfl, Nat.le_of_ble_eq_true rfl⟩ ⟨Nat.le_of_ble_eq_true rfl, Nat.le_of_ble_eq_true rfl⟩ rfl rfl hl.1 (Nat.le_of_ble_eq_true rfl) dX5_init_107 (fun G25 H25 locs25 hw z25 hk hB => ?_)
  obtain ⟨gr25, g_q24, r_q24, t_q24⟩ := hw
  have t_q3 := gr25.kp hBo.1 (by omega) n24 t_q3
  have t_q6 := gr25.kp hBo.1 (by omega) n24 t_q6
  have t_q9 := gr25.kp hBo.1 (by omega) n24 t_q9
  have t_q12 := gr25.kp hBo.1 (by omega) n24 t_q12
  have t_q15 := gr25.kp hBo.1 (by omega) n24 t_q15
  have t_q17 := gr25.kp hBo.1 (by omega) n24 t_q17
  have t_q19 := gr25.kp hBo.1 (by omega) n24 t_q19
  have t_q21 := gr25.kp hBo.1 (by omega) n24 t_q21
  have hno := (gr25 h0 (by omega)).trans hno
  have hnq := (gr25 q1 (by omega)).trans hnq
  have hgr := hgr.tr gr25 (Nat.le_refl _) (by omega)
  have hO := hO.kept (hk h0 (by omega) (by omega))
  have hA := (hk q1 (by omega) (by omega)).trans hA
  have hlt : h0 < H25.size := by omega
  refine iv_astU X hB htB hA hnq (by omega) (ci := 1) rfl rfl t_q24 sh_1 (iv_in (q_1) (by decide)) dX5_init_110 (fun H26 locs26 hA z26 o26 hB => ?_)
  have hO := hO.kept (o26 h0 (by omega))
  have hlt : h0 < H26.size := by omega
  refine lv_iinc (v := 2) (lv' := [(1, .int 2), (0, .ref h0)]) (k := 0) hx hb dX5_init_111 hl rfl (by decide) (by decide) rfl (fun ls hl => ?_)
  refine lv_goto (tgt := 92) hx hb dX5_init_114 (by decide) ?_
  refine lv_iload_n hx hb dX5_init_92 rfl (lv_at hl 0 rfl) ?_
  refine lv_bipush (v := 10) hx hb dX5_init_93 (by decide) ?_
  refine lv_icmp_ge (tgt := 117) hx hb dX5_init_95 (by decide) (fun c9 => absurd c9 (by decide)) (fun _ => ?_)
  refine lv_aload_n hx hb dX5_init_98 rfl (lv_at hl 1 rfl) ?_
  refine iv_getU X ft_X5 hO 0 (by decide) (v := .ref q1) rfl k_fl_X5_11 dX5_init_99 ?_
  refine lv_iload_n hx hb dX5_init_102 rfl (lv_at hl 0 rfl) ?_
  refine iv_newo X hB ft_X1 k_cl_X5_9 k_it_X1 k_ii_X1 (Nat.le_of_ble_eq_true rfl) (Nat.le_of_ble_eq_true rfl) dX5_init_103 (fun q27 H27 z27 y27 o27 hOq n27 hB => ?_)
  have hO := hO.kept (o27 h0 (by omega))
  have hA := (o27 q1 (by omega)).trans hA
  have hlt : h0 < H27.size := by omega
  refine lv_dup hx hb dX5_init_106 rfl ?_
  have hBo := hB
  refine iv_cI X k_good k_mf_X1_init rfl k_im_X1_init (Or.inr ⟨_, k_mn_X5_56 X.2.2⟩) hB (show h0 ≤ q27 by omega) (O := fun H9 => t_OB q27 (D.1 1) 8 (D.2 1) H9 (fun j => defaultValue (tyX1 j))) hOq rfl (As := []) (c_X1_init l D tys base G25 hty q27 _ (show H27.size = q27 + 1 by omega) (by omega) n27) ⟨rfl, rfl⟩ ⟨Nat.le_of_ble_eq_true rfl, Nat.le_of_ble_eq_true rfl⟩ ⟨Nat.le_of_ble_eq_true rfl, Nat.le_of_ble_eq_true rfl⟩ rfl rfl hl.1 (Nat.le_of_ble_eq_true rfl) dX5_init_107 (fun G28 H28 locs28 hw z28 hk hB => ?_)
  obtain ⟨gr28, g_q27, r_q27, t_q27⟩ := hw
  have t_q3 := gr28.kp hBo.1 (by omega) n27 t_q3
  have t_q6 := gr28.kp hBo.1 (by omega) n27 t_q6
  have t_q9 := gr28.kp hBo.1 (by omega) n27 t_q9
  have t_q12 := gr28.kp hBo.1 (by omega) n27 t_q12
  have t_q15 := gr28.kp hBo.1 (by omega) n27 t_q15
  have t_q17 := gr28.kp hBo.1 (by omega) n27 t_q17
  have t_q19 := gr28.kp hBo.1 (by omega) n27 t_q19
  have t_q21 := gr28.kp hBo.1 (by omega) n27 t_q21
  have t_q24 := gr28.kp hBo.1 (by omega) n27 t_q24
  have hno := (gr28 h0 (by omega)).trans hno
  have hnq := (gr28 q1 (by omega)).trans hnq
  have hgr := hgr.tr gr28 (Nat.le_refl _) (by omega)
  have hO := hO.kept (hk h0 (by omega) (by omega))
  have hA := (hk q1 (by omega) (by omega)).trans hA
  have hlt : h0 < H28.size := by omega
  refine iv_astU X hB htB hA hnq (by omega) (ci := 1) rfl rfl t_q27 sh_1 (iv_in (q_2) (by decide)) dX5_init_110 (fun H29 locs29 hA z29 o29 hB => ?_)
  have hO := hO.kept (o29 h0 (by omega))
  have hlt : h0 < H29.size := by omega
  refine lv_iinc (v := 3) (lv' := [(1, .int 3), (0, .ref h0)]) (k := 0) hx hb dX5_init_111 hl rfl (by decide) (by decide) rfl (fun ls hl => ?_)
  refine lv_goto (tgt := 92) hx hb dX5_init_114 (by decide) ?_
  refine lv_iload_n hx hb dX5_init_92 rfl (lv_at hl 0 rfl) ?_
  refine lv_bipush (v := 10) hx hb dX5_init_93 (by decide) ?_
  refine lv_icmp_ge (tgt := 117) hx hb dX5_init_95 (by decide) (fun c9 => absurd c9 (by decide)) (fun _ => ?_)
  refine lv_aload_n hx hb dX5_init_98 rfl (lv_at hl 1 rfl) ?_
  refine iv_getU X ft_X5 hO 0 (by decide) (v := .ref q1) rfl k_fl_X5_11 dX5_init_99 ?_
  refine lv_iload_n hx hb dX5_init_102 rfl (lv_at hl 0 rfl) ?_
  refine iv_newo X hB ft_X1 k_cl_X5_9 k_it_X1 k_ii_X1 (Nat.le_of_ble_eq_true rfl) (Nat.le_of_ble_eq_true rfl) dX5_init_103 (fun q30 H30 z30 y30 o30 hOq n30 hB => ?_)
  have hO := hO.kept (o30 h0 (by omega))
  have hA := (o30 q1 (by omega)).trans hA
  have hlt : h0 < H30.size := by omega
  refine lv_dup hx hb dX5_init_106 rfl ?_
  have hBo := hB
  refine iv_cI X k_good k_mf_X1_init rfl k_im_X1_init (Or.inr ⟨_, k_mn_X5_56 X.2.2⟩) hB (show h0 ≤ q30 by omega) (O := fun H9 => t_OB q30 (D.1 1) 8 (D.2 1) H9 (fun j => defaultValue (tyX1 j))) hOq rfl (As := []) (c_X1_init l D tys base G28 hty q30 _ (show H30.size = q30 + 1 by omega) (by omega) n30) ⟨rfl, rfl⟩ ⟨Nat.le_of_ble_eq_true rfl, Nat.le_of_ble_eq_true rfl⟩ ⟨Nat.le_of_ble_eq_true rfl, Nat.le_of_ble_eq_true rfl⟩ rfl rfl hl.1 (Nat.le_of_ble_eq_true rfl) dX5_init_107 (fun G31 H31 locs31 hw z31 hk hB => ?_)
  obtain ⟨gr31, g_q30, r_q30, t_q30⟩ := hw
  have t_q3 := gr31.kp hBo.1 (by omega) n30 t_q3
  have t_q6 := gr31.kp hBo.1 (by omega) n30 t_q6
  have t_q9 := gr31.kp hBo.1 (by omega) n30 t_q9
  have t_q12 := gr31.kp hBo.1 (by omega) n30 t_q12
  have t_q15 := gr31.kp hBo.1 (by omega) n30 t_q15
  have t_q17 := gr31.kp hBo.1 (by omega) n30 t_q17
  have t_q19 := gr31.kp hBo.1 (by omega) n30 t_q19
  have t_q21 := gr31.kp hBo.1 (by omega) n30 t_q21
  have t_q24 := gr31.kp hBo.1 (by omega) n30 t_q24
  have t_q27 := gr31.kp hBo.1 (by omega) n30 t_q27
  have hno := (gr31 h0 (by omega)).trans hno
  have hnq := (gr31 q1 (by omega)).trans hnq
  have hgr := hgr.tr gr31 (Nat.le_refl _) (by omega)
  have hO := hO.kept (hk h0 (by omega) (by omega))
  have hA := (hk q1 (by omega) (by omega)).trans hA
  have hlt : h0 < H31.size := by omega
  refine iv_astU X hB htB hA hnq (by omega) (ci := 1) rfl rfl t_q30 sh_1 (iv_in (q_3) (by decide)) dX5_init_110 (fun H32 locs32 hA z32 o32 hB => ?_)
  have hO := hO.kept (o32 h0 (by omega))
  have hlt : h0 < H32.size := by omega
  refine lv_iinc (v := 4) (lv' := [(1, .int 4), (0, .ref h0)]) (k := 0) hx hb dX5_init_111 hl rfl (by decide) (by decide) rfl (fun ls hl => ?_)
  refine lv_goto (tgt := 92) hx hb dX5_init_114 (by decide) ?_
  refine lv_iload_n hx hb dX5_init_92 rfl (lv_at hl 0 rfl) ?_
  refine lv_bipush (v := 10) hx hb dX5_init_93 (by decide) ?_
  refine lv_icmp_ge (tgt := 117) hx hb dX5_init_95 (by decide) (fun c9 => absurd c9 (by decide)) (fun _ => ?_)
  refine lv_aload_n hx hb dX5_init_98 rfl (lv_at hl 1 rfl) ?_
  refine iv_getU X ft_X5 hO 0 (by decide) (v := .ref q1) rfl k_fl_X5_11 dX5_init_99 ?_
  refine lv_iload_n hx hb dX5_init_102 rfl (lv_at hl 0 rfl) ?_
  refine iv_newo X hB ft_X1 k_cl_X5_9 k_it_X1 k_ii_X1 (Nat.le_of_ble_eq_true rfl) (Nat.le_of_ble_eq_true rfl) dX5_init_103 (fun q33 H33 z33 y33 o33 hOq n33 hB => ?_)
  have hO := hO.kept (o33 h0 (by omega))
  have hA := (o33 q1 (by omega)).trans hA
  have hlt : h0 < H33.size := by omega
  refine lv_dup hx hb dX5_init_106 rfl ?_
  have hBo := hB
  refine iv_cI X k_good k_mf_X1_init rfl k_im_X1_init (Or.inr ⟨_, k_mn_X5_56 X.2.2⟩) hB (show h0 ≤ q33 by omega) (O := fun H9 => t_OB q33 (D.1 1) 8 (D.2 1) H9 (fun j => defaultValue (tyX1 j))) hOq rfl (As := []) (c_X1_init l D tys base G31 hty q33 _ (show H33.size = q33 + 1 by omega) (by omega) n33) ⟨rfl, rfl⟩ ⟨Nat.le_of_ble_eq_true rfl, Nat.le_of_ble_eq_true rfl⟩ ⟨Nat.le_of_ble_eq_true rfl, Nat.le_of_ble_eq_true rfl⟩ rfl rfl hl.1 (Nat.le_of_ble_eq_true rfl) dX5_init_107 (fun G34 H34 locs34 hw z34 hk hB => ?_)
  obtain ⟨gr34, g_q33, r_q33, t_q33⟩ := hw
  have t_q3 := gr34.kp hBo.1 (by omega) n33 t_q3
  have t_q6 := gr34.kp hBo.1 (by omega) n33 t_q6
  have t_q9 := gr34.kp hBo.1 (by omega) n33 t_q9
  have t_q12 := gr34.kp hBo.1 (by omega) n33 t_q12
  have t_q15 := gr34.kp hBo.1 (by omega) n33 t_q15
  have t_q17 := gr34.kp hBo.1 (by omega) n33 t_q17
  have t_q19 := gr34.kp hBo.1 (by omega) n33 t_q19
  have t_q21 := gr34.kp hBo.1 (by omega) n33 t_q21
  have t_q24 := gr34.kp hBo.1 (by omega) n33 t_q24
  have t_q27 := gr34.kp hBo.1 (by omega) n33 t_q27
  have t_q30 := gr34.kp hBo.1 (by omega) n33 t_q30
  have hno := (gr34 h0 (by omega)).trans hno
  have hnq := (gr34 q1 (by omega)).trans hnq
  have hgr := hgr.tr gr34 (Nat.le_refl _) (by omega)
  have hO := hO.kept (hk h0 (by omega) (by omega))
  have hA := (hk q1 (by omega) (by omega)).trans hA
  have hlt : h0 < H34.size := by omega
  refine iv_astU X hB htB hA hnq (by omega) (ci := 1) rfl rfl t_q33 sh_1 (iv_in (q_4) (by decide)) dX5_init_110 (fun H35 locs35 hA z35 o35 hB => ?_)
  have hO := hO.kept (o35 h0 (by omega))
  have hlt : h0 < H35.size := by omega
  refine lv_iinc (v := 5) (lv' := [(1, .int 5), (0, .ref h0)]) (k := 0) hx hb dX5_init_111 hl rfl (by decide) (by decide) rfl (fun ls hl => ?_)
  refine lv_goto (tgt := 92) hx hb dX5_init_114 (by decide) ?_
  refine lv_iload_n hx hb dX5_init_92 rfl (lv_at hl 0 rfl) ?_
  refine lv_bipush (v := 10) hx hb dX5_init_93 (by decide) ?_
  refine lv_icmp_ge (tgt := 117) hx hb dX5_init_95 (by decide) (fun c9 => absurd c9 (by decide)) (fun _ => ?_)
  refine lv_aload_n hx hb dX5_init_98 rfl (lv_at hl 1 rfl) ?_
  refine iv_getU X ft_X5 hO 0 (by decide) (v := .ref q1) rfl k_fl_X5_11 dX5_init_99 ?_
  refine lv_iload_n hx hb dX5_init_102 rfl (lv_at hl 0 rfl) ?_
  refine iv_newo X hB ft_X1 k_cl_X5_9 k_it_X1 k_ii_X1 (Nat.le_of_ble_eq_true rfl) (Nat.le_of_ble_eq_true rfl) dX5_init_103 (fun q36 H36 z36 y36 o36 hOq n36 hB => ?_)
  have hO := hO.kept (o36 h0 (by omega))
  have hA := (o36 q1 (by omega)).trans hA
  have hlt : h0 < H36.size := by omega
  refine lv_dup hx hb dX5_init_106 rfl ?_
  have hBo := hB
  refine iv_cI X k_good k_mf_X1_init rfl k_im_X1_init (Or.inr ⟨_, k_mn_X5_56 X.2.2⟩) hB (show h0 ≤ q36 by omega) (O := fun H9 => t_OB q36 (D.1 1) 8 (D.2 1) H9 (fun j => defaultValue (tyX1 j))) hOq rfl (As := []) (c_X1_init l D tys base G34 hty q36 _ (show H36.size = q36 + 1 by omega) (by omega) n36) ⟨rfl, rfl⟩ ⟨Nat.le_of_ble_eq_true rfl, Nat.le_of_ble_eq_true rfl⟩ ⟨Nat.le_of_ble_eq_true rfl, Nat.le_of_ble_eq_true rfl⟩ rfl rfl hl.1 (Nat.le_of_ble_eq_true rfl) dX5_init_107 (fun G37 H37 locs37 hw z37 hk hB => ?_)
  obtain ⟨gr37, g_q36, r_q36, t_q36⟩ := hw
  have t_q3 := gr37.kp hBo.1 (by omega) n36 t_q3
  have t_q6 := gr37.kp hBo.1 (by omega) n36 t_q6
  have t_q9 := gr37.kp hBo.1 (by omega) n36 t_q9
  have t_q12 := gr37.kp hBo.1 (by omega) n36 t_q12
  have t_q15 := gr37.kp hBo.1 (by omega) n36 t_q15
  have t_q17 := gr37.kp hBo.1 (by omega) n36 t_q17
  have t_q19 := gr37.kp hBo.1 (by omega) n36 t_q19
  have t_q21 := gr37.kp hBo.1 (by omega) n36 t_q21
  have t_q24 := gr37.kp hBo.1 (by omega) n36 t_q24
  have t_q27 := gr37.kp hBo.1 (by omega) n36 t_q27
  have t_q30 := gr37.kp hBo.1 (by omega) n36 t_q30
  have t_q33 := gr37.kp hBo.1 (by omega) n36 t_q33
  have hno := (gr37 h0 (by omega)).trans hno
  have hnq := (gr37 q1 (by omega)).trans hnq
  have hgr := hgr.tr gr37 (Nat.le_refl _) (by omega)
  have hO := hO.kept (hk h0 (by omega) (by omega))
  have hA := (hk q1 (by omega) (by omega)).trans hA
  have hlt : h0 < H37.size := by omega
  refine iv_astU X hB htB hA hnq (by omega) (ci := 1) rfl rfl t_q36 sh_1 (iv_in (q_5) (by decide)) dX5_init_110 (fun H38 locs38 hA z38 o38 hB => ?_)
  have hO := hO.kept (o38 h0 (by omega))
  have hlt : h0 < H38.size := by omega
  refine lv_iinc (v := 6) (lv' := [(1, .int 6), (0, .ref h0)]) (k := 0) hx hb dX5_init_111 hl rfl (by decide) (by decide) rfl (fun ls hl => ?_)
  refine lv_goto (tgt := 92) hx hb dX5_init_114 (by decide) ?_
  refine lv_iload_n hx hb dX5_init_92 rfl (lv_at hl 0 rfl) ?_
  refine lv_bipush (v := 10) hx hb dX5_init_93 (by decide) ?_
  refine lv_icmp_ge (tgt := 117) hx hb dX5_init_95 (by decide) (fun c9 => absurd c9 (by decide)) (fun _ => ?_)
  refine lv_aload_n hx hb dX5_init_98 rfl (lv_at hl 1 rfl) ?_
  refine iv_getU X ft_X5 hO 0 (by decide) (v := .ref q1) rfl k_fl_X5_11 dX5_init_99 ?_
  refine lv_iload_n hx hb dX5_init_102 rfl (lv_at hl 0 rfl) ?_
  refine iv_newo X hB ft_X1 k_cl_X5_9 k_it_X1 k_ii_X1 (Nat.le_of_ble_eq_true rfl) (Nat.le_of_ble_eq_true rfl) dX5_init_103 (fun q39 H39 z39 y39 o39 hOq n39 hB => ?_)
  have hO := hO.kept (o39 h0 (by omega))
  have hA := (o39 q1 (by omega)).trans hA
  have hlt : h0 < H39.size := by omega
  refine lv_dup hx hb dX5_init_106 rfl ?_
  have hBo := hB
  refine iv_cI X k_good k_mf_X1_init rfl k_im_X1_init (Or.inr ⟨_, k_mn_X5_56 X.2.2⟩) hB (show h0 ≤ q39 by omega) (O := fun H9 => t_OB q39 (D.1 1) 8 (D.2 1) H9 (fun j => defaultValue (tyX1 j))) hOq rfl (As := []) (c_X1_init l D tys base G37 hty q39 _ (show H39.size = q39 + 1 by omega) (by omega) n39) ⟨rfl, rfl⟩ ⟨Nat.le_of_ble_eq_true rfl, Nat.le_of_ble_eq_true rfl⟩ ⟨Nat.le_of_ble_eq_true rfl, Nat.le_of_ble_eq_true rfl⟩ rfl rfl hl.1 (Nat.le_of_ble_eq_true rfl) dX5_init_107 (fun G40 H40 locs40 hw z40 hk hB => ?_)
  obtain ⟨gr40, g_q39, r_q39, t_q39⟩ := hw
  have t_q3 := gr40.kp hBo.1 (by omega) n39 t_q3
  have t_q6 := gr40.kp hBo.1 (by omega) n39 t_q6
  have t_q9 := gr40.kp hBo.1 (by omega) n39 t_q9
  have t_q12 := gr40.kp hBo.1 (by omega) n39 t_q12
  have t_q15 := gr40.kp hBo.1 (by omega) n39 t_q15
  have t_q17 := gr40.kp hBo.1 (by omega) n39 t_q17
  have t_q19 := gr40.kp hBo.1 (by omega) n39 t_q19
  have t_q21 := gr40.kp hBo.1 (by omega) n39 t_q21
  have t_q24 := gr40.kp hBo.1 (by omega) n39 t_q24
  have t_q27 := gr40.kp hBo.1 (by omega) n39 t_q27
  have t_q30 := gr40.kp hBo.1 (by omega) n39 t_q30
  have t_q33 := gr40.kp hBo.1 (by omega) n39 t_q33
  have t_q36 := gr40.kp hBo.1 (by omega) n39 t_q36
  have hno := (gr40 h0 (by omega)).trans hno
  have hnq := (gr40 q1 (by omega)).trans hnq
  have hgr := hgr.tr gr40 (Nat.le_refl _) (by omega)
  have hO := hO.kept (hk h0 (by omega) (by omega))
  have hA := (hk q1 (by omega) (by omega)).trans hA
  have hlt : h0 < H40.size := by omega
  refine iv_astU X hB htB hA hnq (by omega) (ci := 1) rfl rfl t_q39 sh_1 (iv_in (q_6) (by decide)) dX5_init_110 (fun H41 locs41 hA z41 o41 hB => ?_)
  have hO := hO.kept (o41 h0 (by omega))
  have hlt : h0 < H41.size := by omega
  refine lv_iinc (v := 7) (lv' := [(1, .int 7), (0, .ref h0)]) (k := 0) hx hb dX5_init_111 hl rfl (by decide) (by decide) rfl (fun ls hl => ?_)
  refine lv_goto (tgt := 92) hx hb dX5_init_114 (by decide) ?_
  refine lv_iload_n hx hb dX5_init_92 rfl (lv_at hl 0 rfl) ?_
  refine lv_bipush (v := 10) hx hb dX5_init_93 (by decide) ?_
  refine lv_icmp_ge (tgt := 117) hx hb dX5_init_95 (by decide) (fun c9 => absurd c9 (by decide)) (fun _ => ?_)
  refine lv_aload_n hx hb dX5_init_98 rfl (lv_at hl 1 rfl) ?_
  refine iv_getU X ft_X5 hO 0 (by decide) (v := .ref q1) rfl k_fl_X5_11 dX5_init_99 ?_
  refine lv_iload_n hx hb dX5_init_102 rfl (lv_at hl 0 rfl) ?_
  refine iv_newo X hB ft_X1 k_cl_X5_9 k_it_X1 k_ii_X1 (Nat.le_of_ble_eq_true rfl) (Nat.le_of_ble_eq_true rfl) dX5_init_103 (fun q42 H42 z42 y42 o42 hOq n42 hB => ?_)
  have hO := hO.kept (o42 h0 (by omega))
  have hA := (o42 q1 (by omega)).trans hA
  have hlt : h0 < H42.size := by omega
  refine lv_dup hx hb dX5_init_106 rfl ?_
  have hBo := hB
  refine iv_cI X k_good k_mf_X1_init rfl k_im_X1_init (Or.inr ⟨_, k_mn_X5_56 X.2.2⟩) hB (show h0 ≤ q42 by omega) (O := fun H9 => t_OB q42 (D.1 1) 8 (D.2 1) H9 (fun j => defaultValue (tyX1 j))) hOq rfl (As := []) (c_X1_init l D tys base G40 hty q42 _ (show H42.size = q42 + 1 by omega) (by omega) n42) ⟨rfl, rfl⟩ ⟨Nat.le_of_ble_eq_true rfl, Nat.le_of_ble_eq_true rfl⟩ ⟨Nat.le_of_ble_eq_true rfl, Nat.le_of_ble_eq_true rfl⟩ rfl rfl hl.1 (Nat.le_of_ble_eq_true rfl) dX5_init_107 (fun G43 H43 locs43 hw z43 hk hB => ?_)
  obtain ⟨gr43, g_q42, r_q42, t_q42⟩ := hw
  have t_q3 := gr43.kp hBo.1 (by omega) n42 t_q3
  have t_q6 := gr43.kp hBo.1 (by omega) n42 t_q6
  have t_q9 := gr43.kp hBo.1 (by omega) n42 t_q9
  have t_q12 := gr43.kp hBo.1 (by omega) n42 t_q12
  have t_q15 := gr43.kp hBo.1 (by omega) n42 t_q15
  have t_q17 := gr43.kp hBo.1 (by omega) n42 t_q17
  have t_q19 := gr43.kp hBo.1 (by omega) n42 t_q19
  have t_q21 := gr43.kp hBo.1 (by omega) n42 t_q21
  have t_q24 := gr43.kp hBo.1 (by omega) n42 t_q24
  have t_q27 := gr43.kp hBo.1 (by omega) n42 t_q27
  have t_q30 := gr43.kp hBo.1 (by omega) n42 t_q30
  have t_q33 := gr43.kp hBo.1 (by omega) n42 t_q33
  have t_q36 := gr43.kp hBo.1 (by omega) n42 t_q36
  have t_q39 := gr43.kp hBo.1 (by omega) n42 t_q39
  have hno := (gr43 h0 (by omega)).trans hno
  have hnq := (gr43 q1 (by omega)).trans hnq
  have hgr := hgr.tr gr43 (Nat.le_refl _) (by omega)
  have hO := hO.kept (hk h0 (by omega) (by omega))
  have hA := (hk q1 (by omega) (by omega)).trans hA
  have hlt : h0 < H43.size := by omega
  refine iv_astU X hB htB hA hnq (by omega) (ci := 1) rfl rfl t_q42 sh_1 (iv_in (q_7) (by decide)) dX5_init_110 (fun H44 locs44 hA z44 o44 hB => ?_)
  have hO := hO.kept (o44 h0 (by omega))
  have hlt : h0 < H44.size := by omega
  refine lv_iinc (v := 8) (lv' := [(1, .int 8), (0, .ref h0)]) (k := 0) hx hb dX5_init_111 hl rfl (by decide) (by decide) rfl (fun ls hl => ?_)
  refine lv_goto (tgt := 92) hx hb dX5_init_114 (by decide) ?_
  refine lv_iload_n hx hb dX5_init_92 rfl (lv_at hl 0 rfl) ?_
  refine lv_bipush (v := 10) hx hb dX5_init_93 (by decide) ?_
  refine lv_icmp_ge (tgt := 117) hx hb dX5_init_95 (by decide) (fun c9 => absurd c9 (by decide)) (fun _ => ?_)
  refine lv_aload_n hx hb dX5_init_98 rfl (lv_at hl 1 rfl) ?_
  refine iv_getU X ft_X5 hO 0 (by decide) (v := .ref q1) rfl k_fl_X5_11 dX5_init_99 ?_
  refine lv_iload_n hx hb dX5_init_102 rfl (lv_at hl 0 rfl) ?_
  refine iv_newo X hB ft_X1 k_cl_X5_9 k_it_X1 k_ii_X1 (Nat.le_of_ble_eq_true rfl) (Nat.le_of_ble_eq_true rfl) dX5_init_103 (fun q45 H45 z45 y45 o45 hOq n45 hB => ?_)
  have hO := hO.kept (o45 h0 (by omega))
  have hA := (o45 q1 (by omega)).trans hA
  have hlt : h0 < H45.size := by omega
  refine lv_dup hx hb dX5_init_106 rfl ?_
  have hBo := hB
  refine iv_cI X k_good k_mf_X1_init rfl k_im_X1_init (Or.inr ⟨_, k_mn_X5_56 X.2.2⟩) hB (show h0 ≤ q45 by omega) (O := fun H9 => t_OB q45 (D.1 1) 8 (D.2 1) H9 (fun j => defaultValue (tyX1 j))) hOq rfl (As := []) (c_X1_init l D tys base G43 hty q45 _ (show H45.size = q45 + 1 by omega) (by omega) n45) ⟨rfl, rfl⟩ ⟨Nat.le_of_ble_eq_true rfl, Nat.le_of_ble_eq_true rfl⟩ ⟨Nat.le_of_ble_eq_true rfl, Nat.le_of_ble_eq_true rfl⟩ rfl rfl hl.1 (Nat.le_of_ble_eq_true rfl) dX5_init_107 (fun G46 H46 locs46 hw z46 hk hB => ?_)
  obtain ⟨gr46, g_q45, r_q45, t_q45⟩ := hw
  have t_q3 := gr46.kp hBo.1 (by omega) n45 t_q3
  have t_q6 := gr46.kp hBo.1 (by omega) n45 t_q6
  have t_q9 := gr46.kp hBo.1 (by omega) n45 t_q9
  have t_q12 := gr46.kp hBo.1 (by omega) n45 t_q12
  have t_q15 := gr46.kp hBo.1 (by omega) n45 t_q15
  have t_q17 := gr46.kp hBo.1 (by omega) n45 t_q17
  have t_q19 := gr46.kp hBo.1 (by omega) n45 t_q19
  have t_q21 := gr46.kp hBo.1 (by omega) n45 t_q21
  have t_q24 := gr46.kp hBo.1 (by omega) n45 t_q24
  have t_q27 := gr46.kp hBo.1 (by omega) n45 t_q27
  have t_q30 := gr46.kp hBo.1 (by omega) n45 t_q30
  have t_q33 := gr46.kp hBo.1 (by omega) n45 t_q33
  have t_q36 := gr46.kp hBo.1 (by omega) n45 t_q36
  have t_q39 := gr46.kp hBo.1 (by omega) n45 t_q39
  have t_q42 := gr46.kp hBo.1 (by omega) n45 t_q42
  have hno := (gr46 h0 (by omega)).trans hno
  have hnq := (gr46 q1 (by omega)).trans hnq
  have hgr := hgr.tr gr46 (Nat.le_refl _) (by omega)
  have hO := hO.kept (hk h0 (by omega) (by omega))
  have hA := (hk q1 (by omega) (by omega)).trans hA
  have hlt : h0 < H46.size := by omega
  refine iv_astU X hB htB hA hnq (by omega) (ci := 1) rfl rfl t_q45 sh_1 (iv_in (q_8) (by decide)) dX5_init_110 (fun H47 locs47 hA z47 o47 hB => ?_)
  have hO := hO.kept (o47 h0 (by omega))
  have hlt : h0 < H47.size := by omega
  refine lv_iinc (v := 9) (lv' := [(1, .int 9), (0, .ref h0)]) (k := 0) hx hb dX5_init_111 hl rfl (by decide) (by decide) rfl (fun ls hl => ?_)
  refine lv_goto (tgt := 92) hx hb dX5_init_114 (by decide) ?_
  refine lv_iload_n hx hb dX5_init_92 rfl (lv_at hl 0 rfl) ?_
  refine lv_bipush (v := 10) hx hb dX5_init_93 (by decide) ?_
  refine lv_icmp_ge (tgt := 117) hx hb dX5_init_95 (by decide) (fun c9 => absurd c9 (by decide)) (fun _ => ?_)
  refine lv_aload_n hx hb dX5_init_98 rfl (lv_at hl 1 rfl) ?_
  refine iv_getU X ft_X5 hO 0 (by decide) (v := .ref q1) rfl k_fl_X5_11 dX5_init_99 ?_
  refine lv_iload_n hx hb dX5_init_102 rfl (lv_at hl 0 rfl) ?_
  refine iv_newo X hB ft_X1 k_cl_X5_9 k_it_X1 k_ii_X1 (Nat.le_of_ble_eq_true rfl) (Nat.le_of_ble_eq_true rfl) dX5_init_103 (fun q48 H48 z48 y48 o48 hOq n48 hB => ?_)
  have hO := hO.kept (o48 h0 (by omega))
  have hA := (o48 q1 (by omega)).trans hA
  have hlt : h0 < H48.size := by omega
  refine lv_dup hx hb dX5_init_106 rfl ?_
  have hBo := hB
  refine iv_cI X k_good k_mf_X1_init rfl k_im_X1_init (Or.inr ⟨_, k_mn_X5_56 X.2.2⟩) hB (show h0 ≤ q48 by omega) (O := fun H9 => t_OB q48 (D.1 1) 8 (D.2 1) H9 (fun j => defaultValue (tyX1 j))) hOq rfl (As := []) (c_X1_init l D tys base G46 hty q48 _ (show H48.size = q48 + 1 by omega) (by omega) n48) ⟨rfl, rfl⟩ ⟨Nat.le_of_ble_eq_true rfl, Nat.le_of_ble_eq_true rfl⟩ ⟨Nat.le_of_ble_eq_true rfl, Nat.le_of_ble_eq_true rfl⟩ rfl rfl hl.1 (Nat.le_of_ble_eq_true rfl) dX5_init_107 (fun G49 H49 locs49 hw z49 hk hB => ?_)
  obtain ⟨gr49, g_q48, r_q48, t_q48⟩ := hw
  have t_q3 := gr49.kp hBo.1 (by omega) n48 t_q3
  have t_q6 := gr49.kp hBo.1 (by omega) n48 t_q6
  have t_q9 := gr49.kp hBo.1 (by omega) n48 t_q9
  have t_q12 := gr49.kp hBo.1 (by omega) n48 t_q12
  have t_q15 := gr49.kp hBo.1 (by omega) n48 t_q15
  have t_q17 := gr49.kp hBo.1 (by omega) n48 t_q17
  have t_q19 := gr49.kp hBo.1 (by omega) n48 t_q19
  have t_q21 := gr49.kp hBo.1 (by omega) n48 t_q21
  have t_q24 := gr49.kp hBo.1 (by omega) n48 t_q24
  have t_q27 := gr49.kp hBo.1 (by omega) n48 t_q27
  have t_q30 := gr49.kp hBo.1 (by omega) n48 t_q30
  have t_q33 := gr49.kp hBo.1 (by omega) n48 t_q33
  have t_q36 := gr49.kp hBo.1 (by omega) n48 t_q36
  have t_q39 := gr49.kp hBo.1 (by omega) n48 t_q39
  have t_q42 := gr49.kp hBo.1 (by omega) n48 t_q42
  have t_q45 := gr49.kp hBo.1 (by omega) n48 t_q45
  have hno := (gr49 h0 (by omega)).trans hno
  have hnq := (gr49 q1 (by omega)).trans hnq
  have hgr := hgr.tr gr49 (Nat.le_refl _) (by omega)
  have hO := hO.kept (hk h0 (by omega) (by omega))
  have hA := (hk q1 (by omega) (by omega)).trans hA
  have hlt : h0 < H49.size := by omega
  refine iv_astU X hB htB hA hnq (by omega) (ci := 1) rfl rfl t_q48 sh_1 (iv_in (q_9) (by decide)) dX5_init_110 (fun H50 locs50 hA z50 o50 hB => ?_)
  have hO := hO.kept (o50 h0 (by omega))
  have hlt : h0 < H50.size := by omega
  refine lv_iinc (v := 10) (lv' := [(1, .int 10), (0, .ref h0)]) (k := 0) hx hb dX5_init_111 hl rfl (by decide) (by decide) rfl (fun ls hl => ?_)
  refine lv_goto (tgt := 92) hx hb dX5_init_114 (by decide) ?_
  refine lv_iload_n hx hb dX5_init_92 rfl (lv_at hl 0 rfl) ?_
  refine lv_bipush (v := 10) hx hb dX5_init_93 (by decide) ?_
  refine lv_icmp_ge (tgt := 117) hx hb dX5_init_95 (by decide) (fun _ => ?_) (fun c9 => absurd (by decide) c9)
  have hA := hA.trans (congrArg some (arrV_cong (f := fun j => va_rf _) (g := fun j => va_rf (some (([q21, q24, q27, q30, q33, q36, q39, q42, q45, q48] : List Nat).getD j 0))) (fun j hj => match j, hj with | 0, _ => rfl | 1, _ => rfl | 2, _ => rfl | 3, _ => rfl | 4, _ => rfl | 5, _ => rfl | 6, _ => rfl | 7, _ => rfl | 8, _ => rfl | 9, _ => rfl | n + 10, h => absurd h (by omega))))
  have hA : H50[q1]? = some (vp_cell cB (10, .inr (.inr (.inr (.inr (fun j => some (([q21, q24, q27, q30, q33, q36, q39, q42, q45, q48] : List Nat).getD j 0)))))))  := hA
  have hBo := hB
  have hB := hB.closeR hnq (by omega) htB rfl (g := fun _ => 0) (rr := fun j => ([q21, q24, q27, q30, q33, q36, q39, q42, q45, q48] : List Nat).getD j 0) sh_40 hA rfl (fun i hi => match i, hi with | 0, _ => ⟨_, t_q21, rfl⟩ | 1, _ => ⟨_, t_q24, rfl⟩ | 2, _ => ⟨_, t_q27, rfl⟩ | 3, _ => ⟨_, t_q30, rfl⟩ | 4, _ => ⟨_, t_q33, rfl⟩ | 5, _ => ⟨_, t_q36, rfl⟩ | 6, _ => ⟨_, t_q39, rfl⟩ | 7, _ => ⟨_, t_q42, rfl⟩ | 8, _ => ⟨_, t_q45, rfl⟩ | 9, _ => ⟨_, t_q48, rfl⟩ | n + 10, h => absurd h (by omega))
  obtain ⟨G51, eG51⟩ : ∃ G9, G9 = iv_up G49 q1 (40, fun _ => 0, fun j => ([q21, q24, q27, q30, q33, q36, q39, q42, q45, q48] : List Nat).getD j 0) := ⟨_, rfl⟩
  rw [← eG51] at hB
  have gA51 : ∀ x, x ≠ q1 → G51 x = G49 x := fun x h9 => by rw [eG51]; exact iv_up_ne h9
  have t_q3 := (gA51 q3 (by omega)).trans t_q3
  have t_q6 := (gA51 q6 (by omega)).trans t_q6
  have t_q9 := (gA51 q9 (by omega)).trans t_q9
  have t_q12 := (gA51 q12 (by omega)).trans t_q12
  have t_q15 := (gA51 q15 (by omega)).trans t_q15
  have t_q17 := (gA51 q17 (by omega)).trans t_q17
  have t_q19 := (gA51 q19 (by omega)).trans t_q19
  have t_q21 := (gA51 q21 (by omega)).trans t_q21
  have t_q24 := (gA51 q24 (by omega)).trans t_q24
  have t_q27 := (gA51 q27 (by omega)).trans t_q27
  have t_q30 := (gA51 q30 (by omega)).trans t_q30
  have t_q33 := (gA51 q33 (by omega)).trans t_q33
  have t_q36 := (gA51 q36 (by omega)).trans t_q36
  have t_q39 := (gA51 q39 (by omega)).trans t_q39
  have t_q42 := (gA51 q42 (by omega)).trans t_q42
  have t_q45 := (gA51 q45 (by omega)).trans t_q45
  have t_q48 := (gA51 q48 (by omega)).trans t_q48
  have hno := (gA51 h0 (by omega)).trans hno
  have hgr := hgr.tr (show iv_gr h0 G49 G51 from fun x h9 => gA51 x (by omega)) (Nat.le_refl _) (Nat.le_refl _)
  have t_q1 : G51 q1 = some (40, fun _ => 0, fun j => ([q21, q24, q27, q30, q33, q36, q39, q42, q45, q48] : List Nat).getD j 0) := by rw [eG51]; exact iv_up_eq
  have hB := hB.close hno (Nat.le_refl _) (ci := 5) (cd := 5) (g := fun j => ([0, 0, 0, 2, 0, 0, 0, 0, 0, 0, 0, 0, 0, 0, 0] : List Int32).getD j 0) (rr := fun j => ([q1, 0, q3, 0, 0, 0, 0, 0, q6, q9, q12, q15, 0, q17, q19] : List Nat).getD j 0) rfl hO sh_5 (fun j hj => match j, hj with | 0, _ => rfl | 1, _ => rfl | 2, _ => rfl | 3, _ => rfl | 4, _ => rfl | 5, _ => rfl | 6, _ => rfl | 7, _ => rfl | 8, _ => rfl | 9, _ => rfl | 10, _ => rfl | 11, _ => rfl | 12, _ => rfl | 13, _ => rfl | 14, _ => rfl | n + 15, h => absurd (show n + 15 < 15 from h) (by omega)) (fun j hj => match j, hj with | 0, _ => ⟨_, t_q1, rfl⟩ | 1, _ => (iv_lit (by decide +kernel) : iv_R 0 0 (0 : Int32)).wk (by decide) | 2, _ => ⟨_, t_q3, rfl⟩ | 3, _ => (iv_lit (by decide +kernel) : iv_R 2 2 (2 : Int32)).wk (by decide) | 4, _ => (iv_lit (by decide +kernel) : iv_R 0 0 (0 : Int32)).wk (by decide) | 5, _ => (iv_lit (by decide +kernel) : iv_R 0 0 (0 : Int32)).wk (by decide) | 6, _ => (iv_lit (by decide +kernel) : iv_R 0 0 (0 : Int32)).wk (by decide) | 7, _ => (iv_lit (by decide +kernel) : iv_R 0 0 (0 : Int32)).wk (by decide) | 8, _ => ⟨_, t_q6, rfl⟩ | 9, _ => ⟨_, t_q9, rfl⟩ | 10, _ => ⟨_, t_q12, rfl⟩ | 11, _ => ⟨_, t_q15, rfl⟩ | 12, _ => (iv_lit (by decide +kernel) : iv_R 0 0 (0 : Int32)).wk (by decide) | 13, _ => ⟨_, t_q17, rfl⟩ | 14, _ => ⟨_, t_q19, rfl⟩ | n + 15, h => absurd (show n + 15 < 15 from h) (by omega))
  refine W.widen (k := 35) (n := 2495) (Nat.le_of_ble_eq_true rfl) (Nat.le_of_ble_eq_true rfl) ?_
  exact iv_vretM X hr hlocks hB ⟨hgr.tr (iv_gr.up (Nat.le_refl _)) (Nat.le_refl _) (Nat.le_refl _), _, _, iv_up_eq, rfl⟩ dX5_init_117
theorem dX10_init_0 : decode cX10_init 0 = .ok (.aload_n 0, 1) := by decide +kernel
theorem dX10_init_1 : decode cX10_init 1 = .ok (.invokespecial 3, 3) := by decide +kernel
theorem dX10_init_4 : decode cX10_init 4 = .ok (.aload_n 0, 1) := by decide +kernel
theorem dX10_init_5 : decode cX10_init 5 = .ok (.sipush 401, 3) := by decide +kernel
theorem dX10_init_8 : decode cX10_init 8 = .ok (.newarray .int, 2) := by decide +kernel
theorem dX10_init_10 : decode cX10_init 10 = .ok (.putfield 9, 3) := by decide +kernel
theorem dX10_init_13 : decode cX10_init 13 = .ok (.aload_n 0, 1) := by decide +kernel
theorem dX10_init_14 : decode cX10_init 14 = .ok (.sipush 401, 3) := by decide +kernel
theorem dX10_init_17 : decode cX10_init 17 = .ok (.newarray .int, 2) := by decide +kernel
theorem dX10_init_19 : decode cX10_init 19 = .ok (.putfield 15, 3) := by decide +kernel
theorem dX10_init_22 : decode cX10_init 22 = .ok (.aload_n 0, 1) := by decide +kernel
theorem dX10_init_23 : decode cX10_init 23 = .ok (.sipush 401, 3) := by decide +kernel
theorem dX10_init_26 : decode cX10_init 26 = .ok (.newarray .int, 2) := by decide +kernel
theorem dX10_init_28 : decode cX10_init 28 = .ok (.putfield 18, 3) := by decide +kernel
theorem dX10_init_31 : decode cX10_init 31 = .ok (.return_, 1) := by decide +kernel
set_option maxHeartbeats 8000000 in
set_option maxRecDepth 100000 in
theorem c_X10_init (l : Launch) (D : va_G) (tys : List (ClassId × FieldType)) (base : Nat) (G : iv_G) (hty : iv_ty tys) (h0 sz : Nat) (hsz : sz = h0 + 1) (hbf : base ≤ h0) (hno : G h0 = none) : Met l yX10_init (Cond.code yX10_init cX10_init 1 none :: iv_W0) ({ frames := 1, cells := 3, slots := 1203, locals := 12 }) (iv_PcM iv_sh D classes tys base G sz (fun H9 => t_OB h0 (D.1 10) 3 (D.2 10) H9 (fun j => defaultValue (tyX10 j))) [.ref h0]) (iv_QvM iv_sh D classes tys base h0 (fun G' => iv_gr h0 G G' ∧ ∃ (g : Nat → Int32) (r : Nat → Nat), G' h0 = some (10, g, r))) 3 1203 (iv_A h0) := by
  refine iv_headM hbf (by omega) (by decide) (Nat.le_of_ble_eq_true rfl) ?_
  intro p e s m args below meth c ls X hr hlocks hname hz hO hB hl
  have hx := X.1.1
  have hb := X.1.2.1
  have hlt : h0 < s.heap.size := by omega
  have hgr : iv_gr h0 G G := iv_gr.rf
  have hl : lv_has ls 1 [(0, .ref h0)] := hl
  refine lv_aload_n hx hb dX10_init_0 rfl (lv_at hl 0 rfl) ?_
  refine W.objInit hx hb X.1.2.2.2.1 (X.1.2.2.2.2 _ k_oi_X10) (X.1.2.2.2.2 _ k_oim) (X.1.2.2.2.2 _ k_oic) rfl (by rw [X.1.2.2.1]; exact hl.1) rfl dX10_init_1 (Nat.le_of_ble_eq_true rfl) (Nat.le_of_ble_eq_true rfl) ?_
  refine W.eq (g2 := F0 m 4 ls []) rfl ?_
  refine lv_aload_n hx hb dX10_init_4 rfl (lv_at hl 0 rfl) ?_
  refine lv_sipush (v := 401) hx hb dX10_init_5 (by decide) ?_
  have hBo := hB
  refine iv_newa X hB hty k_arr_int (cd := 42) (N := 401) sh_42 (iv_E.zr (by decide)) (by decide +kernel) (by decide +kernel) (by decide) (Nat.le_of_ble_eq_true rfl) (Nat.le_of_ble_eq_true rfl) dX10_init_8 (fun q1 H1 z1 y1 o1 n1 hB => ?_)
  have gr1 : iv_gr q1 G (iv_up G q1 (42, fun _ => 0, fun _ => 0)) := iv_gr.up (Nat.le_refl _)
  have t_q1 : iv_up G q1 (42, fun _ => 0, fun _ => 0) q1 = some (42, fun _ => 0, fun _ => 0) := iv_up_eq
  generalize eG1 : iv_up G q1 (42, fun _ => 0, fun _ => 0) = G1 at hB gr1 t_q1
  have hno := (gr1 h0 (by omega)).trans hno
  have hgr := hgr.tr gr1 (Nat.le_refl _) (by omega)
  have hO := hO.kept (o1 h0 (by omega))
  have hlt : h0 < H1.size := by omega
  refine iv_putF X hB ft_X10 hO hno (Nat.le_refl _) 0 (by decide) k_fl_X10_9 rfl hname rfl rfl rfl dX10_init_10 (fun H2 locs2 hO z2 o2 hB => ?_)
  have hlt : h0 < H2.size := by omega
  refine lv_aload_n hx hb dX10_init_13 rfl (lv_at hl 0 rfl) ?_
  refine lv_sipush (v := 401) hx hb dX10_init_14 (by decide) ?_
  have hBo := hB
  refine iv_newa X hB hty k_arr_int (cd := 43) (N := 401) sh_43 (iv_E.zr (by decide)) (by decide +kernel) (by decide +kernel) (by decide) (Nat.le_of_ble_eq_true rfl) (Nat.le_of_ble_eq_true rfl) dX10_init_17 (fun q3 H3 z3 y3 o3 n3 hB => ?_)
  have gr3 : iv_gr q3 G1 (iv_up G1 q3 (43, fun _ => 0, fun _ => 0)) := iv_gr.up (Nat.le_refl _)
  have t_q3 : iv_up G1 q3 (43, fun _ => 0, fun _ => 0) q3 = some (43, fun _ => 0, fun _ => 0) := iv_up_eq
  generalize eG3 : iv_up G1 q3 (43, fun _ => 0, fun _ => 0) = G3 at hB gr3 t_q3
  have t_q1 := gr3.kp hBo.1 (by omega) n3 t_q1
  have hno := (gr3 h0 (by omega)).trans hno
  have hgr := hgr.tr gr3 (Nat.le_refl _) (by omega)
  have hO := hO.kept (o3 h0 (by omega))
  have hlt : h0 < H3.size := by omega
  refine iv_putF X hB ft_X10 hO hno (Nat.le_refl _) 1 (by decide) k_fl_X10_15 rfl hname rfl rfl rfl dX10_init_19 (fun H4 locs4 hO z4 o4 hB => ?_)
  have hlt : h0 < H4.size := by omega
  refine lv_aload_n hx hb dX10_init_22 rfl (lv_at hl 0 rfl) ?_
  refine lv_sipush (v := 401) hx hb dX10_init_23 (by decide) ?_
  have hBo := hB
  refine iv_newa X hB hty k_arr_int (cd := 44) (N := 401) sh_44 (iv_E.zr (by decide)) (by decide +kernel) (by decide +kernel) (by decide) (Nat.le_of_ble_eq_true rfl) (Nat.le_of_ble_eq_true rfl) dX10_init_26 (fun q5 H5 z5 y5 o5 n5 hB => ?_)
  have gr5 : iv_gr q5 G3 (iv_up G3 q5 (44, fun _ => 0, fun _ => 0)) := iv_gr.up (Nat.le_refl _)
  have t_q5 : iv_up G3 q5 (44, fun _ => 0, fun _ => 0) q5 = some (44, fun _ => 0, fun _ => 0) := iv_up_eq
  generalize eG5 : iv_up G3 q5 (44, fun _ => 0, fun _ => 0) = G5 at hB gr5 t_q5
  have t_q1 := gr5.kp hBo.1 (by omega) n5 t_q1
  have t_q3 := gr5.kp hBo.1 (by omega) n5 t_q3
  have hno := (gr5 h0 (by omega)).trans hno
  have hgr := hgr.tr gr5 (Nat.le_refl _) (by omega)
  have hO := hO.kept (o5 h0 (by omega))
  have hlt : h0 < H5.size := by omega
  refine iv_putF X hB ft_X10 hO hno (Nat.le_refl _) 2 (by decide) k_fl_X10_18 rfl hname rfl rfl rfl dX10_init_28 (fun H6 locs6 hO z6 o6 hB => ?_)
  have hlt : h0 < H6.size := by omega
  have hB := hB.close hno (Nat.le_refl _) (ci := 10) (cd := 10) (g := fun j => ([0, 0, 0] : List Int32).getD j 0) (rr := fun j => ([q1, q3, q5] : List Nat).getD j 0) rfl hO sh_10 (fun j hj => match j, hj with | 0, _ => rfl | 1, _ => rfl | 2, _ => rfl | n + 3, h => absurd (show n + 3 < 3 from h) (by omega)) (fun j hj => match j, hj with | 0, _ => ⟨_, t_q1, rfl⟩ | 1, _ => ⟨_, t_q3, rfl⟩ | 2, _ => ⟨_, t_q5, rfl⟩ | n + 3, h => absurd (show n + 3 < 3 from h) (by omega))
  refine W.widen (k := 3) (n := 1203) (Nat.le_of_ble_eq_true rfl) (Nat.le_of_ble_eq_true rfl) ?_
  exact iv_vretM X hr hlocks hB ⟨hgr.tr (iv_gr.up (Nat.le_refl _)) (Nat.le_refl _) (Nat.le_refl _), _, _, iv_up_eq⟩ dX10_init_31
theorem dX7_init_0 : decode cX7_init 0 = .ok (.aload_n 0, 1) := by decide +kernel
theorem dX7_init_1 : decode cX7_init 1 = .ok (.invokespecial 3, 3) := by decide +kernel
theorem dX7_init_4 : decode cX7_init 4 = .ok (.aload_n 0, 1) := by decide +kernel
theorem dX7_init_5 : decode cX7_init 5 = .ok (.new 9, 3) := by decide +kernel
theorem dX7_init_8 : decode cX7_init 8 = .ok (.dup, 1) := by decide +kernel
theorem dX7_init_9 : decode cX7_init 9 = .ok (.invokespecial 11, 3) := by decide +kernel
theorem dX7_init_12 : decode cX7_init 12 = .ok (.putfield 12, 3) := by decide +kernel
theorem dX7_init_15 : decode cX7_init 15 = .ok (.aload_n 0, 1) := by decide +kernel
theorem dX7_init_16 : decode cX7_init 16 = .ok (.iconst (-1), 1) := by decide +kernel
theorem dX7_init_17 : decode cX7_init 17 = .ok (.putfield 18, 3) := by decide +kernel
theorem dX7_init_20 : decode cX7_init 20 = .ok (.aload_n 0, 1) := by decide +kernel
theorem dX7_init_21 : decode cX7_init 21 = .ok (.bipush 10, 2) := by decide +kernel
theorem dX7_init_23 : decode cX7_init 23 = .ok (.newarray .int, 2) := by decide +kernel
theorem dX7_init_25 : decode cX7_init 25 = .ok (.putfield 22, 3) := by decide +kernel
theorem dX7_init_28 : decode cX7_init 28 = .ok (.aload_n 0, 1) := by decide +kernel
theorem dX7_init_29 : decode cX7_init 29 = .ok (.bipush 16, 2) := by decide +kernel
theorem dX7_init_31 : decode cX7_init 31 = .ok (.newarray .int, 2) := by decide +kernel
theorem dX7_init_33 : decode cX7_init 33 = .ok (.putfield 26, 3) := by decide +kernel
theorem dX7_init_36 : decode cX7_init 36 = .ok (.aload_n 0, 1) := by decide +kernel
theorem dX7_init_37 : decode cX7_init 37 = .ok (.bipush 17, 2) := by decide +kernel
theorem dX7_init_39 : decode cX7_init 39 = .ok (.newarray .int, 2) := by decide +kernel
theorem dX7_init_41 : decode cX7_init 41 = .ok (.putfield 29, 3) := by decide +kernel
theorem dX7_init_44 : decode cX7_init 44 = .ok (.aload_n 0, 1) := by decide +kernel
theorem dX7_init_45 : decode cX7_init 45 = .ok (.bipush 16, 2) := by decide +kernel
theorem dX7_init_47 : decode cX7_init 47 = .ok (.newarray .int, 2) := by decide +kernel
theorem dX7_init_49 : decode cX7_init 49 = .ok (.putfield 32, 3) := by decide +kernel
theorem dX7_init_52 : decode cX7_init 52 = .ok (.aload_n 0, 1) := by decide +kernel
theorem dX7_init_53 : decode cX7_init 53 = .ok (.sipush 400, 3) := by decide +kernel
theorem dX7_init_56 : decode cX7_init 56 = .ok (.newarray .int, 2) := by decide +kernel
theorem dX7_init_58 : decode cX7_init 58 = .ok (.putfield 35, 3) := by decide +kernel
theorem dX7_init_61 : decode cX7_init 61 = .ok (.aload_n 0, 1) := by decide +kernel
theorem dX7_init_62 : decode cX7_init 62 = .ok (.sipush 400, 3) := by decide +kernel
theorem dX7_init_65 : decode cX7_init 65 = .ok (.newarray .int, 2) := by decide +kernel
theorem dX7_init_67 : decode cX7_init 67 = .ok (.putfield 38, 3) := by decide +kernel
theorem dX7_init_70 : decode cX7_init 70 = .ok (.return_, 1) := by decide +kernel
set_option maxHeartbeats 8000000 in
set_option maxRecDepth 100000 in
theorem c_X7_init (l : Launch) (D : va_G) (tys : List (ClassId × FieldType)) (base : Nat) (G : iv_G) (hty : iv_ty tys) (h0 sz : Nat) (hsz : sz = h0 + 1) (hbf : base ≤ h0) (hno : G h0 = none) : Met l yX7_init (Cond.code yX7_init cX7_init 1 none :: iv_W0) ({ frames := 2, cells := 10, slots := 2065, locals := 32 }) (iv_PcM iv_sh D classes tys base G sz (fun H9 => t_OB h0 (D.1 7) 15 (D.2 7) H9 (fun j => defaultValue (tyX7 j))) [.ref h0]) (iv_QvM iv_sh D classes tys base h0 (fun G' => iv_gr h0 G G' ∧ ∃ (g : Nat → Int32) (r : Nat → Nat), G' h0 = some (7, g, r) ∧ g 6 = 0 ∧ g 7 = -1)) 10 2065 (iv_A h0) := by
  refine iv_headM hbf (by omega) (by decide) (Nat.le_of_ble_eq_true rfl) ?_
  intro p e s m args below meth c ls X hr hlocks hname hz hO hB hl
  have hx := X.1.1
  have hb := X.1.2.1
  have hlt : h0 < s.heap.size := by omega
  have hgr : iv_gr h0 G G := iv_gr.rf
  have hl : lv_has ls 1 [(0, .ref h0)] := hl
  refine lv_aload_n hx hb dX7_init_0 rfl (lv_at hl 0 rfl) ?_
  refine W.objInit hx hb X.1.2.2.2.1 (X.1.2.2.2.2 _ k_oi_X7) (X.1.2.2.2.2 _ k_oim) (X.1.2.2.2.2 _ k_oic) rfl (by rw [X.1.2.2.1]; exact hl.1) rfl dX7_init_1 (Nat.le_of_ble_eq_true rfl) (Nat.le_of_ble_eq_true rfl) ?_
  refine W.eq (g2 := F0 m 4 ls []) rfl ?_
  refine lv_aload_n hx hb dX7_init_4 rfl (lv_at hl 0 rfl) ?_
  refine iv_newo X hB ft_X10 k_cl_X7_9 k_it_X10 k_ii_X10 (Nat.le_of_ble_eq_true rfl) (Nat.le_of_ble_eq_true rfl) dX7_init_5 (fun q1 H1 z1 y1 o1 hOq n1 hB => ?_)
  have hO := hO.kept (o1 h0 (by omega))
  have hlt : h0 < H1.size := by omega
  refine lv_dup hx hb dX7_init_8 rfl ?_
  have hBo := hB
  refine iv_cI X k_good k_mf_X10_init rfl k_im_X10_init (Or.inr ⟨_, k_mn_X7_11 X.2.2⟩) hB (show h0 ≤ q1 by omega) (O := fun H9 => t_OB q1 (D.1 10) 3 (D.2 10) H9 (fun j => defaultValue (tyX10 j))) hOq rfl (As := []) (c_X10_init l D tys base G hty q1 _ (show H1.size = q1 + 1 by omega) (by omega) n1) ⟨rfl, rfl⟩ ⟨Nat.le_of_ble_eq_true rfl, Nat.le_of_ble_eq_true rfl⟩ ⟨Nat.le_of_ble_eq_true rfl, Nat.le_of_ble_eq_true rfl⟩ rfl rfl hl.1 (Nat.le_of_ble_eq_true rfl) dX7_init_9 (fun G2 H2 locs2 hw z2 hk hB => ?_)
  obtain ⟨gr2, g_q1, r_q1, t_q1⟩ := hw
  have hno := (gr2 h0 (by omega)).trans hno
  have hgr := hgr.tr gr2 (Nat.le_refl _) (by omega)
  have hO := hO.kept (hk h0 (by omega) (by omega))
  have hlt : h0 < H2.size := by omega
  refine iv_putF X hB ft_X7 hO hno (Nat.le_refl _) 0 (by decide) k_fl_X7_12 rfl hname rfl rfl rfl dX7_init_12 (fun H3 locs3 hO z3 o3 hB => ?_)
  have hlt : h0 < H3.size := by omega
  refine lv_aload_n hx hb dX7_init_15 rfl (lv_at hl 0 rfl) ?_
  refine lv_iconst (v := (-1)) hx hb dX7_init_16 (by decide) ?_
  refine iv_putU X hB ft_X7 hO hno (Nat.le_refl _) 7 (by decide) k_fl_X7_18 rfl rfl rfl dX7_init_17 (fun H4 locs4 hO z4 o4 hB => ?_)
  have hlt : h0 < H4.size := by omega
  refine lv_aload_n hx hb dX7_init_20 rfl (lv_at hl 0 rfl) ?_
  refine lv_bipush (v := 10) hx hb dX7_init_21 (by decide) ?_
  have hBo := hB
  refine iv_newa X hB hty k_arr_int (cd := 21) (N := 10) sh_21 (iv_E.zr (by decide)) (by decide +kernel) (by decide +kernel) (by decide) (Nat.le_of_ble_eq_true rfl) (Nat.le_of_ble_eq_true rfl) dX7_init_23 (fun q5 H5 z5 y5 o5 n5 hB => ?_)
  have gr5 : iv_gr q5 G2 (iv_up G2 q5 (21, fun _ => 0, fun _ => 0)) := iv_gr.up (Nat.le_refl _)
  have t_q5 : iv_up G2 q5 (21, fun _ => 0, fun _ => 0) q5 = some (21, fun _ => 0, fun _ => 0) := iv_up_eq
  generalize eG5 : iv_up G2 q5 (21, fun _ => 0, fun _ => 0) = G5 at hB gr5 t_q5
  have t_q1 := gr5.kp hBo.1 (by omega) n5 t_q1
  have hno := (gr5 h0 (by omega)).trans hno
  have hgr := hgr.tr gr5 (Nat.le_refl _) (by omega)
  have hO := hO.kept (o5 h0 (by omega))
  have hlt : h0 < H5.size := by omega
  refine iv_putF X hB ft_X7 hO hno (Nat.le_refl _) 9 (by decide) k_fl_X7_22 rfl hname rfl rfl rfl dX7_init_25 (fun H6 locs6 hO z6 o6 hB => ?_)
  have hlt : h0 < H6.size := by omega
  refine lv_aload_n hx hb dX7_init_28 rfl (lv_at hl 0 rfl) ?_
  refine lv_bipush (v := 16) hx hb dX7_init_29 (by decide) ?_
  have hBo := hB
  refine iv_newa X hB hty k_arr_int (cd := 34) (N := 16) sh_34 (iv_E.zr (by decide)) (by decide +kernel) (by decide +kernel) (by decide) (Nat.le_of_ble_eq_true rfl) (Nat.le_of_ble_eq_true rfl) dX7_init_31 (fun q7 H7 z7 y7 o7 n7 hB => ?_)
  have gr7 : iv_gr q7 G5 (iv_up G5 q7 (34, fun _ => 0, fun _ => 0)) := iv_gr.up (Nat.le_refl _)
  have t_q7 : iv_up G5 q7 (34, fun _ => 0, fun _ => 0) q7 = some (34, fun _ => 0, fun _ => 0) := iv_up_eq
  generalize eG7 : iv_up G5 q7 (34, fun _ => 0, fun _ => 0) = G7 at hB gr7 t_q7
  have t_q1 := gr7.kp hBo.1 (by omega) n7 t_q1
  have t_q5 := gr7.kp hBo.1 (by omega) n7 t_q5
  have hno := (gr7 h0 (by omega)).trans hno
  have hgr := hgr.tr gr7 (Nat.le_refl _) (by omega)
  have hO := hO.kept (o7 h0 (by omega))
  have hlt : h0 < H7.size := by omega
  refine iv_putF X hB ft_X7 hO hno (Nat.le_refl _) 10 (by decide) k_fl_X7_26 rfl hname rfl rfl rfl dX7_init_33 (fun H8 locs8 hO z8 o8 hB => ?_)
  have hlt : h0 < H8.size := by omega
  refine lv_aload_n hx hb dX7_init_36 rfl (lv_at hl 0 rfl) ?_
  refine lv_bipush (v := 17) hx hb dX7_init_37 (by decide) ?_
  have hBo := hB
  refine iv_newa X hB hty k_arr_int (cd := 35) (N := 17) sh_35 (iv_E.zr (by decide)) (by decide +kernel) (by decide +kernel) (by decide) (Nat.le_of_ble_eq_true rfl) (Nat.le_of_ble_eq_true rfl) dX7_init_39 (fun q9 H9 z9 y9 o9 n9 hB => ?_)
  have gr9 : iv_gr q9 G7 (iv_up G7 q9 (35, fun _ => 0, fun _ => 0)) := iv_gr.up (Nat.le_refl _)
  have t_q9 : iv_up G7 q9 (35, fun _ => 0, fun _ => 0) q9 = some (35, fun _ => 0, fun _ => 0) := iv_up_eq
  generalize eG9 : iv_up G7 q9 (35, fun _ => 0, fun _ => 0) = G9 at hB gr9 t_q9
  have t_q1 := gr9.kp hBo.1 (by omega) n9 t_q1
  have t_q5 := gr9.kp hBo.1 (by omega) n9 t_q5
  have t_q7 := gr9.kp hBo.1 (by omega) n9 t_q7
  have hno := (gr9 h0 (by omega)).trans hno
  have hgr := hgr.tr gr9 (Nat.le_refl _) (by omega)
  have hO := hO.kept (o9 h0 (by omega))
  have hlt : h0 < H9.size := by omega
  refine iv_putF X hB ft_X7 hO hno (Nat.le_refl _) 11 (by decide) k_fl_X7_29 rfl hname rfl rfl rfl dX7_init_41 (fun H10 locs10 hO z10 o10 hB => ?_)
  have hlt : h0 < H10.size := by omega
  refine lv_aload_n hx hb dX7_init_44 rfl (lv_at hl 0 rfl) ?_
  refine lv_bipush (v := 16) hx hb dX7_init_45 (by decide) ?_
  have hBo := hB
  refine iv_newa X hB hty k_arr_int (cd := 36) (N := 16) sh_36 (iv_E.zr (by decide)) (by decide +kernel) (by decide +kernel) (by decide) (Nat.le_of_ble_eq_true rfl) (Nat.le_of_ble_eq_true rfl) dX7_init_47 (fun q11 H11 z11 y11 o11 n11 hB => ?_)
  have gr11 : iv_gr q11 G9 (iv_up G9 q11 (36, fun _ => 0, fun _ => 0)) := iv_gr.up (Nat.le_refl _)
  have t_q11 : iv_up G9 q11 (36, fun _ => 0, fun _ => 0) q11 = some (36, fun _ => 0, fun _ => 0) := iv_up_eq
  generalize eG11 : iv_up G9 q11 (36, fun _ => 0, fun _ => 0) = G11 at hB gr11 t_q11
  have t_q1 := gr11.kp hBo.1 (by omega) n11 t_q1
  have t_q5 := gr11.kp hBo.1 (by omega) n11 t_q5
  have t_q7 := gr11.kp hBo.1 (by omega) n11 t_q7
  have t_q9 := gr11.kp hBo.1 (by omega) n11 t_q9
  have hno := (gr11 h0 (by omega)).trans hno
  have hgr := hgr.tr gr11 (Nat.le_refl _) (by omega)
  have hO := hO.kept (o11 h0 (by omega))
  have hlt : h0 < H11.size := by omega
  refine iv_putF X hB ft_X7 hO hno (Nat.le_refl _) 12 (by decide) k_fl_X7_32 rfl hname rfl rfl rfl dX7_init_49 (fun H12 locs12 hO z12 o12 hB => ?_)
  have hlt : h0 < H12.size := by omega
  refine lv_aload_n hx hb dX7_init_52 rfl (lv_at hl 0 rfl) ?_
  refine lv_sipush (v := 400) hx hb dX7_init_53 (by decide) ?_
  have hBo := hB
  refine iv_newa X hB hty k_arr_int (cd := 37) (N := 400) sh_37 (iv_E.zr (by decide)) (by decide +kernel) (by decide +kernel) (by decide) (Nat.le_of_ble_eq_true rfl) (Nat.le_of_ble_eq_true rfl) dX7_init_56 (fun q13 H13 z13 y13 o13 n13 hB => ?_)
  have gr13 : iv_gr q13 G11 (iv_up G11 q13 (37, fun _ => 0, fun _ => 0)) := iv_gr.up (Nat.le_refl _)
  have t_q13 : iv_up G11 q13 (37, fun _ => 0, fun _ => 0) q13 = some (37, fun _ => 0, fun _ => 0) := iv_up_eq
  generalize eG13 : iv_up G11 q13 (37, fun _ => 0, fun _ => 0) = G13 at hB gr13 t_q13
  have t_q1 := gr13.kp hBo.1 (by omega) n13 t_q1
  have t_q5 := gr13.kp hBo.1 (by omega) n13 t_q5
  have t_q7 := gr13.kp hBo.1 (by omega) n13 t_q7
  have t_q9 := gr13.kp hBo.1 (by omega) n13 t_q9
  have t_q11 := gr13.kp hBo.1 (by omega) n13 t_q11
  have hno := (gr13 h0 (by omega)).trans hno
  have hgr := hgr.tr gr13 (Nat.le_refl _) (by omega)
  have hO := hO.kept (o13 h0 (by omega))
  have hlt : h0 < H13.size := by omega
  refine iv_putF X hB ft_X7 hO hno (Nat.le_refl _) 13 (by decide) k_fl_X7_35 rfl hname rfl rfl rfl dX7_init_58 (fun H14 locs14 hO z14 o14 hB => ?_)
  have hlt : h0 < H14.size := by omega
  refine lv_aload_n hx hb dX7_init_61 rfl (lv_at hl 0 rfl) ?_
  refine lv_sipush (v := 400) hx hb dX7_init_62 (by decide) ?_
  have hBo := hB
  refine iv_newa X hB hty k_arr_int (cd := 38) (N := 400) sh_38 (iv_E.zr (by decide)) (by decide +kernel) (by decide +kernel) (by decide) (Nat.le_of_ble_eq_true rfl) (Nat.le_of_ble_eq_true rfl) dX7_init_65 (fun q15 H15 z15 y15 o15 n15 hB => ?_)
  have gr15 : iv_gr q15 G13 (iv_up G13 q15 (38, fun _ => 0, fun _ => 0)) := iv_gr.up (Nat.le_refl _)
  have t_q15 : iv_up G13 q15 (38, fun _ => 0, fun _ => 0) q15 = some (38, fun _ => 0, fun _ => 0) := iv_up_eq
  generalize eG15 : iv_up G13 q15 (38, fun _ => 0, fun _ => 0) = G15 at hB gr15 t_q15
  have t_q1 := gr15.kp hBo.1 (by omega) n15 t_q1
  have t_q5 := gr15.kp hBo.1 (by omega) n15 t_q5
  have t_q7 := gr15.kp hBo.1 (by omega) n15 t_q7
  have t_q9 := gr15.kp hBo.1 (by omega) n15 t_q9
  have t_q11 := gr15.kp hBo.1 (by omega) n15 t_q11
  have t_q13 := gr15.kp hBo.1 (by omega) n15 t_q13
  have hno := (gr15 h0 (by omega)).trans hno
  have hgr := hgr.tr gr15 (Nat.le_refl _) (by omega)
  have hO := hO.kept (o15 h0 (by omega))
  have hlt : h0 < H15.size := by omega
  refine iv_putF X hB ft_X7 hO hno (Nat.le_refl _) 14 (by decide) k_fl_X7_38 rfl hname rfl rfl rfl dX7_init_67 (fun H16 locs16 hO z16 o16 hB => ?_)
  have hlt : h0 < H16.size := by omega
  have hB := hB.close hno (Nat.le_refl _) (ci := 7) (cd := 7) (g := fun j => ([0, 0, 0, 0, 0, 0, 0, (-1), 0, 0, 0, 0, 0, 0, 0] : List Int32).getD j 0) (rr := fun j => ([q1, 0, 0, 0, 0, 0, 0, 0, 0, q5, q7, q9, q11, q13, q15] : List Nat).getD j 0) rfl hO sh_7 (fun j hj => match j, hj with | 0, _ => rfl | 1, _ => rfl | 2, _ => rfl | 3, _ => rfl | 4, _ => rfl | 5, _ => rfl | 6, _ => rfl | 7, _ => rfl | 8, _ => rfl | 9, _ => rfl | 10, _ => rfl | 11, _ => rfl | 12, _ => rfl | 13, _ => rfl | 14, _ => rfl | n + 15, h => absurd (show n + 15 < 15 from h) (by omega)) (fun j hj => match j, hj with | 0, _ => ⟨_, t_q1, rfl⟩ | 1, _ => (iv_lit (by decide +kernel) : iv_R 0 0 (0 : Int32)).wk (by decide) | 2, _ => (iv_lit (by decide +kernel) : iv_R 0 0 (0 : Int32)).wk (by decide) | 3, _ => (iv_lit (by decide +kernel) : iv_R 0 0 (0 : Int32)).wk (by decide) | 4, _ => (iv_lit (by decide +kernel) : iv_R 0 0 (0 : Int32)).wk (by decide) | 5, _ => (iv_lit (by decide +kernel) : iv_R 0 0 (0 : Int32)).wk (by decide) | 6, _ => (iv_lit (by decide +kernel) : iv_R 0 0 (0 : Int32)).wk (by decide) | 7, _ => (iv_lit (by decide +kernel) : iv_R (-1) (-1) ((-1) : Int32)).wk (by decide) | 8, _ => (iv_lit (by decide +kernel) : iv_R 0 0 (0 : Int32)).wk (by decide) | 9, _ => ⟨_, t_q5, rfl⟩ | 10, _ => ⟨_, t_q7, rfl⟩ | 11, _ => ⟨_, t_q9, rfl⟩ | 12, _ => ⟨_, t_q11, rfl⟩ | 13, _ => ⟨_, t_q13, rfl⟩ | 14, _ => ⟨_, t_q15, rfl⟩ | n + 15, h => absurd (show n + 15 < 15 from h) (by omega))
  refine W.widen (k := 10) (n := 2065) (Nat.le_of_ble_eq_true rfl) (Nat.le_of_ble_eq_true rfl) ?_
  exact iv_vretM X hr hlocks hB ⟨hgr.tr (iv_gr.up (Nat.le_refl _)) (Nat.le_refl _) (Nat.le_refl _), _, _, iv_up_eq, rfl, rfl⟩ dX7_init_70
theorem dX2_init_0 : decode cX2_init 0 = .ok (.aload_n 0, 1) := by decide +kernel
theorem dX2_init_1 : decode cX2_init 1 = .ok (.invokespecial 3, 3) := by decide +kernel
theorem dX2_init_4 : decode cX2_init 4 = .ok (.aload_n 0, 1) := by decide +kernel
theorem dX2_init_5 : decode cX2_init 5 = .ok (.bipush 11, 2) := by decide +kernel
theorem dX2_init_7 : decode cX2_init 7 = .ok (.newarray .int, 2) := by decide +kernel
theorem dX2_init_9 : decode cX2_init 9 = .ok (.putfield 9, 3) := by decide +kernel
theorem dX2_init_12 : decode cX2_init 12 = .ok (.aload_n 0, 1) := by decide +kernel
theorem dX2_init_13 : decode cX2_init 13 = .ok (.aload_n 1, 1) := by decide +kernel
theorem dX2_init_14 : decode cX2_init 14 = .ok (.putfield 15, 3) := by decide +kernel
theorem dX2_init_17 : decode cX2_init 17 = .ok (.return_, 1) := by decide +kernel
set_option maxHeartbeats 8000000 in
set_option maxRecDepth 100000 in
theorem c_X2_init (l : Launch) (D : va_G) (tys : List (ClassId × FieldType)) (base : Nat) (G : iv_G) (hty : iv_ty tys) (h0 sz : Nat) (hsz : sz = h0 + 1) (hbf : base ≤ h0) (hno : G h0 = none) (h1 : Nat) (g_h1 : Nat → Int32) (r_h1 : Nat → Nat) (a_h1 : G h1 = some (5, g_h1, r_h1)) : Met l yX2_init (Cond.code yX2_init cX2_init 2 none :: iv_W0) ({ frames := 1, cells := 1, slots := 11, locals := 12 }) (iv_PcM iv_sh D classes tys base G sz (fun H9 => t_OB h0 (D.1 2) 2 (D.2 2) H9 (fun j => defaultValue (tyX2 j))) [.ref h0, .ref h1]) (iv_QvM iv_sh D classes tys base h0 (fun G' => iv_gr h0 G G' ∧ ∃ (g : Nat → Int32) (r : Nat → Nat), G' h0 = some (2, g, r))) 1 11 (iv_A h0) := by
  refine iv_headM hbf (by omega) (by decide) (Nat.le_of_ble_eq_true rfl) ?_
  intro p e s m args below meth c ls X hr hlocks hname hz hO hB hl
  have hx := X.1.1
  have hb := X.1.2.1
  have hlt : h0 < s.heap.size := by omega
  have hgr : iv_gr h0 G G := iv_gr.rf
  have hl : lv_has ls 2 [(0, .ref h0), (1, .ref h1)] := hl
  have t_h1 := a_h1
  refine lv_aload_n hx hb dX2_init_0 rfl (lv_at hl 0 rfl) ?_
  refine W.objInit hx hb X.1.2.2.2.1 (X.1.2.2.2.2 _ k_oi_X2) (X.1.2.2.2.2 _ k_oim) (X.1.2.2.2.2 _ k_oic) rfl (by rw [X.1.2.2.1]; exact hl.1) rfl dX2_init_1 (Nat.le_of_ble_eq_true rfl) (Nat.le_of_ble_eq_true rfl) ?_
  refine W.eq (g2 := F0 m 4 ls []) rfl ?_
  refine lv_aload_n hx hb dX2_init_4 rfl (lv_at hl 0 rfl) ?_
  refine lv_bipush (v := 11) hx hb dX2_init_5 (by decide) ?_
  have hBo := hB
  refine iv_newa X hB hty k_arr_int (cd := 30) (N := 11) sh_30 (iv_E.zr (by decide)) (by decide +kernel) (by decide +kernel) (by decide) (Nat.le_of_ble_eq_true rfl) (Nat.le_of_ble_eq_true rfl) dX2_init_7 (fun q1 H1 z1 y1 o1 n1 hB => ?_)
  have gr1 : iv_gr q1 G (iv_up G q1 (30, fun _ => 0, fun _ => 0)) := iv_gr.up (Nat.le_refl _)
  have t_q1 : iv_up G q1 (30, fun _ => 0, fun _ => 0) q1 = some (30, fun _ => 0, fun _ => 0) := iv_up_eq
  generalize eG1 : iv_up G q1 (30, fun _ => 0, fun _ => 0) = G1 at hB gr1 t_q1
  have t_h1 := gr1.kp hBo.1 (by omega) n1 t_h1
  have hno := (gr1 h0 (by omega)).trans hno
  have hgr := hgr.tr gr1 (Nat.le_refl _) (by omega)
  have hO := hO.kept (o1 h0 (by omega))
  have hlt : h0 < H1.size := by omega
  refine iv_putF X hB ft_X2 hO hno (Nat.le_refl _) 1 (by decide) k_fl_X2_9 rfl hname rfl rfl rfl dX2_init_9 (fun H2 locs2 hO z2 o2 hB => ?_)
  have hlt : h0 < H2.size := by omega
  refine lv_aload_n hx hb dX2_init_12 rfl (lv_at hl 0 rfl) ?_
  refine lv_aload_n hx hb dX2_init_13 rfl (lv_at hl 1 rfl) ?_
  refine iv_putF X hB ft_X2 hO hno (Nat.le_refl _) 0 (by decide) k_fl_X2_15 rfl hname rfl rfl rfl dX2_init_14 (fun H3 locs3 hO z3 o3 hB => ?_)
  have hlt : h0 < H3.size := by omega
  have hB := hB.close hno (Nat.le_refl _) (ci := 2) (cd := 2) (g := fun j => ([0, 0] : List Int32).getD j 0) (rr := fun j => ([h1, q1] : List Nat).getD j 0) rfl hO sh_2 (fun j hj => match j, hj with | 0, _ => rfl | 1, _ => rfl | n + 2, h => absurd (show n + 2 < 2 from h) (by omega)) (fun j hj => match j, hj with | 0, _ => ⟨_, t_h1, rfl⟩ | 1, _ => ⟨_, t_q1, rfl⟩ | n + 2, h => absurd (show n + 2 < 2 from h) (by omega))
  refine W.widen (k := 1) (n := 11) (Nat.le_of_ble_eq_true rfl) (Nat.le_of_ble_eq_true rfl) ?_
  exact iv_vretM X hr hlocks hB ⟨hgr.tr (iv_gr.up (Nat.le_refl _)) (Nat.le_refl _) (Nat.le_refl _), _, _, iv_up_eq⟩ dX2_init_17
theorem dX0_init_0 : decode cX0_init 0 = .ok (.aload_n 0, 1) := by decide +kernel
theorem dX0_init_1 : decode cX0_init 1 = .ok (.invokespecial 3, 3) := by decide +kernel
theorem dX0_init_4 : decode cX0_init 4 = .ok (.aload_n 0, 1) := by decide +kernel
theorem dX0_init_5 : decode cX0_init 5 = .ok (.aload_n 1, 1) := by decide +kernel
theorem dX0_init_6 : decode cX0_init 6 = .ok (.putfield 9, 3) := by decide +kernel
theorem dX0_init_9 : decode cX0_init 9 = .ok (.aload_n 0, 1) := by decide +kernel
theorem dX0_init_10 : decode cX0_init 10 = .ok (.aload_n 2, 1) := by decide +kernel
theorem dX0_init_11 : decode cX0_init 11 = .ok (.putfield 15, 3) := by decide +kernel
theorem dX0_init_14 : decode cX0_init 14 = .ok (.return_, 1) := by decide +kernel
set_option maxHeartbeats 8000000 in
set_option maxRecDepth 100000 in
theorem c_X0_init (l : Launch) (D : va_G) (tys : List (ClassId × FieldType)) (base : Nat) (G : iv_G) (hty : iv_ty tys) (h0 sz : Nat) (hsz : sz = h0 + 1) (hbf : base ≤ h0) (hno : G h0 = none) (h1 : Nat) (g_h1 : Nat → Int32) (r_h1 : Nat → Nat) (a_h1 : G h1 = some (5, g_h1, r_h1)) (h2 : Nat) (g_h2 : Nat → Int32) (r_h2 : Nat → Nat) (a_h2 : G h2 = some (2, g_h2, r_h2)) : Met l yX0_init (Cond.code yX0_init cX0_init 3 none :: iv_W0) ({ frames := 1, cells := 0, slots := 0, locals := 12 }) (iv_PcM iv_sh D classes tys base G sz (fun H9 => t_OB h0 (D.1 0) 2 (D.2 0) H9 (fun j => defaultValue (tyX0 j))) [.ref h0, .ref h1, .ref h2]) (iv_QvM iv_sh D classes tys base h0 (fun G' => iv_gr h0 G G' ∧ ∃ (g : Nat → Int32) (r : Nat → Nat), G' h0 = some (0, g, r))) 0 0 (iv_A h0) := by
  refine iv_headM hbf (by omega) (by decide) (Nat.le_of_ble_eq_true rfl) ?_
  intro p e s m args below meth c ls X hr hlocks hname hz hO hB hl
  have hx := X.1.1
  have hb := X.1.2.1
  have hlt : h0 < s.heap.size := by omega
  have hgr : iv_gr h0 G G := iv_gr.rf
  have hl : lv_has ls 3 [(0, .ref h0), (1, .ref h1), (2, .ref h2)] := hl
  have t_h1 := a_h1
  have t_h2 := a_h2
  refine lv_aload_n hx hb dX0_init_0 rfl (lv_at hl 0 rfl) ?_
  refine W.objInit hx hb X.1.2.2.2.1 (X.1.2.2.2.2 _ k_oi_X0) (X.1.2.2.2.2 _ k_oim) (X.1.2.2.2.2 _ k_oic) rfl (by rw [X.1.2.2.1]; exact hl.1) rfl dX0_init_1 (Nat.le_of_ble_eq_true rfl) (Nat.le_of_ble_eq_true rfl) ?_
  refine W.eq (g2 := F0 m 4 ls []) rfl ?_
  refine lv_aload_n hx hb dX0_init_4 rfl (lv_at hl 0 rfl) ?_
  refine lv_aload_n hx hb dX0_init_5 rfl (lv_at hl 1 rfl) ?_
  refine iv_putF X hB ft_X0 hO hno (Nat.le_refl _) 0 (by decide) k_fl_X0_9 rfl hname rfl rfl rfl dX0_init_6 (fun H1 locs1 hO z1 o1 hB => ?_)
  have hlt : h0 < H1.size := by omega
  refine lv_aload_n hx hb dX0_init_9 rfl (lv_at hl 0 rfl) ?_
  refine lv_aload_n hx hb dX0_init_10 rfl (lv_at hl 2 rfl) ?_
  refine iv_putF X hB ft_X0 hO hno (Nat.le_refl _) 1 (by decide) k_fl_X0_15 rfl hname rfl rfl rfl dX0_init_11 (fun H2 locs2 hO z2 o2 hB => ?_)
  have hlt : h0 < H2.size := by omega
  have hB := hB.close hno (Nat.le_refl _) (ci := 0) (cd := 0) (g := fun j => ([0, 0] : List Int32).getD j 0) (rr := fun j => ([h1, h2] : List Nat).getD j 0) rfl hO sh_0 (fun j hj => match j, hj with | 0, _ => rfl | 1, _ => rfl | n + 2, h => absurd (show n + 2 < 2 from h) (by omega)) (fun j hj => match j, hj with | 0, _ => ⟨_, t_h1, rfl⟩ | 1, _ => ⟨_, t_h2, rfl⟩ | n + 2, h => absurd (show n + 2 < 2 from h) (by omega))
  refine W.widen (k := 0) (n := 0) (Nat.le_of_ble_eq_true rfl) (Nat.le_of_ble_eq_true rfl) ?_
  exact iv_vretM X hr hlocks hB ⟨hgr.tr (iv_gr.up (Nat.le_refl _)) (Nat.le_refl _) (Nat.le_refl _), _, _, iv_up_eq⟩ dX0_init_14
theorem dX9_init_0 : decode cX9_init 0 = .ok (.aload_n 0, 1) := by decide +kernel
theorem dX9_init_1 : decode cX9_init 1 = .ok (.invokespecial 3, 3) := by decide +kernel
theorem dX9_init_4 : decode cX9_init 4 = .ok (.aload_n 0, 1) := by decide +kernel
theorem dX9_init_5 : decode cX9_init 5 = .ok (.bipush 20, 2) := by decide +kernel
theorem dX9_init_7 : decode cX9_init 7 = .ok (.newarray .int, 2) := by decide +kernel
theorem dX9_init_9 : decode cX9_init 9 = .ok (.putfield 9, 3) := by decide +kernel
theorem dX9_init_12 : decode cX9_init 12 = .ok (.aload_n 0, 1) := by decide +kernel
theorem dX9_init_13 : decode cX9_init 13 = .ok (.aload_n 1, 1) := by decide +kernel
theorem dX9_init_14 : decode cX9_init 14 = .ok (.putfield 15, 3) := by decide +kernel
theorem dX9_init_17 : decode cX9_init 17 = .ok (.return_, 1) := by decide +kernel
set_option maxHeartbeats 8000000 in
set_option maxRecDepth 100000 in
theorem c_X9_init (l : Launch) (D : va_G) (tys : List (ClassId × FieldType)) (base : Nat) (G : iv_G) (hty : iv_ty tys) (h0 sz : Nat) (hsz : sz = h0 + 1) (hbf : base ≤ h0) (hno : G h0 = none) (h1 : Nat) (g_h1 : Nat → Int32) (r_h1 : Nat → Nat) (a_h1 : G h1 = some (5, g_h1, r_h1)) : Met l yX9_init (Cond.code yX9_init cX9_init 2 none :: iv_W0) ({ frames := 1, cells := 1, slots := 20, locals := 12 }) (iv_PcM iv_sh D classes tys base G sz (fun H9 => t_OB h0 (D.1 9) 2 (D.2 9) H9 (fun j => defaultValue (tyX9 j))) [.ref h0, .ref h1]) (iv_QvM iv_sh D classes tys base h0 (fun G' => iv_gr h0 G G' ∧ ∃ (g : Nat → Int32) (r : Nat → Nat), G' h0 = some (9, g, r))) 1 20 (iv_A h0) := by
  refine iv_headM hbf (by omega) (by decide) (Nat.le_of_ble_eq_true rfl) ?_
  intro p e s m args below meth c ls X hr hlocks hname hz hO hB hl
  have hx := X.1.1
  have hb := X.1.2.1
  have hlt : h0 < s.heap.size := by omega
  have hgr : iv_gr h0 G G := iv_gr.rf
  have hl : lv_has ls 2 [(0, .ref h0), (1, .ref h1)] := hl
  have t_h1 := a_h1
  refine lv_aload_n hx hb dX9_init_0 rfl (lv_at hl 0 rfl) ?_
  refine W.objInit hx hb X.1.2.2.2.1 (X.1.2.2.2.2 _ k_oi_X9) (X.1.2.2.2.2 _ k_oim) (X.1.2.2.2.2 _ k_oic) rfl (by rw [X.1.2.2.1]; exact hl.1) rfl dX9_init_1 (Nat.le_of_ble_eq_true rfl) (Nat.le_of_ble_eq_true rfl) ?_
  refine W.eq (g2 := F0 m 4 ls []) rfl ?_
  refine lv_aload_n hx hb dX9_init_4 rfl (lv_at hl 0 rfl) ?_
  refine lv_bipush (v := 20) hx hb dX9_init_5 (by decide) ?_
  have hBo := hB
  refine iv_newa X hB hty k_arr_int (cd := 39) (N := 20) sh_39 (iv_E.zr (by decide)) (by decide +kernel) (by decide +kernel) (by decide) (Nat.le_of_ble_eq_true rfl) (Nat.le_of_ble_eq_true rfl) dX9_init_7 (fun q1 H1 z1 y1 o1 n1 hB => ?_)
  have gr1 : iv_gr q1 G (iv_up G q1 (39, fun _ => 0, fun _ => 0)) := iv_gr.up (Nat.le_refl _)
  have t_q1 : iv_up G q1 (39, fun _ => 0, fun _ => 0) q1 = some (39, fun _ => 0, fun _ => 0) := iv_up_eq
  generalize eG1 : iv_up G q1 (39, fun _ => 0, fun _ => 0) = G1 at hB gr1 t_q1
  have t_h1 := gr1.kp hBo.1 (by omega) n1 t_h1
  have hno := (gr1 h0 (by omega)).trans hno
  have hgr := hgr.tr gr1 (Nat.le_refl _) (by omega)
  have hO := hO.kept (o1 h0 (by omega))
  have hlt : h0 < H1.size := by omega
  refine iv_putF X hB ft_X9 hO hno (Nat.le_refl _) 1 (by decide) k_fl_X9_9 rfl hname rfl rfl rfl dX9_init_9 (fun H2 locs2 hO z2 o2 hB => ?_)
  have hlt : h0 < H2.size := by omega
  refine lv_aload_n hx hb dX9_init_12 rfl (lv_at hl 0 rfl) ?_
  refine lv_aload_n hx hb dX9_init_13 rfl (lv_at hl 1 rfl) ?_
  refine iv_putF X hB ft_X9 hO hno (Nat.le_refl _) 0 (by decide) k_fl_X9_15 rfl hname rfl rfl rfl dX9_init_14 (fun H3 locs3 hO z3 o3 hB => ?_)
  have hlt : h0 < H3.size := by omega
  have hB := hB.close hno (Nat.le_refl _) (ci := 9) (cd := 9) (g := fun j => ([0, 0] : List Int32).getD j 0) (rr := fun j => ([h1, q1] : List Nat).getD j 0) rfl hO sh_9 (fun j hj => match j, hj with | 0, _ => rfl | 1, _ => rfl | n + 2, h => absurd (show n + 2 < 2 from h) (by omega)) (fun j hj => match j, hj with | 0, _ => ⟨_, t_h1, rfl⟩ | 1, _ => ⟨_, t_q1, rfl⟩ | n + 2, h => absurd (show n + 2 < 2 from h) (by omega))
  refine W.widen (k := 1) (n := 20) (Nat.le_of_ble_eq_true rfl) (Nat.le_of_ble_eq_true rfl) ?_
  exact iv_vretM X hr hlocks hB ⟨hgr.tr (iv_gr.up (Nat.le_refl _)) (Nat.le_refl _) (Nat.le_refl _), _, _, iv_up_eq⟩ dX9_init_17
theorem dX4_init_0 : decode cX4_init 0 = .ok (.aload_n 0, 1) := by decide +kernel
theorem dX4_init_1 : decode cX4_init 1 = .ok (.invokespecial 3, 3) := by decide +kernel
theorem dX4_init_4 : decode cX4_init 4 = .ok (.aload_n 0, 1) := by decide +kernel
theorem dX4_init_5 : decode cX4_init 5 = .ok (.bipush 10, 2) := by decide +kernel
theorem dX4_init_7 : decode cX4_init 7 = .ok (.newarray .int, 2) := by decide +kernel
theorem dX4_init_9 : decode cX4_init 9 = .ok (.putfield 9, 3) := by decide +kernel
theorem dX4_init_12 : decode cX4_init 12 = .ok (.aload_n 0, 1) := by decide +kernel
theorem dX4_init_13 : decode cX4_init 13 = .ok (.bipush 8, 2) := by decide +kernel
theorem dX4_init_15 : decode cX4_init 15 = .ok (.newarray .int, 2) := by decide +kernel
theorem dX4_init_17 : decode cX4_init 17 = .ok (.putfield 15, 3) := by decide +kernel
theorem dX4_init_20 : decode cX4_init 20 = .ok (.aload_n 0, 1) := by decide +kernel
theorem dX4_init_21 : decode cX4_init 21 = .ok (.sipush 2048, 3) := by decide +kernel
theorem dX4_init_24 : decode cX4_init 24 = .ok (.newarray .int, 2) := by decide +kernel
theorem dX4_init_26 : decode cX4_init 26 = .ok (.putfield 18, 3) := by decide +kernel
theorem dX4_init_29 : decode cX4_init 29 = .ok (.aload_n 0, 1) := by decide +kernel
theorem dX4_init_30 : decode cX4_init 30 = .ok (.aload_n 1, 1) := by decide +kernel
theorem dX4_init_31 : decode cX4_init 31 = .ok (.putfield 21, 3) := by decide +kernel
theorem dX4_init_34 : decode cX4_init 34 = .ok (.return_, 1) := by decide +kernel
set_option maxHeartbeats 8000000 in
set_option maxRecDepth 100000 in
theorem c_X4_init (l : Launch) (D : va_G) (tys : List (ClassId × FieldType)) (base : Nat) (G : iv_G) (hty : iv_ty tys) (h0 sz : Nat) (hsz : sz = h0 + 1) (hbf : base ≤ h0) (hno : G h0 = none) (h1 : Nat) (g_h1 : Nat → Int32) (r_h1 : Nat → Nat) (a_h1 : G h1 = some (5, g_h1, r_h1)) : Met l yX4_init (Cond.code yX4_init cX4_init 2 none :: iv_W0) ({ frames := 1, cells := 3, slots := 2066, locals := 12 }) (iv_PcM iv_sh D classes tys base G sz (fun H9 => t_OB h0 (D.1 4) 5 (D.2 4) H9 (fun j => defaultValue (tyX4 j))) [.ref h0, .ref h1]) (iv_QvM iv_sh D classes tys base h0 (fun G' => iv_gr h0 G G' ∧ ∃ (g : Nat → Int32) (r : Nat → Nat), G' h0 = some (4, g, r))) 3 2066 (iv_A h0) := by
  refine iv_headM hbf (by omega) (by decide) (Nat.le_of_ble_eq_true rfl) ?_
  intro p e s m args below meth c ls X hr hlocks hname hz hO hB hl
  have hx := X.1.1
  have hb := X.1.2.1
  have hlt : h0 < s.heap.size := by omega
  have hgr : iv_gr h0 G G := iv_gr.rf
  have hl : lv_has ls 2 [(0, .ref h0), (1, .ref h1)] := hl
  have t_h1 := a_h1
  refine lv_aload_n hx hb dX4_init_0 rfl (lv_at hl 0 rfl) ?_
  refine W.objInit hx hb X.1.2.2.2.1 (X.1.2.2.2.2 _ k_oi_X4) (X.1.2.2.2.2 _ k_oim) (X.1.2.2.2.2 _ k_oic) rfl (by rw [X.1.2.2.1]; exact hl.1) rfl dX4_init_1 (Nat.le_of_ble_eq_true rfl) (Nat.le_of_ble_eq_true rfl) ?_
  refine W.eq (g2 := F0 m 4 ls []) rfl ?_
  refine lv_aload_n hx hb dX4_init_4 rfl (lv_at hl 0 rfl) ?_
  refine lv_bipush (v := 10) hx hb dX4_init_5 (by decide) ?_
  have hBo := hB
  refine iv_newa X hB hty k_arr_int (cd := 31) (N := 10) sh_31 (iv_E.zr (by decide)) (by decide +kernel) (by decide +kernel) (by decide) (Nat.le_of_ble_eq_true rfl) (Nat.le_of_ble_eq_true rfl) dX4_init_7 (fun q1 H1 z1 y1 o1 n1 hB => ?_)
  have gr1 : iv_gr q1 G (iv_up G q1 (31, fun _ => 0, fun _ => 0)) := iv_gr.up (Nat.le_refl _)
  have t_q1 : iv_up G q1 (31, fun _ => 0, fun _ => 0) q1 = some (31, fun _ => 0, fun _ => 0) := iv_up_eq
  generalize eG1 : iv_up G q1 (31, fun _ => 0, fun _ => 0) = G1 at hB gr1 t_q1
  have t_h1 := gr1.kp hBo.1 (by omega) n1 t_h1
  have hno := (gr1 h0 (by omega)).trans hno
  have hgr := hgr.tr gr1 (Nat.le_refl _) (by omega)
  have hO := hO.kept (o1 h0 (by omega))
  have hlt : h0 < H1.size := by omega
  refine iv_putF X hB ft_X4 hO hno (Nat.le_refl _) 1 (by decide) k_fl_X4_9 rfl hname rfl rfl rfl dX4_init_9 (fun H2 locs2 hO z2 o2 hB => ?_)
  have hlt : h0 < H2.size := by omega
  refine lv_aload_n hx hb dX4_init_12 rfl (lv_at hl 0 rfl) ?_
  refine lv_bipush (v := 8) hx hb dX4_init_13 (by decide) ?_
  have hBo := hB
  refine iv_newa X hB hty k_arr_int (cd := 32) (N := 8) sh_32 (iv_E.zr (by decide)) (by decide +kernel) (by decide +kernel) (by decide) (Nat.le_of_ble_eq_true rfl) (Nat.le_of_ble_eq_true rfl) dX4_init_15 (fun q3 H3 z3 y3 o3 n3 hB => ?_)
  have gr3 : iv_gr q3 G1 (iv_up G1 q3 (32, fun _ => 0, fun _ => 0)) := iv_gr.up (Nat.le_refl _)
  have t_q3 : iv_up G1 q3 (32, fun _ => 0, fun _ => 0) q3 = some (32, fun _ => 0, fun _ => 0) := iv_up_eq
  generalize eG3 : iv_up G1 q3 (32, fun _ => 0, fun _ => 0) = G3 at hB gr3 t_q3
  have t_h1 := gr3.kp hBo.1 (by omega) n3 t_h1
  have t_q1 := gr3.kp hBo.1 (by omega) n3 t_q1
  have hno := (gr3 h0 (by omega)).trans hno
  have hgr := hgr.tr gr3 (Nat.le_refl _) (by omega)
  have hO := hO.kept (o3 h0 (by omega))
  have hlt : h0 < H3.size := by omega
  refine iv_putF X hB ft_X4 hO hno (Nat.le_refl _) 2 (by decide) k_fl_X4_15 rfl hname rfl rfl rfl dX4_init_17 (fun H4 locs4 hO z4 o4 hB => ?_)
  have hlt : h0 < H4.size := by omega
  refine lv_aload_n hx hb dX4_init_20 rfl (lv_at hl 0 rfl) ?_
  refine lv_sipush (v := 2048) hx hb dX4_init_21 (by decide) ?_
  have hBo := hB
  refine iv_newa X hB hty k_arr_int (cd := 33) (N := 2048) sh_33 (iv_E.zr (by decide)) (by decide +kernel) (by decide +kernel) (by decide) (Nat.le_of_ble_eq_true rfl) (Nat.le_of_ble_eq_true rfl) dX4_init_24 (fun q5 H5 z5 y5 o5 n5 hB => ?_)
  have gr5 : iv_gr q5 G3 (iv_up G3 q5 (33, fun _ => 0, fun _ => 0)) := iv_gr.up (Nat.le_refl _)
  have t_q5 : iv_up G3 q5 (33, fun _ => 0, fun _ => 0) q5 = some (33, fun _ => 0, fun _ => 0) := iv_up_eq
  generalize eG5 : iv_up G3 q5 (33, fun _ => 0, fun _ => 0) = G5 at hB gr5 t_q5
  have t_h1 := gr5.kp hBo.1 (by omega) n5 t_h1
  have t_q1 := gr5.kp hBo.1 (by omega) n5 t_q1
  have t_q3 := gr5.kp hBo.1 (by omega) n5 t_q3
  have hno := (gr5 h0 (by omega)).trans hno
  have hgr := hgr.tr gr5 (Nat.le_refl _) (by omega)
  have hO := hO.kept (o5 h0 (by omega))
  have hlt : h0 < H5.size := by omega
  refine iv_putF X hB ft_X4 hO hno (Nat.le_refl _) 4 (by decide) k_fl_X4_18 rfl hname rfl rfl rfl dX4_init_26 (fun H6 locs6 hO z6 o6 hB => ?_)
  have hlt : h0 < H6.size := by omega
  refine lv_aload_n hx hb dX4_init_29 rfl (lv_at hl 0 rfl) ?_
  refine lv_aload_n hx hb dX4_init_30 rfl (lv_at hl 1 rfl) ?_
  refine iv_putF X hB ft_X4 hO hno (Nat.le_refl _) 0 (by decide) k_fl_X4_21 rfl hname rfl rfl rfl dX4_init_31 (fun H7 locs7 hO z7 o7 hB => ?_)
  have hlt : h0 < H7.size := by omega
  have hB := hB.close hno (Nat.le_refl _) (ci := 4) (cd := 4) (g := fun j => ([0, 0, 0, 0, 0] : List Int32).getD j 0) (rr := fun j => ([h1, q1, q3, 0, q5] : List Nat).getD j 0) rfl hO sh_4 (fun j hj => match j, hj with | 0, _ => rfl | 1, _ => rfl | 2, _ => rfl | 3, _ => rfl | 4, _ => rfl | n + 5, h => absurd (show n + 5 < 5 from h) (by omega)) (fun j hj => match j, hj with | 0, _ => ⟨_, t_h1, rfl⟩ | 1, _ => ⟨_, t_q1, rfl⟩ | 2, _ => ⟨_, t_q3, rfl⟩ | 3, _ => (iv_lit (by decide +kernel) : iv_R 0 0 (0 : Int32)).wk (by decide) | 4, _ => ⟨_, t_q5, rfl⟩ | n + 5, h => absurd (show n + 5 < 5 from h) (by omega))
  refine W.widen (k := 3) (n := 2066) (Nat.le_of_ble_eq_true rfl) (Nat.le_of_ble_eq_true rfl) ?_
  exact iv_vretM X hr hlocks hB ⟨hgr.tr (iv_gr.up (Nat.le_refl _)) (Nat.le_refl _) (Nat.le_refl _), _, _, iv_up_eq⟩ dX4_init_34
