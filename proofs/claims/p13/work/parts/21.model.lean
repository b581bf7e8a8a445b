theorem dX12_sounds_0 : decode cX12_sounds 0 = .ok (.aload_n 0, 1) := by decide +kernel
theorem dX12_sounds_1 : decode cX12_sounds 1 = .ok (.iload_n 1, 1) := by decide +kernel
theorem dX12_sounds_2 : decode cX12_sounds 2 = .ok (.bipush 6, 2) := by decide +kernel
theorem dX12_sounds_4 : decode cX12_sounds 4 = .ok (.invokevirtual 282, 3) := by decide +kernel
theorem dX12_sounds_7 : decode cX12_sounds 7 = .ok (.ifCond .ne 16, 3) := by decide +kernel
theorem dX12_sounds_10 : decode cX12_sounds 10 = .ok (.aload_n 0, 1) := by decide +kernel
theorem dX12_sounds_11 : decode cX12_sounds 11 = .ok (.iload_n 1, 1) := by decide +kernel
theorem dX12_sounds_12 : decode cX12_sounds 12 = .ok (.iload_n 2, 1) := by decide +kernel
theorem dX12_sounds_13 : decode cX12_sounds 13 = .ok (.invokevirtual 299, 3) := by decide +kernel
theorem dX12_sounds_16 : decode cX12_sounds 16 = .ok (.ifCond .eq 7, 3) := by decide +kernel
theorem dX12_sounds_19 : decode cX12_sounds 19 = .ok (.iconst 1, 1) := by decide +kernel
theorem dX12_sounds_20 : decode cX12_sounds 20 = .ok (.goto 4, 3) := by decide +kernel
theorem dX12_sounds_23 : decode cX12_sounds 23 = .ok (.iconst 0, 1) := by decide +kernel
theorem dX12_sounds_24 : decode cX12_sounds 24 = .ok (.ireturn, 1) := by decide +kernel
set_option maxHeartbeats 4000000 in
set_option maxRecDepth 100000 in
theorem c_X12_sounds (l : Launch) (D : va_G) (tys : List (ClassId × FieldType)) (base : Nat) (G : iv_G) (h0 : Nat) (g_h0 : Nat → Int32) (r_h0 : Nat → Nat) (a_h0 : G h0 = some (12, g_h0, r_h0)) (x_0 : Int32) (i_x_0 : iv_R 0 9 x_0) (x_1 : Int32) (i_x_1 : iv_R 0 23 x_1) : Met l yX12_sounds (Cond.code yX12_sounds cX12_sounds 3 (some .boolean) :: iv_W0) ({ frames := 2, cells := 0, slots := 0, locals := 45 }) (iv_Pc iv_sh D classes tys base G [.ref h0, .int x_0, .int x_1]) (iv_Qi iv_sh D classes tys base (fun v G' => G = G' ∧ iv_R 0 1 v)) 0 0 (iv_A base) := by
  refine iv_head (by decide) (Nat.le_of_ble_eq_true rfl) ?_
  intro p e s m args below meth c ls X hr hlocks hname hB hl
  have X := X
  have hx := X.1.1
  have hb := X.1.2.1
  have hl : lv_has ls 3 [(0, .ref h0), (1, .int x_0), (2, .int x_1)] := hl
  refine lv_aload_n hx hb dX12_sounds_0 rfl (lv_at hl 0 rfl) ?_
  refine lv_iload_n hx hb dX12_sounds_1 rfl (lv_at hl 1 rfl) ?_
  refine lv_bipush (v := 6) hx hb dX12_sounds_2 (by decide) ?_
  refine iv_cVi X k_good k_mf_X12_ofBell k_im_X12_ofBell k_sel_X12_ofBell k_ml_X12_282 ft_X12 hB a_h0 sh_12 (As := [.int x_0, .int 6]) (c_X12_ofBell l D tys base G h0 g_h0 r_h0 a_h0 x_0 i_x_0 6 (q_6.wk (by decide))) ⟨rfl, rfl⟩ ⟨Nat.le_of_ble_eq_true rfl, Nat.le_of_ble_eq_true rfl⟩ ⟨Nat.le_of_ble_eq_true rfl, Nat.le_of_ble_eq_true rfl⟩ rfl rfl hl.1 (Nat.le_of_ble_eq_true rfl) dX12_sounds_4 (fun x1 G9 H locs hq hB => ?_)
  obtain ⟨rfl, i_x1, cp2, cp3⟩ := hq
  refine lv_if_ne (tgt := 23) hx hb dX12_sounds_7 (by decide) (fun c4 => ?_) (fun c4 => ?_)
  · skip
    refine lv_iconst (v := 0) hx hb dX12_sounds_23 (by decide) ?_
    exact iv_zret X hr hlocks hB (q_0.wk (by decide)) ⟨rfl, (q_0.wk (by decide))⟩ dX12_sounds_24
  · skip
    have i4_x1 : iv_R 0 0 x1 := ((i_x1.cutLo (n := 0) (iv_eq_r c4 q_0).1).cutHi (n := 0) (iv_eq_r c4 q_0).2)
    refine lv_aload_n hx hb dX12_sounds_10 rfl (lv_at hl 0 rfl) ?_
    refine lv_iload_n hx hb dX12_sounds_11 rfl (lv_at hl 1 rfl) ?_
    refine lv_iload_n hx hb dX12_sounds_12 rfl (lv_at hl 2 rfl) ?_
    refine iv_cVi X k_good k_mf_X12_hasLine k_im_X12_hasLine k_sel_X12_hasLine k_ml_X12_299 ft_X12 hB a_h0 sh_12 (As := [.int x_0, .int x_1]) (c_X12_hasLine l D tys base G h0 g_h0 r_h0 a_h0 x_0 i_x_0 x_1 (i_x_1.wk (by decide))) ⟨rfl, rfl⟩ ⟨Nat.le_of_ble_eq_true rfl, Nat.le_of_ble_eq_true rfl⟩ ⟨Nat.le_of_ble_eq_true rfl, Nat.le_of_ble_eq_true rfl⟩ rfl rfl hl.1 (Nat.le_of_ble_eq_true rfl) dX12_sounds_13 (fun x6 G9 H locs hq hB => ?_)
    obtain ⟨rfl, i_x6⟩ := hq
    refine lv_if_eq (tgt := 23) hx hb dX12_sounds_16 (by decide) (fun c7 => ?_) (fun c7 => ?_)
    · skip
      have i7_x6 : iv_R 0 0 x6 := (i_x6.cutHi (n := 0) (iv_eq_r c7 q_0).2)
      refine lv_iconst (v := 0) hx hb dX12_sounds_23 (by decide) ?_
      exact iv_zret X hr hlocks hB (q_0.wk (by decide)) ⟨rfl, (q_0.wk (by decide))⟩ dX12_sounds_24
    · skip
      have i8_x6 : iv_R 1 1 x6 := iv_ne_lo c7 i_x6 q_0 (by decide)
      refine lv_iconst (v := 1) hx hb dX12_sounds_19 (by decide) ?_
      refine lv_goto (tgt := 24) hx hb dX12_sounds_20 (by decide) ?_
      exact iv_zret X hr hlocks hB (q_1.wk (by decide)) ⟨rfl, (q_1.wk (by decide))⟩ dX12_sounds_24
theorem dX12_astrayOf_0 : decode cX12_astrayOf 0 = .ok (.aload_n 0, 1) := by decide +kernel
theorem dX12_astrayOf_1 : decode cX12_astrayOf 1 = .ok (.iload_n 1, 1) := by decide +kernel
theorem dX12_astrayOf_2 : decode cX12_astrayOf 2 = .ok (.iconst 0, 1) := by decide +kernel
theorem dX12_astrayOf_3 : decode cX12_astrayOf 3 = .ok (.invokevirtual 282, 3) := by decide +kernel
theorem dX12_astrayOf_6 : decode cX12_astrayOf 6 = .ok (.istore_n 3, 1) := by decide +kernel
theorem dX12_astrayOf_7 : decode cX12_astrayOf 7 = .ok (.iload_n 1, 1) := by decide +kernel
theorem dX12_astrayOf_8 : decode cX12_astrayOf 8 = .ok (.istore 4, 2) := by decide +kernel
theorem dX12_astrayOf_10 : decode cX12_astrayOf 10 = .ok (.aload_n 0, 1) := by decide +kernel
theorem dX12_astrayOf_11 : decode cX12_astrayOf 11 = .ok (.iload_n 1, 1) := by decide +kernel
theorem dX12_astrayOf_12 : decode cX12_astrayOf 12 = .ok (.iload_n 3, 1) := by decide +kernel
theorem dX12_astrayOf_13 : decode cX12_astrayOf 13 = .ok (.iload_n 2, 1) := by decide +kernel
theorem dX12_astrayOf_14 : decode cX12_astrayOf 14 = .ok (.invokevirtual 308, 3) := by decide +kernel
theorem dX12_astrayOf_17 : decode cX12_astrayOf 17 = .ok (.istore 5, 2) := by decide +kernel
theorem dX12_astrayOf_19 : decode cX12_astrayOf 19 = .ok (.iconst 0, 1) := by decide +kernel
theorem dX12_astrayOf_20 : decode cX12_astrayOf 20 = .ok (.istore 6, 2) := by decide +kernel
theorem dX12_astrayOf_22 : decode cX12_astrayOf 22 = .ok (.iload 6, 2) := by decide +kernel
theorem dX12_astrayOf_24 : decode cX12_astrayOf 24 = .ok (.aload_n 0, 1) := by decide +kernel
theorem dX12_astrayOf_25 : decode cX12_astrayOf 25 = .ok (.getfield 7, 3) := by decide +kernel
theorem dX12_astrayOf_28 : decode cX12_astrayOf 28 = .ok (.sipush 146, 3) := by decide +kernel
theorem dX12_astrayOf_31 : decode cX12_astrayOf 31 = .ok (.iaload, 1) := by decide +kernel
theorem dX12_astrayOf_32 : decode cX12_astrayOf 32 = .ok (.if_icmp .ge 66, 3) := by decide +kernel
theorem dX12_astrayOf_35 : decode cX12_astrayOf 35 = .ok (.iload 6, 2) := by decide +kernel
theorem dX12_astrayOf_37 : decode cX12_astrayOf 37 = .ok (.iload_n 1, 1) := by decide +kernel
theorem dX12_astrayOf_38 : decode cX12_astrayOf 38 = .ok (.if_icmp .eq 54, 3) := by decide +kernel
theorem dX12_astrayOf_41 : decode cX12_astrayOf 41 = .ok (.aload_n 0, 1) := by decide +kernel
theorem dX12_astrayOf_42 : decode cX12_astrayOf 42 = .ok (.iload 6, 2) := by decide +kernel
theorem dX12_astrayOf_44 : decode cX12_astrayOf 44 = .ok (.iload_n 2, 1) := by decide +kernel
theorem dX12_astrayOf_45 : decode cX12_astrayOf 45 = .ok (.invokevirtual 302, 3) := by decide +kernel
theorem dX12_astrayOf_48 : decode cX12_astrayOf 48 = .ok (.ifCond .eq 44, 3) := by decide +kernel
theorem dX12_astrayOf_51 : decode cX12_astrayOf 51 = .ok (.aload_n 0, 1) := by decide +kernel
theorem dX12_astrayOf_52 : decode cX12_astrayOf 52 = .ok (.iload 6, 2) := by decide +kernel
theorem dX12_astrayOf_54 : decode cX12_astrayOf 54 = .ok (.iload_n 1, 1) := by decide +kernel
theorem dX12_astrayOf_55 : decode cX12_astrayOf 55 = .ok (.invokevirtual 326, 3) := by decide +kernel
theorem dX12_astrayOf_58 : decode cX12_astrayOf 58 = .ok (.ifCond .ne 6, 3) := by decide +kernel
theorem dX12_astrayOf_61 : decode cX12_astrayOf 61 = .ok (.goto 31, 3) := by decide +kernel
theorem dX12_astrayOf_64 : decode cX12_astrayOf 64 = .ok (.aload_n 0, 1) := by decide +kernel
theorem dX12_astrayOf_65 : decode cX12_astrayOf 65 = .ok (.iload 6, 2) := by decide +kernel
theorem dX12_astrayOf_67 : decode cX12_astrayOf 67 = .ok (.iload_n 3, 1) := by decide +kernel
theorem dX12_astrayOf_68 : decode cX12_astrayOf 68 = .ok (.iload_n 2, 1) := by decide +kernel
theorem dX12_astrayOf_69 : decode cX12_astrayOf 69 = .ok (.invokevirtual 308, 3) := by decide +kernel
theorem dX12_astrayOf_72 : decode cX12_astrayOf 72 = .ok (.istore 7, 2) := by decide +kernel
theorem dX12_astrayOf_74 : decode cX12_astrayOf 74 = .ok (.iload 7, 2) := by decide +kernel
theorem dX12_astrayOf_76 : decode cX12_astrayOf 76 = .ok (.iload 5, 2) := by decide +kernel
theorem dX12_astrayOf_78 : decode cX12_astrayOf 78 = .ok (.if_icmp .gt 6, 3) := by decide +kernel
theorem dX12_astrayOf_81 : decode cX12_astrayOf 81 = .ok (.goto 11, 3) := by decide +kernel
theorem dX12_astrayOf_84 : decode cX12_astrayOf 84 = .ok (.iload 7, 2) := by decide +kernel
theorem dX12_astrayOf_86 : decode cX12_astrayOf 86 = .ok (.istore 5, 2) := by decide +kernel
theorem dX12_astrayOf_88 : decode cX12_astrayOf 88 = .ok (.iload 6, 2) := by decide +kernel
theorem dX12_astrayOf_90 : decode cX12_astrayOf 90 = .ok (.istore 4, 2) := by decide +kernel
theorem dX12_astrayOf_92 : decode cX12_astrayOf 92 = .ok (.iinc 6 1, 3) := by decide +kernel
theorem dX12_astrayOf_95 : decode cX12_astrayOf 95 = .ok (.goto (-73), 3) := by decide +kernel
theorem dX12_astrayOf_98 : decode cX12_astrayOf 98 = .ok (.iload 4, 2) := by decide +kernel
theorem dX12_astrayOf_100 : decode cX12_astrayOf 100 = .ok (.ireturn, 1) := by decide +kernel
set_option maxHeartbeats 4000000 in
set_option maxRecDepth 100000 in
theorem c_X12_astrayOf (l : Launch) (D : va_G) (tys : List (ClassId × FieldType)) (base : Nat) (G : iv_G) (h0 : Nat) (g_h0 : Nat → Int32) (r_h0 : Nat → Nat) (a_h0 : G h0 = some (12, g_h0, r_h0)) (x_0 : Int32) (i_x_0 : iv_R 0 9 x_0) (x_1 : Int32) (i_x_1 : iv_R 0 23 x_1) : Met l yX12_astrayOf (Cond.code yX12_astrayOf cX12_astrayOf 8 (some .int) :: iv_W0) ({ frames := 5, cells := 0, slots := 0, locals := 119 }) (iv_Pc iv_sh D classes tys base G [.ref h0, .int x_0, .int x_1]) (iv_Qi iv_sh D classes tys base (fun v G' => iv_Md [67, 68] G G' ∧ iv_R 0 9 v)) 0 0 (iv_A base) := by
  refine iv_head (by decide) (Nat.le_of_ble_eq_true rfl) ?_
  intro p e s m args below meth c ls X hr hlocks hname hB hl
  have X := X
  have hx := X.1.1
  have hb := X.1.2.1
  have hM : iv_Md [67, 68] G G := iv_Md.rf
  have hl : lv_has ls 8 [(0, .ref h0), (1, .int x_0), (2, .int x_1)] := hl
  refine lv_aload_n hx hb dX12_astrayOf_0 rfl (lv_at hl 0 rfl) ?_
  refine lv_iload_n hx hb dX12_astrayOf_1 rfl (lv_at hl 1 rfl) ?_
  refine lv_iconst (v := 0) hx hb dX12_astrayOf_2 (by decide) ?_
  refine iv_cVi X k_good k_mf_X12_ofBell k_im_X12_ofBell k_sel_X12_ofBell k_ml_X12_282 ft_X12 hB a_h0 sh_12 (As := [.int x_0, .int 0]) (c_X12_ofBell l D tys base G h0 g_h0 r_h0 a_h0 x_0 i_x_0 0 (q_0.wk (by decide))) ⟨rfl, rfl⟩ ⟨Nat.le_of_ble_eq_true rfl, Nat.le_of_ble_eq_true rfl⟩ ⟨Nat.le_of_ble_eq_true rfl, Nat.le_of_ble_eq_true rfl⟩ rfl rfl hl.1 (Nat.le_of_ble_eq_true rfl) dX12_astrayOf_3 (fun x1 G9 H locs hq hB => ?_)
  obtain ⟨rfl, i_x1, cp2, cp3⟩ := hq
  have i3_x1 : iv_R 0 3 x1 := cp2 rfl
  refine lv_istore_n (lv' := [(3, .int x1), (0, .ref h0), (1, .int x_0), (2, .int x_1)]) hx hb dX12_astrayOf_6 rfl hl (by decide) rfl (fun ls hl => ?_)
  refine lv_iload_n hx hb dX12_astrayOf_7 rfl (lv_at hl 2 rfl) ?_
  refine lv_istore (lv' := [(4, .int x_0), (3, .int x1), (0, .ref h0), (1, .int x_0), (2, .int x_1)]) hx hb dX12_astrayOf_8 hl (by decide) rfl (fun ls hl => ?_)
  refine lv_aload_n hx hb dX12_astrayOf_10 rfl (lv_at hl 2 rfl) ?_
  refine lv_iload_n hx hb dX12_astrayOf_11 rfl (lv_at hl 3 rfl) ?_
  refine lv_iload_n hx hb dX12_astrayOf_12 rfl (lv_at hl 1 rfl) ?_
  refine lv_iload_n hx hb dX12_astrayOf_13 rfl (lv_at hl 4 rfl) ?_
  refine iv_cVi X k_good k_mf_X12_loudOf k_im_X12_loudOf k_sel_X12_loudOf k_ml_X12_308 ft_X12 hB a_h0 sh_12 (As := [.int x_0, .int x1, .int x_1]) (c_X12_loudOf l D tys base G h0 g_h0 r_h0 a_h0 x_0 i_x_0 x1 i3_x1 x_1 i_x_1) ⟨rfl, rfl⟩ ⟨Nat.le_of_ble_eq_true rfl, Nat.le_of_ble_eq_true rfl⟩ ⟨Nat.le_of_ble_eq_true rfl, Nat.le_of_ble_eq_true rfl⟩ rfl rfl hl.1 (Nat.le_of_ble_eq_true rfl) dX12_astrayOf_14 (fun x5 G9 H locs hq hB => ?_)
  obtain ⟨hm, i_x5⟩ := hq
  obtain ⟨G6, hG9⟩ : ∃ g, g = G9 := ⟨_, rfl⟩
  rw [← hG9] at hm hB
  have hM := hM.stp hm (by decide)
  have a_h0 := hm.at a_h0 (by decide)
  refine lv_istore (lv' := [(5, .int x5), (4, .int x_0), (3, .int x1), (0, .ref h0), (1, .int x_0), (2, .int x_1)]) hx hb dX12_astrayOf_17 hl (by decide) rfl (fun ls hl => ?_)
  refine lv_iconst (v := 0) hx hb dX12_astrayOf_19 (by decide) ?_
  refine lv_istore (lv' := [(6, .int 0), (5, .int x5), (4, .int x_0), (3, .int x1), (0, .ref h0), (1, .int x_0), (2, .int x_1)]) hx hb dX12_astrayOf_20 hl (by decide) rfl (fun ls hl => ?_)
  have L_22 : ∀ (n_22 : Nat) (G10 : iv_G) (hM : iv_Md [67, 68] G G10) (H : Heap) (locs : List Loc) (hB : iv_B iv_sh D classes tys base G10 s.heap H locs) (a_h0 : G10 h0 = some (12, g_h0, r_h0)) (x7 : Int32) (i_x7 : iv_R 0 9 x7) (x8 : Int32) (i_x8 : iv_R (-2147483648) 2147483647 x8) (x9 : Int32) (i_x9 : iv_R 0 10 x9) (hn_22 : (11 - x9.toInt).toNat < n_22) (ls : Array Slot) (hl : lv_has ls 8 [(6, .int x9), (5, .int x8), (4, .int x7), (3, .int x1), (0, .ref h0), (1, .int x_0), (2, .int x_1)]), W p l e ({ frames := 5, cells := 0, slots := 0, locals := 119 } : Room) s m args below meth c H locs 0 0 (MQ below (iv_Qi iv_sh D classes tys base (fun v G' => iv_Md [67, 68] G G' ∧ iv_R 0 9 v)) args s 0 0 (iv_A base)) (F0 m 22 ls []) := by
    intro n_22
    induction n_22 with
    | zero => intro G10 hM H locs hB a_h0 x7 i_x7 x8 i_x8 x9 i_x9 hn_22 ls hl; exact absurd hn_22 (Nat.not_lt_zero _)
    | succ n_22 ih_22 =>
      intro G10 hM H locs hB a_h0 x7 i_x7 x8 i_x8 x9 i_x9 hn_22 ls hl
      refine lv_iload hx hb dX12_astrayOf_22 (lv_at hl 0 rfl) ?_
      refine lv_aload_n hx hb dX12_astrayOf_24 rfl (lv_at hl 4 rfl) ?_
      refine iv_getr X ft_X12 hB a_h0 sh_12 0 (by decide) rfl k_fl_X12_7 dX12_astrayOf_25 (fun b11 g_b11 r_b11 e_b11 a_b11 => ?_)
      refine lv_sipush (v := 146) hx hb dX12_astrayOf_28 (by decide) ?_
      refine iv_wald_c X hB a_b11 q_146 (by decide) (lo := 0) (hi' := 10) (by decide) dX12_astrayOf_31 (fun x12 e_x12 i_x12 => ?_)
      refine lv_icmp_ge (tgt := 98) hx hb dX12_astrayOf_32 (by decide) (fun c13 => ?_) (fun c13 => ?_)
      · skip
        refine lv_iload hx hb dX12_astrayOf_98 (lv_at hl 2 rfl) ?_
        exact iv_iret X hr hlocks hB ⟨hM, i_x7⟩ dX12_astrayOf_100
      · skip
        have i13_x9 : iv_R 0 9 x9 := (i_x9.cutHi (n := 9) (iv_lt_r (iv_nle c13) i_x12 (by decide)))
        have i14_x12 : iv_R 1 10 x12 := (i_x12.cutLo (n := 1) (iv_lt_l (iv_nle c13) i_x9 (by decide)))
        refine lv_iload hx hb dX12_astrayOf_35 (lv_at hl 0 rfl) ?_
        refine lv_iload_n hx hb dX12_astrayOf_37 rfl (lv_at hl 5 rfl) ?_
        refine lv_icmp_eq (tgt := 92) hx hb dX12_astrayOf_38 (by decide) (fun c16 => ?_) (fun c16 => ?_)
        · skip
          refine iv_iinc hx hb i13_x9 (lo := 1) (hi := 10) (by decide) dX12_astrayOf_92 hl (k := 0) rfl (by decide) (fun x17 ls e_x17 i_x17 hl => ?_)
          have hl : lv_has ls 8 [(6, .int x17), (5, .int x8), (4, .int x7), (3, .int x1), (0, .ref h0), (1, .int x_0), (2, .int x_1)] := hl
          refine lv_goto (tgt := 22) hx hb dX12_astrayOf_95 (by decide) ?_
          exact ih_22 G10 hM _ _ hB a_h0 x7 i_x7 x8 i_x8 x17 (i_x17.wk (by decide)) (iv_mup (c := 1) i_x9 (by decide) (by decide) (by omega) hn_22) _ (lv_sub hl [0, 1, 2, 3, 4, 5, 6] rfl)
        · skip
          refine lv_aload_n hx hb dX12_astrayOf_41 rfl (lv_at hl 4 rfl) ?_
          refine lv_iload hx hb dX12_astrayOf_42 (lv_at hl 0 rfl) ?_
          refine lv_iload_n hx hb dX12_astrayOf_44 rfl (lv_at hl 6 rfl) ?_
          refine iv_cVi X k_good k_mf_X12_sounds k_im_X12_sounds k_sel_X12_sounds k_ml_X12_302 ft_X12 hB a_h0 sh_12 (As := [.int x9, .int x_1]) (c_X12_sounds l D tys base G10 h0 g_h0 r_h0 a_h0 x9 i13_x9 x_1 i_x_1) ⟨rfl, rfl⟩ ⟨Nat.le_of_ble_eq_true rfl, Nat.le_of_ble_eq_true rfl⟩ ⟨Nat.le_of_ble_eq_true rfl, Nat.le_of_ble_eq_true rfl⟩ rfl rfl hl.1 (Nat.le_of_ble_eq_true rfl) dX12_astrayOf_45 (fun x18 G9 H locs hq hB => ?_)
          obtain ⟨rfl, i_x18⟩ := hq
          refine lv_if_eq (tgt := 92) hx hb dX12_astrayOf_48 (by decide) (fun c19 => ?_) (fun c19 => ?_)
          · skip
            have i19_x18 : iv_R 0 0 x18 := (i_x18.cutHi (n := 0) (iv_eq_r c19 q_0).2)
            refine iv_iinc hx hb i13_x9 (lo := 1) (hi := 10) (by decide) dX12_astrayOf_92 hl (k := 0) rfl (by decide) (fun x21 ls e_x21 i_x21 hl => ?_)
            have hl : lv_has ls 8 [(6, .int x21), (5, .int x8), (4, .int x7), (3, .int x1), (0, .ref h0), (1, .int x_0), (2, .int x_1)] := hl
            refine lv_goto (tgt := 22) hx hb dX12_astrayOf_95 (by decide) ?_
            exact ih_22 G10 hM _ _ hB a_h0 x7 i_x7 x8 i_x8 x21 (i_x21.wk (by decide)) (iv_mup (c := 1) i_x9 (by decide) (by decide) (by omega) hn_22) _ (lv_sub hl [0, 1, 2, 3, 4, 5, 6] rfl)
          · skip
            have i21_x18 : iv_R 1 1 x18 := iv_ne_lo c19 i_x18 q_0 (by decide)
            refine lv_aload_n hx hb dX12_astrayOf_51 rfl (lv_at hl 4 rfl) ?_
            refine lv_iload hx hb dX12_astrayOf_52 (lv_at hl 0 rfl) ?_
            refine lv_iload_n hx hb dX12_astrayOf_54 rfl (lv_at hl 5 rfl) ?_
            refine iv_cVi X k_good k_mf_X12_isOctave k_im_X12_isOctave k_sel_X12_isOctave k_ml_X12_326 ft_X12 hB a_h0 sh_12 (As := [.int x9, .int x_0]) (c_X12_isOctave l D tys base G10 h0 g_h0 r_h0 a_h0 x9 i13_x9 x_0 i_x_0) ⟨rfl, rfl⟩ ⟨Nat.le_of_ble_eq_true rfl, Nat.le_of_ble_eq_true rfl⟩ ⟨Nat.le_of_ble_eq_true rfl, Nat.le_of_ble_eq_true rfl⟩ rfl rfl hl.1 (Nat.le_of_ble_eq_true rfl) dX12_astrayOf_55 (fun x23 G9 H locs hq hB => ?_)
            obtain ⟨rfl, i_x23⟩ := hq
            refine lv_if_ne (tgt := 64) hx hb dX12_astrayOf_58 (by decide) (fun c24 => ?_) (fun c24 => ?_)
            · skip
              have i24_x23 : iv_R 1 1 x23 := iv_ne_lo c24 i_x23 q_0 (by decide)
              refine lv_aload_n hx hb dX12_astrayOf_64 rfl (lv_at hl 4 rfl) ?_
              refine lv_iload hx hb dX12_astrayOf_65 (lv_at hl 0 rfl) ?_
              refine lv_iload_n hx hb dX12_astrayOf_67 rfl (lv_at hl 3 rfl) ?_
              refine lv_iload_n hx hb dX12_astrayOf_68 rfl (lv_at hl 6 rfl) ?_
              refine iv_cVi X k_good k_mf_X12_loudOf k_im_X12_loudOf k_sel_X12_loudOf k_ml_X12_308 ft_X12 hB a_h0 sh_12 (As := [.int x9, .int x1, .int x_1]) (c_X12_loudOf l D tys base G10 h0 g_h0 r_h0 a_h0 x9 i13_x9 x1 i3_x1 x_1 i_x_1) ⟨rfl, rfl⟩ ⟨Nat.le_of_ble_eq_true rfl, Nat.le_of_ble_eq_true rfl⟩ ⟨Nat.le_of_ble_eq_true rfl, Nat.le_of_ble_eq_true rfl⟩ rfl rfl hl.1 (Nat.le_of_ble_eq_true rfl) dX12_astrayOf_69 (fun x26 G9 H locs hq hB => ?_)
              obtain ⟨hm, i_x26⟩ := hq
              obtain ⟨G27, hG9⟩ : ∃ g, g = G9 := ⟨_, rfl⟩
              rw [← hG9] at hm hB
              have hM := hM.stp hm (by decide)
              have a_h0 := hm.at a_h0 (by decide)
              have a_b11 := hm.at a_b11 (by decide)
              refine lv_istore (lv' := [(7, .int x26), (6, .int x9), (5, .int x8), (4, .int x7), (3, .int x1), (0, .ref h0), (1, .int x_0), (2, .int x_1)]) hx hb dX12_astrayOf_72 hl (by decide) rfl (fun ls hl => ?_)
              refine lv_iload hx hb dX12_astrayOf_74 (lv_at hl 0 rfl) ?_
              refine lv_iload hx hb dX12_astrayOf_76 (lv_at hl 2 rfl) ?_
              refine lv_icmp_gt (tgt := 84) hx hb dX12_astrayOf_78 (by decide) (fun c28 => ?_) (fun c28 => ?_)
              · skip
                have i28_x8 : iv_R (-2147483648) 2147483646 x8 := (i_x8.cutHi (n := 2147483646) (iv_lt_r c28 i_x26 (by decide)))
                have i29_x26 : iv_R (-2147483647) 2147483647 x26 := (i_x26.cutLo (n := (-2147483647)) (iv_lt_l c28 i_x8 (by decide)))
                refine lv_iload hx hb dX12_astrayOf_84 (lv_at hl 0 rfl) ?_
                refine lv_istore (lv' := [(5, .int x26), (7, .int x26), (6, .int x9), (4, .int x7), (3, .int x1), (0, .ref h0), (1, .int x_0), (2, .int x_1)]) hx hb dX12_astrayOf_86 hl (by decide) rfl (fun ls hl => ?_)
                refine lv_iload hx hb dX12_astrayOf_88 (lv_at hl 2 rfl) ?_
                refine lv_istore (lv' := [(4, .int x9), (5, .int x26), (7, .int x26), (6, .int x9), (3, .int x1), (0, .ref h0), (1, .int x_0), (2, .int x_1)]) hx hb dX12_astrayOf_90 hl (by decide) rfl (fun ls hl => ?_)
                refine iv_iinc hx hb i13_x9 (lo := 1) (hi := 10) (by decide) dX12_astrayOf_92 hl (k := 3) rfl (by decide) (fun x31 ls e_x31 i_x31 hl => ?_)
                have hl : lv_has ls 8 [(6, .int x31), (4, .int x9), (5, .int x26), (7, .int x26), (3, .int x1), (0, .ref h0), (1, .int x_0), (2, .int x_1)] := hl
                refine lv_goto (tgt := 22) hx hb dX12_astrayOf_95 (by decide) ?_
                exact ih_22 G27 hM _ _ hB a_h0 x9 i13_x9 x26 (i29_x26.wk (by decide)) x31 (i_x31.wk (by decide)) (iv_mup (c := 1) i_x9 (by decide) (by decide) (by omega) hn_22) _ (lv_sub hl [0, 2, 1, 4, 5, 6, 7] rfl)
              · skip
                refine lv_goto (tgt := 92) hx hb dX12_astrayOf_81 (by decide) ?_
                refine iv_iinc hx hb i13_x9 (lo := 1) (hi := 10) (by decide) dX12_astrayOf_92 hl (k := 1) rfl (by decide) (fun x32 ls e_x32 i_x32 hl => ?_)
                have hl : lv_has ls 8 [(6, .int x32), (7, .int x26), (5, .int x8), (4, .int x7), (3, .int x1), (0, .ref h0), (1, .int x_0), (2, .int x_1)] := hl
                refine lv_goto (tgt := 22) hx hb dX12_astrayOf_95 (by decide) ?_
                exact ih_22 G27 hM _ _ hB a_h0 x7 i_x7 x8 i_x8 x32 (i_x32.wk (by decide)) (iv_mup (c := 1) i_x9 (by decide) (by decide) (by omega) hn_22) _ (lv_sub hl [0, 2, 3, 4, 5, 6, 7] rfl)
            · skip
              have i32_x23 : iv_R 0 0 x23 := (i_x23.cutHi (n := 0) (iv_eq_r c24 q_0).2)
              refine lv_goto (tgt := 92) hx hb dX12_astrayOf_61 (by decide) ?_
              refine iv_iinc hx hb i13_x9 (lo := 1) (hi := 10) (by decide) dX12_astrayOf_92 hl (k := 0) rfl (by decide) (fun x34 ls e_x34 i_x34 hl => ?_)
              have hl : lv_has ls 8 [(6, .int x34), (5, .int x8), (4, .int x7), (3, .int x1), (0, .ref h0), (1, .int x_0), (2, .int x_1)] := hl
              refine lv_goto (tgt := 22) hx hb dX12_astrayOf_95 (by decide) ?_
              exact ih_22 G10 hM _ _ hB a_h0 x7 i_x7 x8 i_x8 x34 (i_x34.wk (by decide)) (iv_mup (c := 1) i_x9 (by decide) (by decide) (by omega) hn_22) _ (lv_sub hl [0, 1, 2, 3, 4, 5, 6] rfl)
  exact L_22 _ G6 hM _ _ hB a_h0 x_0 i_x_0 x5 i_x5 0 (q_0.wk (by decide)) (Nat.lt_succ_self _) _ (lv_sub hl [0, 1, 2, 3, 4, 5, 6] rfl)
theorem dX12_isBell_0 : decode cX12_isBell 0 = .ok (.iload_n 1, 1) := by decide +kernel
theorem dX12_isBell_1 : decode cX12_isBell 1 = .ok (.iconst 0, 1) := by decide +kernel
theorem dX12_isBell_2 : decode cX12_isBell 2 = .ok (.aload_n 0, 1) := by decide +kernel
theorem dX12_isBell_3 : decode cX12_isBell 3 = .ok (.getfield 7, 3) := by decide +kernel
theorem dX12_isBell_6 : decode cX12_isBell 6 = .ok (.sipush 146, 3) := by decide +kernel
theorem dX12_isBell_9 : decode cX12_isBell 9 = .ok (.iaload, 1) := by decide +kernel
theorem dX12_isBell_10 : decode cX12_isBell 10 = .ok (.iconst 1, 1) := by decide +kernel
theorem dX12_isBell_11 : decode cX12_isBell 11 = .ok (.isub, 1) := by decide +kernel
theorem dX12_isBell_12 : decode cX12_isBell 12 = .ok (.invokestatic 56, 3) := by decide +kernel
theorem dX12_isBell_15 : decode cX12_isBell 15 = .ok (.ireturn, 1) := by decide +kernel
set_option maxHeartbeats 4000000 in
set_option maxRecDepth 100000 in
theorem c_X12_isBell (l : Launch) (D : va_G) (tys : List (ClassId × FieldType)) (base : Nat) (G : iv_G) (h0 : Nat) (g_h0 : Nat → Int32) (r_h0 : Nat → Nat) (a_h0 : G h0 = some (12, g_h0, r_h0)) (x_0 : Int32) (i_x_0 : iv_R (-2147483648) 2147483647 x_0) : Met l yX12_isBell (Cond.code yX12_isBell cX12_isBell 2 (some .boolean) :: iv_W0) ({ frames := 1, cells := 0, slots := 0, locals := 22 }) (iv_Pc iv_sh D classes tys base G [.ref h0, .int x_0]) (iv_Qi iv_sh D classes tys base (fun v G' => G = G' ∧ iv_R 0 1 v ∧ (¬ v = 0 → iv_R 0 9 x_0))) 0 0 (iv_A base) := by
  refine iv_head (by decide) (Nat.le_of_ble_eq_true rfl) ?_
  intro p e s m args below meth c ls X hr hlocks hname hB hl
  have X := X
  have hx := X.1.1
  have hb := X.1.2.1
  have hl : lv_has ls 2 [(0, .ref h0), (1, .int x_0)] := hl
  refine lv_iload_n hx hb dX12_isBell_0 rfl (lv_at hl 1 rfl) ?_
  refine lv_iconst (v := 0) hx hb dX12_isBell_1 (by decide) ?_
  refine lv_aload_n hx hb dX12_isBell_2 rfl (lv_at hl 0 rfl) ?_
  refine iv_getr X ft_X12 hB a_h0 sh_12 0 (by decide) rfl k_fl_X12_7 dX12_isBell_3 (fun b1 g_b1 r_b1 e_b1 a_b1 => ?_)
  refine lv_sipush (v := 146) hx hb dX12_isBell_6 (by decide) ?_
  refine iv_wald_c X hB a_b1 q_146 (by decide) (lo := 0) (hi' := 10) (by decide) dX12_isBell_9 (fun x2 e_x2 i_x2 => ?_)
  refine lv_iconst (v := 1) hx hb dX12_isBell_10 (by decide) ?_
  refine iv_isub hx hb i_x2 q_1 (lo := (-1)) (hi := 9) (by decide) dX12_isBell_11 (fun x3 e_x3 i_x3 => ?_)
  refine iv_cSi X k_good k_mf_X12_isIn k_st_X12_isIn k_ml_X12_56 hB (As := [.int x_0, .int 0, .int x3]) (c_X12_isIn l D tys base G x_0 i_x_0 0 (q_0.wk (by decide)) x3 (i_x3.wk (by decide))) ⟨rfl, rfl⟩ ⟨Nat.le_of_ble_eq_true rfl, Nat.le_of_ble_eq_true rfl⟩ ⟨Nat.le_of_ble_eq_true rfl, Nat.le_of_ble_eq_true rfl⟩ rfl rfl hl.1 (Nat.le_of_ble_eq_true rfl) dX12_isBell_12 (fun x4 G9 H locs hq hB => ?_)
  obtain ⟨rfl, i_x4, hp5⟩ := hq
  have k6 : ¬ x4 = 0 → iv_R 0 9 x_0 := fun h => ⟨iv_max i_x_0.1 (Int.le_trans q_0.1 (hp5.1 h).1) (by decide), iv_min i_x_0.2 (Int.le_trans (hp5.1 h).2 i_x3.2) (by decide)⟩
  exact iv_zret X hr hlocks hB i_x4 ⟨rfl, i_x4, fun h => (k6 h).wk (by decide)⟩ dX12_isBell_15
theorem dX12_isHour_0 : decode cX12_isHour 0 = .ok (.iload_n 0, 1) := by decide +kernel
theorem dX12_isHour_1 : decode cX12_isHour 1 = .ok (.iconst 0, 1) := by decide +kernel
theorem dX12_isHour_2 : decode cX12_isHour 2 = .ok (.bipush 23, 2) := by decide +kernel
theorem dX12_isHour_4 : decode cX12_isHour 4 = .ok (.invokestatic 56, 3) := by decide +kernel
theorem dX12_isHour_7 : decode cX12_isHour 7 = .ok (.ireturn, 1) := by decide +kernel
set_option maxHeartbeats 4000000 in
set_option maxRecDepth 100000 in
theorem c_X12_isHour (l : Launch) (D : va_G) (tys : List (ClassId × FieldType)) (base : Nat) (G : iv_G) (x_0 : Int32) (i_x_0 : iv_R (-2147483648) 2147483647 x_0) : Met l yX12_isHour (Cond.code yX12_isHour cX12_isHour 1 (some .boolean) :: iv_W0) ({ frames := 1, cells := 0, slots := 0, locals := 22 }) (iv_Pc iv_sh D classes tys base G [.int x_0]) (iv_Qi iv_sh D classes tys base (fun v G' => G = G' ∧ iv_R 0 1 v ∧ (¬ v = 0 → iv_R 0 23 x_0))) 0 0 (iv_A base) := by
  refine iv_head (by decide) (Nat.le_of_ble_eq_true rfl) ?_
  intro p e s m args below meth c ls X hr hlocks hname hB hl
  have X := X
  have hx := X.1.1
  have hb := X.1.2.1
  have hl : lv_has ls 1 [(0, .int x_0)] := hl
  refine lv_iload_n hx hb dX12_isHour_0 rfl (lv_at hl 0 rfl) ?_
  refine lv_iconst (v := 0) hx hb dX12_isHour_1 (by decide) ?_
  refine lv_bipush (v := 23) hx hb dX12_isHour_2 (by decide) ?_
  refine iv_cSi X k_good k_mf_X12_isIn k_st_X12_isIn k_ml_X12_56 hB (As := [.int x_0, .int 0, .int 23]) (c_X12_isIn l D tys base G x_0 i_x_0 0 (q_0.wk (by decide)) 23 (q_23.wk (by decide))) ⟨rfl, rfl⟩ ⟨Nat.le_of_ble_eq_true rfl, Nat.le_of_ble_eq_true rfl⟩ ⟨Nat.le_of_ble_eq_true rfl, Nat.le_of_ble_eq_true rfl⟩ rfl rfl hl.1 (Nat.le_of_ble_eq_true rfl) dX12_isHour_4 (fun x1 G9 H locs hq hB => ?_)
  obtain ⟨rfl, i_x1, hp2⟩ := hq
  have k3 : ¬ x1 = 0 → iv_R 0 23 x_0 := fun h => ⟨iv_max i_x_0.1 (Int.le_trans q_0.1 (hp2.1 h).1) (by decide), iv_min i_x_0.2 (Int.le_trans (hp2.1 h).2 q_23.2) (by decide)⟩
  exact iv_zret X hr hlocks hB i_x1 ⟨rfl, i_x1, fun h => (k3 h).wk (by decide)⟩ dX12_isHour_7
theorem dX12_astray_0 : decode cX12_astray 0 = .ok (.aload_n 0, 1) := by decide +kernel
theorem dX12_astray_1 : decode cX12_astray 1 = .ok (.iload_n 1, 1) := by decide +kernel
theorem dX12_astray_2 : decode cX12_astray 2 = .ok (.invokevirtual 76, 3) := by decide +kernel
theorem dX12_astray_5 : decode cX12_astray 5 = .ok (.ifCond .eq 28, 3) := by decide +kernel
theorem dX12_astray_8 : decode cX12_astray 8 = .ok (.iload_n 2, 1) := by decide +kernel
theorem dX12_astray_9 : decode cX12_astray 9 = .ok (.invokestatic 371, 3) := by decide +kernel
theorem dX12_astray_12 : decode cX12_astray 12 = .ok (.ifCond .eq 21, 3) := by decide +kernel
theorem dX12_astray_15 : decode cX12_astray 15 = .ok (.aload_n 0, 1) := by decide +kernel
theorem dX12_astray_16 : decode cX12_astray 16 = .ok (.iload_n 1, 1) := by decide +kernel
theorem dX12_astray_17 : decode cX12_astray 17 = .ok (.iload_n 2, 1) := by decide +kernel
theorem dX12_astray_18 : decode cX12_astray 18 = .ok (.invokevirtual 302, 3) := by decide +kernel
theorem dX12_astray_21 : decode cX12_astray 21 = .ok (.ifCond .eq 12, 3) := by decide +kernel
theorem dX12_astray_24 : decode cX12_astray 24 = .ok (.aload_n 0, 1) := by decide +kernel
theorem dX12_astray_25 : decode cX12_astray 25 = .ok (.iload_n 1, 1) := by decide +kernel
theorem dX12_astray_26 : decode cX12_astray 26 = .ok (.iload_n 2, 1) := by decide +kernel
theorem dX12_astray_27 : decode cX12_astray 27 = .ok (.invokevirtual 359, 3) := by decide +kernel
theorem dX12_astray_30 : decode cX12_astray 30 = .ok (.goto 4, 3) := by decide +kernel
theorem dX12_astray_33 : decode cX12_astray 33 = .ok (.iconst (-1), 1) := by decide +kernel
theorem dX12_astray_34 : decode cX12_astray 34 = .ok (.ireturn, 1) := by decide +kernel
set_option maxHeartbeats 4000000 in
set_option maxRecDepth 100000 in
theorem c_X12_astray (l : Launch) (D : va_G) (tys : List (ClassId × FieldType)) (base : Nat) (G : iv_G) (h0 : Nat) (g_h0 : Nat → Int32) (r_h0 : Nat → Nat) (a_h0 : G h0 = some (12, g_h0, r_h0)) (x_0 : Int32) (i_x_0 : iv_R (-2147483648) 2147483647 x_0) (x_1 : Int32) (i_x_1 : iv_R (-2147483648) 2147483647 x_1) : Met l yX12_astray (Cond.code yX12_astray cX12_astray 3 (some .int) :: iv_W0) ({ frames := 6, cells := 0, slots := 0, locals := 146 }) (iv_Pc iv_sh D classes tys base G [.ref h0, .int x_0, .int x_1]) (iv_Qi iv_sh D classes tys base (fun v G' => iv_Md [67, 68] G G' ∧ iv_R (-1) 9 v)) 0 0 (iv_A base) := by
  refine iv_head (by decide) (Nat.le_of_ble_eq_true rfl) ?_
  intro p e s m args below meth c ls X hr hlocks hname hB hl
  have X := X
  have hx := X.1.1
  have hb := X.1.2.1
  have hM : iv_Md [67, 68] G G := iv_Md.rf
  have hl : lv_has ls 3 [(0, .ref h0), (1, .int x_0), (2, .int x_1)] := hl
  refine lv_aload_n hx hb dX12_astray_0 rfl (lv_at hl 0 rfl) ?_
  refine lv_iload_n hx hb dX12_astray_1 rfl (lv_at hl 1 rfl) ?_
  refine iv_cVi X k_good k_mf_X12_isBell k_im_X12_isBell k_sel_X12_isBell k_ml_X12_76 ft_X12 hB a_h0 sh_12 (As := [.int x_0]) (c_X12_isBell l D tys base G h0 g_h0 r_h0 a_h0 x_0 i_x_0) ⟨rfl, rfl⟩ ⟨Nat.le_of_ble_eq_true rfl, Nat.le_of_ble_eq_true rfl⟩ ⟨Nat.le_of_ble_eq_true rfl, Nat.le_of_ble_eq_true rfl⟩ rfl rfl hl.1 (Nat.le_of_ble_eq_true rfl) dX12_astray_2 (fun x1 G9 H locs hq hB => ?_)
  obtain ⟨rfl, i_x1, hp2⟩ := hq
  refine lv_if_eq (tgt := 33) hx hb dX12_astray_5 (by decide) (fun c3 => ?_) (fun c3 => ?_)
  · skip
    have i3_x1 : iv_R 0 0 x1 := (i_x1.cutHi (n := 0) (iv_eq_r c3 q_0).2)
    refine lv_iconst (v := (-1)) hx hb dX12_astray_33 (by decide) ?_
    exact iv_iret X hr hlocks hB ⟨hM, (q_n1.wk (by decide))⟩ dX12_astray_34
  · skip
    have i4_x1 : iv_R 1 1 x1 := iv_ne_lo c3 i_x1 q_0 (by decide)
    have i5_x_0 : iv_R 0 9 x_0 := ((i_x_0.cutLo (n := 0) (hp2 c3).1).cutHi (n := 9) (hp2 c3).2)
    refine lv_iload_n hx hb dX12_astray_8 rfl (lv_at hl 2 rfl) ?_
    refine iv_cSi X k_good k_mf_X12_isHour k_st_X12_isHour k_ml_X12_371 hB (As := [.int x_1]) (c_X12_isHour l D tys base G x_1 i_x_1) ⟨rfl, rfl⟩ ⟨Nat.le_of_ble_eq_true rfl, Nat.le_of_ble_eq_true rfl⟩ ⟨Nat.le_of_ble_eq_true rfl, Nat.le_of_ble_eq_true rfl⟩ rfl rfl hl.1 (Nat.le_of_ble_eq_true rfl) dX12_astray_9 (fun x7 G9 H locs hq hB => ?_)
    obtain ⟨rfl, i_x7, hp8⟩ := hq
    refine lv_if_eq (tgt := 33) hx hb dX12_astray_12 (by decide) (fun c9 => ?_) (fun c9 => ?_)
    · skip
      have i9_x7 : iv_R 0 0 x7 := (i_x7.cutHi (n := 0) (iv_eq_r c9 q_0).2)
      refine lv_iconst (v := (-1)) hx hb dX12_astray_33 (by decide) ?_
      exact iv_iret X hr hlocks hB ⟨hM, (q_n1.wk (by decide))⟩ dX12_astray_34
    · skip
      have i10_x7 : iv_R 1 1 x7 := iv_ne_lo c9 i_x7 q_0 (by decide)
      have i11_x_1 : iv_R 0 23 x_1 := ((i_x_1.cutLo (n := 0) (hp8 c9).1).cutHi (n := 23) (hp8 c9).2)
      refine lv_aload_n hx hb dX12_astray_15 rfl (lv_at hl 0 rfl) ?_
      refine lv_iload_n hx hb dX12_astray_16 rfl (lv_at hl 1 rfl) ?_
      refine lv_iload_n hx hb dX12_astray_17 rfl (lv_at hl 2 rfl) ?_
      refine iv_cVi X k_good k_mf_X12_sounds k_im_X12_sounds k_sel_X12_sounds k_ml_X12_302 ft_X12 hB a_h0 sh_12 (As := [.int x_0, .int x_1]) (c_X12_sounds l D tys base G h0 g_h0 r_h0 a_h0 x_0 i5_x_0 x_1 i11_x_1) ⟨rfl, rfl⟩ ⟨Nat.le_of_ble_eq_true rfl, Nat.le_of_ble_eq_true rfl⟩ ⟨Nat.le_of_ble_eq_true rfl, Nat.le_of_ble_eq_true rfl⟩ rfl rfl hl.1 (Nat.le_of_ble_eq_true rfl) dX12_astray_18 (fun x13 G9 H locs hq hB => ?_)
      obtain ⟨rfl, i_x13⟩ := hq
      refine lv_if_eq (tgt := 33) hx hb dX12_astray_21 (by decide) (fun c14 => ?_) (fun c14 => ?_)
      · skip
        have i14_x13 : iv_R 0 0 x13 := (i_x13.cutHi (n := 0) (iv_eq_r c14 q_0).2)
        refine lv_iconst (v := (-1)) hx hb dX12_astray_33 (by decide) ?_
        exact iv_iret X hr hlocks hB ⟨hM, (q_n1.wk (by decide))⟩ dX12_astray_34
      · skip
        have i15_x13 : iv_R 1 1 x13 := iv_ne_lo c14 i_x13 q_0 (by decide)
        refine lv_aload_n hx hb dX12_astray_24 rfl (lv_at hl 0 rfl) ?_
        refine lv_iload_n hx hb dX12_astray_25 rfl (lv_at hl 1 rfl) ?_
        refine lv_iload_n hx hb dX12_astray_26 rfl (lv_at hl 2 rfl) ?_
        refine iv_cVi X k_good k_mf_X12_astrayOf k_im_X12_astrayOf k_sel_X12_astrayOf k_ml_X12_359 ft_X12 hB a_h0 sh_12 (As := [.int x_0, .int x_1]) (c_X12_astrayOf l D tys base G h0 g_h0 r_h0 a_h0 x_0 i5_x_0 x_1 i11_x_1) ⟨rfl, rfl⟩ ⟨Nat.le_of_ble_eq_true rfl, Nat.le_of_ble_eq_true rfl⟩ ⟨Nat.le_of_ble_eq_true rfl, Nat.le_of_ble_eq_true rfl⟩ rfl rfl hl.1 (Nat.le_of_ble_eq_true rfl) dX12_astray_27 (fun x17 G9 H locs hq hB => ?_)
        obtain ⟨hm, i_x17⟩ := hq
        obtain ⟨G18, hG9⟩ : ∃ g, g = G9 := ⟨_, rfl⟩
        rw [← hG9] at hm hB
        have hM := hM.stp hm (by decide)
        have a_h0 := hm.at a_h0 (by decide)
        refine lv_goto (tgt := 34) hx hb dX12_astray_30 (by decide) ?_
        exact iv_iret X hr hlocks hB ⟨hM, (i_x17.wk (by decide))⟩ dX12_astray_34
theorem dX12_bells_0 : decode cX12_bells 0 = .ok (.aload_n 0, 1) := by decide +kernel
theorem dX12_bells_1 : decode cX12_bells 1 = .ok (.getfield 7, 3) := by decide +kernel
theorem dX12_bells_4 : decode cX12_bells 4 = .ok (.bipush 66, 2) := by decide +kernel
theorem dX12_bells_6 : decode cX12_bells 6 = .ok (.bipush 8, 2) := by decide +kernel
theorem dX12_bells_8 : decode cX12_bells 8 = .ok (.iload_n 1, 1) := by decide +kernel
theorem dX12_bells_9 : decode cX12_bells 9 = .ok (.imul, 1) := by decide +kernel
theorem dX12_bells_10 : decode cX12_bells 10 = .ok (.iadd, 1) := by decide +kernel
theorem dX12_bells_11 : decode cX12_bells 11 = .ok (.iload_n 2, 1) := by decide +kernel
theorem dX12_bells_12 : decode cX12_bells 12 = .ok (.iadd, 1) := by decide +kernel
theorem dX12_bells_13 : decode cX12_bells 13 = .ok (.iload_n 3, 1) := by decide +kernel
theorem dX12_bells_14 : decode cX12_bells 14 = .ok (.iastore, 1) := by decide +kernel
theorem dX12_bells_15 : decode cX12_bells 15 = .ok (.return_, 1) := by decide +kernel
set_option maxHeartbeats 4000000 in
set_option maxRecDepth 100000 in
theorem c_X12_bells (l : Launch) (D : va_G) (tys : List (ClassId × FieldType)) (base : Nat) (G : iv_G) (h0 : Nat) (g_h0 : Nat → Int32) (r_h0 : Nat → Nat) (a_h0 : G h0 = some (12, g_h0, r_h0)) (x_0 : Int32) (i_x_0 : iv_R 0 9 x_0) (x_1 : Int32) (i_x_1 : iv_R 0 7 x_1) (x_2 : Int32) (i_x_2 : iv_R (-2147483648) 2147483647 x_2) (p0_x_2 : x_1 = 0 → iv_R 0 3 x_2) (p1_x_2 : x_1 = 1 → iv_R 0 47 x_2) : Met l yX12_bells (Cond.code yX12_bells cX12_bells 4 none :: iv_W0) ({ frames := 0, cells := 0, slots := 0, locals := 0 }) (iv_Pc iv_sh D classes tys base G [.ref h0, .int x_0, .int x_1, .int x_2]) (iv_Qv iv_sh D classes tys base (fun G' => iv_Md [60] G G')) 0 0 (iv_A base) := by
  refine iv_head (by decide) (Nat.le_of_ble_eq_true rfl) ?_
  intro p e s m args below meth c ls X hr hlocks hname hB hl
  have X := X
  have hx := X.1.1
  have hb := X.1.2.1
  have hM : iv_Md [60] G G := iv_Md.rf
  have hl : lv_has ls 4 [(0, .ref h0), (1, .int x_0), (2, .int x_1), (3, .int x_2)] := hl
  refine lv_aload_n hx hb dX12_bells_0 rfl (lv_at hl 0 rfl) ?_
  refine iv_getr X ft_X12 hB a_h0 sh_12 0 (by decide) rfl k_fl_X12_7 dX12_bells_1 (fun b1 g_b1 r_b1 e_b1 a_b1 => ?_)
  refine lv_bipush (v := 66) hx hb dX12_bells_4 (by decide) ?_
  refine lv_bipush (v := 8) hx hb dX12_bells_6 (by decide) ?_
  refine lv_iload_n hx hb dX12_bells_8 rfl (lv_at hl 1 rfl) ?_
  refine iv_imul hx hb q_8 i_x_0 (lo := 0) (hi := 72) (by decide) dX12_bells_9 (fun x2 e_x2 i_x2 => ?_)
  refine iv_iadd hx hb q_66 i_x2 (lo := 66) (hi := 138) (by decide) dX12_bells_10 (fun x3 e_x3 i_x3 => ?_)
  refine lv_iload_n hx hb dX12_bells_11 rfl (lv_at hl 2 rfl) ?_
  refine iv_iadd hx hb i_x3 i_x_1 (lo := 66) (hi := 145) (by decide) dX12_bells_12 (fun x4 e_x4 i_x4 => ?_)
  refine lv_iload_n hx hb dX12_bells_13 rfl (lv_at hl 3 rfl) ?_
  refine iv_astP X hB a_b1 sh_60 (iv_in i_x4 (by decide)) (fun h => (by have w1 := i_x_0.1; have w2 := i_x_0.2; have w3 := i_x_1.1; have w4 := i_x_1.2; have w5 : x2.toInt = 8 * x_0.toInt := e_x2; have w6 : x3.toInt = 66 + x2.toInt := e_x3; have w7 : x4.toNatClampNeg = x4.toInt.toNat := rfl; have w8 := iv_bellb (idx := x4.toNatClampNeg) (b := x_0.toInt) (f := x_1.toInt) (by omega) ⟨w1, w2⟩ ⟨w3, w4⟩; refine h.up (by omega) (by omega) (by omega) ?_; rw [w8]; split; exact p0_x_2 (Int32.toInt_inj.mp (by rw [Int32.toInt_zero]; assumption)); split; exact p1_x_2 (Int32.toInt_inj.mp (by assumption)); exact iv_R.all _)) dX12_bells_14 (fun H locs hB => ?_)
  have hm := iv_Md.put (x := x_2) a_b1 (j := x4.toNatClampNeg) (iv_n146 i_x4 (by decide)) (fun h => absurd h (by decide))
  have h9 := iv_up_eq (G := G) (a := b1) (k := (60, upd g_b1 x4.toNatClampNeg x_2, r_b1))
  generalize iv_up G b1 _ = G5 at hB hm h9
  have hM := hM.stp hm (by decide)
  generalize hgn_g6 : upd g_b1 _ _ = g6 at h9
  have a_h0 := hm.at a_h0 (by decide)
  have a_b1 := h9
  exact iv_vret X hr hlocks hB hM dX12_bells_15
theorem dX12_book_0 : decode cX12_book 0 = .ok (.iload_n 1, 1) := by decide +kernel
theorem dX12_book_1 : decode cX12_book 1 = .ok (.iconst 0, 1) := by decide +kernel
theorem dX12_book_2 : decode cX12_book 2 = .ok (.aload_n 0, 1) := by decide +kernel
theorem dX12_book_3 : decode cX12_book 3 = .ok (.getfield 7, 3) := by decide +kernel
theorem dX12_book_6 : decode cX12_book 6 = .ok (.iconst 3, 1) := by decide +kernel
theorem dX12_book_7 : decode cX12_book 7 = .ok (.iaload, 1) := by decide +kernel
theorem dX12_book_8 : decode cX12_book 8 = .ok (.iconst 1, 1) := by decide +kernel
theorem dX12_book_9 : decode cX12_book 9 = .ok (.isub, 1) := by decide +kernel
theorem dX12_book_10 : decode cX12_book 10 = .ok (.invokestatic 56, 3) := by decide +kernel
theorem dX12_book_13 : decode cX12_book 13 = .ok (.ifCond .eq 29, 3) := by decide +kernel
theorem dX12_book_16 : decode cX12_book 16 = .ok (.iload_n 2, 1) := by decide +kernel
theorem dX12_book_17 : decode cX12_book 17 = .ok (.iconst 0, 1) := by decide +kernel
theorem dX12_book_18 : decode cX12_book 18 = .ok (.iconst 3, 1) := by decide +kernel
theorem dX12_book_19 : decode cX12_book 19 = .ok (.invokestatic 56, 3) := by decide +kernel
theorem dX12_book_22 : decode cX12_book 22 = .ok (.ifCond .eq 20, 3) := by decide +kernel
theorem dX12_book_25 : decode cX12_book 25 = .ok (.aload_n 0, 1) := by decide +kernel
theorem dX12_book_26 : decode cX12_book 26 = .ok (.getfield 7, 3) := by decide +kernel
theorem dX12_book_29 : decode cX12_book 29 = .ok (.sipush 266, 3) := by decide +kernel
theorem dX12_book_32 : decode cX12_book 32 = .ok (.iconst 4, 1) := by decide +kernel
theorem dX12_book_33 : decode cX12_book 33 = .ok (.iload_n 1, 1) := by decide +kernel
theorem dX12_book_34 : decode cX12_book 34 = .ok (.imul, 1) := by decide +kernel
theorem dX12_book_35 : decode cX12_book 35 = .ok (.iadd, 1) := by decide +kernel
theorem dX12_book_36 : decode cX12_book 36 = .ok (.iload_n 2, 1) := by decide +kernel
theorem dX12_book_37 : decode cX12_book 37 = .ok (.iadd, 1) := by decide +kernel
theorem dX12_book_38 : decode cX12_book 38 = .ok (.iaload, 1) := by decide +kernel
theorem dX12_book_39 : decode cX12_book 39 = .ok (.goto 5, 3) := by decide +kernel
theorem dX12_book_42 : decode cX12_book 42 = .ok (.bipush (-2), 2) := by decide +kernel
theorem dX12_book_44 : decode cX12_book 44 = .ok (.ireturn, 1) := by decide +kernel
set_option maxHeartbeats 4000000 in
set_option maxRecDepth 100000 in
theorem c_X12_book (l : Launch) (D : va_G) (tys : List (ClassId × FieldType)) (base : Nat) (G : iv_G) (h0 : Nat) (g_h0 : Nat → Int32) (r_h0 : Nat → Nat) (a_h0 : G h0 = some (12, g_h0, r_h0)) (x_0 : Int32) (i_x_0 : iv_R (-2147483648) 2147483647 x_0) (x_1 : Int32) (i_x_1 : iv_R (-2147483648) 2147483647 x_1) : Met l yX12_book (Cond.code yX12_book cX12_book 3 (some .int) :: iv_W0) ({ frames := 1, cells := 0, slots := 0, locals := 22 }) (iv_Pc iv_sh D classes tys base G [.ref h0, .int x_0, .int x_1]) (iv_Qi iv_sh D classes tys base (fun v G' => G = G' ∧ iv_R (-2147483648) 2147483647 v)) 0 0 (iv_A base) := by
  refine iv_head (by decide) (Nat.le_of_ble_eq_true rfl) ?_
  intro p e s m args below meth c ls X hr hlocks hname hB hl
  have X := X
  have hx := X.1.1
  have hb := X.1.2.1
  have hl : lv_has ls 3 [(0, .ref h0), (1, .int x_0), (2, .int x_1)] := hl
  refine lv_iload_n hx hb dX12_book_0 rfl (lv_at hl 1 rfl) ?_
  refine lv_iconst (v := 0) hx hb dX12_book_1 (by decide) ?_
  refine lv_aload_n hx hb dX12_book_2 rfl (lv_at hl 0 rfl) ?_
  refine iv_getr X ft_X12 hB a_h0 sh_12 0 (by decide) rfl k_fl_X12_7 dX12_book_3 (fun b1 g_b1 r_b1 e_b1 a_b1 => ?_)
  refine lv_iconst (v := 3) hx hb dX12_book_6 (by decide) ?_
  refine iv_wald_c X hB a_b1 q_3 (by decide) (lo := 0) (hi' := 120) (by decide) dX12_book_7 (fun x2 e_x2 i_x2 => ?_)
  refine lv_iconst (v := 1) hx hb dX12_book_8 (by decide) ?_
  refine iv_isub hx hb i_x2 q_1 (lo := (-1)) (hi := 119) (by decide) dX12_book_9 (fun x3 e_x3 i_x3 => ?_)
  refine iv_cSi X k_good k_mf_X12_isIn k_st_X12_isIn k_ml_X12_56 hB (As := [.int x_0, .int 0, .int x3]) (c_X12_isIn l D tys base G x_0 i_x_0 0 (q_0.wk (by decide)) x3 (i_x3.wk (by decide))) ⟨rfl, rfl⟩ ⟨Nat.le_of_ble_eq_true rfl, Nat.le_of_ble_eq_true rfl⟩ ⟨Nat.le_of_ble_eq_true rfl, Nat.le_of_ble_eq_true rfl⟩ rfl rfl hl.1 (Nat.le_of_ble_eq_true rfl) dX12_book_10 (fun x4 G9 H locs hq hB => ?_)
  obtain ⟨rfl, i_x4, hp5⟩ := hq
  have k6 : ¬ x4 = 0 → iv_R 0 119 x_0 := fun h => ⟨iv_max i_x_0.1 (Int.le_trans q_0.1 (hp5.1 h).1) (by decide), iv_min i_x_0.2 (Int.le_trans (hp5.1 h).2 i_x3.2) (by decide)⟩
  refine lv_if_eq (tgt := 42) hx hb dX12_book_13 (by decide) (fun c7 => ?_) (fun c7 => ?_)
  · skip
    have i7_x4 : iv_R 0 0 x4 := (i_x4.cutHi (n := 0) (iv_eq_r c7 q_0).2)
    refine lv_bipush (v := (-2)) hx hb dX12_book_42 (by decide) ?_
    exact iv_iret X hr hlocks hB ⟨rfl, (q_n2.wk (by decide))⟩ dX12_book_44
  · skip
    have i8_x4 : iv_R 1 1 x4 := iv_ne_lo c7 i_x4 q_0 (by decide)
    have i9_x_0 : iv_R 0 119 x_0 := ((i_x_0.cutLo (n := 0) (k6 c7).1).cutHi (n := 119) (k6 c7).2)
    refine lv_iload_n hx hb dX12_book_16 rfl (lv_at hl 2 rfl) ?_
    refine lv_iconst (v := 0) hx hb dX12_book_17 (by decide) ?_
    refine lv_iconst (v := 3) hx hb dX12_book_18 (by decide) ?_
    refine iv_cSi X k_good k_mf_X12_isIn k_st_X12_isIn k_ml_X12_56 hB (As := [.int x_1, .int 0, .int 3]) (c_X12_isIn l D tys base G x_1 i_x_1 0 (q_0.wk (by decide)) 3 (q_3.wk (by decide))) ⟨rfl, rfl⟩ ⟨Nat.le_of_ble_eq_true rfl, Nat.le_of_ble_eq_true rfl⟩ ⟨Nat.le_of_ble_eq_true rfl, Nat.le_of_ble_eq_true rfl⟩ rfl rfl hl.1 (Nat.le_of_ble_eq_true rfl) dX12_book_19 (fun x11 G9 H locs hq hB => ?_)
    obtain ⟨rfl, i_x11, hp12⟩ := hq
    have k13 : ¬ x11 = 0 → iv_R 0 3 x_1 := fun h => ⟨iv_max i_x_1.1 (Int.le_trans q_0.1 (hp12.1 h).1) (by decide), iv_min i_x_1.2 (Int.le_trans (hp12.1 h).2 q_3.2) (by decide)⟩
    refine lv_if_eq (tgt := 42) hx hb dX12_book_22 (by decide) (fun c14 => ?_) (fun c14 => ?_)
    · skip
      have i14_x11 : iv_R 0 0 x11 := (i_x11.cutHi (n := 0) (iv_eq_r c14 q_0).2)
      refine lv_bipush (v := (-2)) hx hb dX12_book_42 (by decide) ?_
      exact iv_iret X hr hlocks hB ⟨rfl, (q_n2.wk (by decide))⟩ dX12_book_44
    · skip
      have i15_x11 : iv_R 1 1 x11 := iv_ne_lo c14 i_x11 q_0 (by decide)
      have i16_x_1 : iv_R 0 3 x_1 := ((i_x_1.cutLo (n := 0) (k13 c14).1).cutHi (n := 3) (k13 c14).2)
      refine lv_aload_n hx hb dX12_book_25 rfl (lv_at hl 0 rfl) ?_
      refine iv_getr0 X ft_X12 hB a_h0 sh_12 0 (by decide) rfl k_fl_X12_7 dX12_book_26 e_b1 ?_
      refine lv_sipush (v := 266) hx hb dX12_book_29 (by decide) ?_
      refine lv_iconst (v := 4) hx hb dX12_book_32 (by decide) ?_
      refine lv_iload_n hx hb dX12_book_33 rfl (lv_at hl 1 rfl) ?_
      refine iv_imul hx hb q_4 i9_x_0 (lo := 0) (hi := 476) (by decide) dX12_book_34 (fun x18 e_x18 i_x18 => ?_)
      refine iv_iadd hx hb q_266 i_x18 (lo := 266) (hi := 742) (by decide) dX12_book_35 (fun x19 e_x19 i_x19 => ?_)
      refine lv_iload_n hx hb dX12_book_36 rfl (lv_at hl 2 rfl) ?_
      refine iv_iadd hx hb i_x19 i16_x_1 (lo := 266) (hi := 745) (by decide) dX12_book_37 (fun x20 e_x20 i_x20 => ?_)
      refine iv_wald_f X hB a_b1 i_x20 (by decide) dX12_book_38 (fun x21 e_x21 i_x21 => ?_)
      refine lv_goto (tgt := 44) hx hb dX12_book_39 (by decide) ?_
      exact iv_iret X hr hlocks hB ⟨rfl, i_x21⟩ dX12_book_44
theorem dX12_canBeRaised_0 : decode cX12_canBeRaised 0 = .ok (.iconst 0, 1) := by decide +kernel
theorem dX12_canBeRaised_1 : decode cX12_canBeRaised 1 = .ok (.istore_n 3, 1) := by decide +kernel
theorem dX12_canBeRaised_2 : decode cX12_canBeRaised 2 = .ok (.iload_n 3, 1) := by decide +kernel
theorem dX12_canBeRaised_3 : decode cX12_canBeRaised 3 = .ok (.aload_n 0, 1) := by decide +kernel
theorem dX12_canBeRaised_4 : decode cX12_canBeRaised 4 = .ok (.getfield 7, 3) := by decide +kernel
theorem dX12_canBeRaised_7 : decode cX12_canBeRaised 7 = .ok (.sipush 146, 3) := by decide +kernel
theorem dX12_canBeRaised_10 : decode cX12_canBeRaised 10 = .ok (.iaload, 1) := by decide +kernel
theorem dX12_canBeRaised_11 : decode cX12_canBeRaised 11 = .ok (.if_icmp .ge 107, 3) := by decide +kernel
theorem dX12_canBeRaised_14 : decode cX12_canBeRaised 14 = .ok (.iload_n 1, 1) := by decide +kernel
theorem dX12_canBeRaised_15 : decode cX12_canBeRaised 15 = .ok (.iload_n 3, 1) := by decide +kernel
theorem dX12_canBeRaised_16 : decode cX12_canBeRaised 16 = .ok (.ishr, 1) := by decide +kernel
theorem dX12_canBeRaised_17 : decode cX12_canBeRaised 17 = .ok (.iconst 1, 1) := by decide +kernel
theorem dX12_canBeRaised_18 : decode cX12_canBeRaised 18 = .ok (.iand, 1) := by decide +kernel
theorem dX12_canBeRaised_19 : decode cX12_canBeRaised 19 = .ok (.ifCond .ne 6, 3) := by decide +kernel
theorem dX12_canBeRaised_22 : decode cX12_canBeRaised 22 = .ok (.goto 90, 3) := by decide +kernel
theorem dX12_canBeRaised_25 : decode cX12_canBeRaised 25 = .ok (.aload_n 0, 1) := by decide +kernel
theorem dX12_canBeRaised_26 : decode cX12_canBeRaised 26 = .ok (.iload_n 3, 1) := by decide +kernel
theorem dX12_canBeRaised_27 : decode cX12_canBeRaised 27 = .ok (.iconst 1, 1) := by decide +kernel
theorem dX12_canBeRaised_28 : decode cX12_canBeRaised 28 = .ok (.invokevirtual 282, 3) := by decide +kernel
theorem dX12_canBeRaised_31 : decode cX12_canBeRaised 31 = .ok (.iload_n 2, 1) := by decide +kernel
theorem dX12_canBeRaised_32 : decode cX12_canBeRaised 32 = .ok (.iadd, 1) := by decide +kernel
theorem dX12_canBeRaised_33 : decode cX12_canBeRaised 33 = .ok (.istore 4, 2) := by decide +kernel
theorem dX12_canBeRaised_35 : decode cX12_canBeRaised 35 = .ok (.iload 4, 2) := by decide +kernel
theorem dX12_canBeRaised_37 : decode cX12_canBeRaised 37 = .ok (.bipush 47, 2) := by decide +kernel
theorem dX12_canBeRaised_39 : decode cX12_canBeRaised 39 = .ok (.if_icmp .le 5, 3) := by decide +kernel
theorem dX12_canBeRaised_42 : decode cX12_canBeRaised 42 = .ok (.iconst 0, 1) := by decide +kernel
theorem dX12_canBeRaised_43 : decode cX12_canBeRaised 43 = .ok (.ireturn, 1) := by decide +kernel
theorem dX12_canBeRaised_44 : decode cX12_canBeRaised 44 = .ok (.iconst 0, 1) := by decide +kernel
theorem dX12_canBeRaised_45 : decode cX12_canBeRaised 45 = .ok (.istore 5, 2) := by decide +kernel
theorem dX12_canBeRaised_47 : decode cX12_canBeRaised 47 = .ok (.iload 5, 2) := by decide +kernel
theorem dX12_canBeRaised_49 : decode cX12_canBeRaised 49 = .ok (.aload_n 0, 1) := by decide +kernel
theorem dX12_canBeRaised_50 : decode cX12_canBeRaised 50 = .ok (.getfield 7, 3) := by decide +kernel
theorem dX12_canBeRaised_53 : decode cX12_canBeRaised 53 = .ok (.sipush 146, 3) := by decide +kernel
theorem dX12_canBeRaised_56 : decode cX12_canBeRaised 56 = .ok (.iaload, 1) := by decide +kernel
theorem dX12_canBeRaised_57 : decode cX12_canBeRaised 57 = .ok (.if_icmp .ge 55, 3) := by decide +kernel
theorem dX12_canBeRaised_60 : decode cX12_canBeRaised 60 = .ok (.iload_n 1, 1) := by decide +kernel
theorem dX12_canBeRaised_61 : decode cX12_canBeRaised 61 = .ok (.iload 5, 2) := by decide +kernel
theorem dX12_canBeRaised_63 : decode cX12_canBeRaised 63 = .ok (.ishr, 1) := by decide +kernel
theorem dX12_canBeRaised_64 : decode cX12_canBeRaised 64 = .ok (.iconst 1, 1) := by decide +kernel
theorem dX12_canBeRaised_65 : decode cX12_canBeRaised 65 = .ok (.iand, 1) := by decide +kernel
theorem dX12_canBeRaised_66 : decode cX12_canBeRaised 66 = .ok (.ifCond .ne 40, 3) := by decide +kernel
theorem dX12_canBeRaised_69 : decode cX12_canBeRaised 69 = .ok (.aload_n 0, 1) := by decide +kernel
theorem dX12_canBeRaised_70 : decode cX12_canBeRaised 70 = .ok (.iload 5, 2) := by decide +kernel
theorem dX12_canBeRaised_72 : decode cX12_canBeRaised 72 = .ok (.bipush 6, 2) := by decide +kernel
theorem dX12_canBeRaised_74 : decode cX12_canBeRaised 74 = .ok (.invokevirtual 282, 3) := by decide +kernel
theorem dX12_canBeRaised_77 : decode cX12_canBeRaised 77 = .ok (.iconst 2, 1) := by decide +kernel
theorem dX12_canBeRaised_78 : decode cX12_canBeRaised 78 = .ok (.if_icmp .eq 28, 3) := by decide +kernel
theorem dX12_canBeRaised_81 : decode cX12_canBeRaised 81 = .ok (.aload_n 0, 1) := by decide +kernel
theorem dX12_canBeRaised_82 : decode cX12_canBeRaised 82 = .ok (.iload 5, 2) := by decide +kernel
theorem dX12_canBeRaised_84 : decode cX12_canBeRaised 84 = .ok (.iconst 1, 1) := by decide +kernel
theorem dX12_canBeRaised_85 : decode cX12_canBeRaised 85 = .ok (.invokevirtual 282, 3) := by decide +kernel
theorem dX12_canBeRaised_88 : decode cX12_canBeRaised 88 = .ok (.iload 4, 2) := by decide +kernel
theorem dX12_canBeRaised_90 : decode cX12_canBeRaised 90 = .ok (.invokestatic 305, 3) := by decide +kernel
theorem dX12_canBeRaised_93 : decode cX12_canBeRaised 93 = .ok (.aload_n 0, 1) := by decide +kernel
theorem dX12_canBeRaised_94 : decode cX12_canBeRaised 94 = .ok (.getfield 7, 3) := by decide +kernel
theorem dX12_canBeRaised_97 : decode cX12_canBeRaised 97 = .ok (.sipush 147, 3) := by decide +kernel
theorem dX12_canBeRaised_100 : decode cX12_canBeRaised 100 = .ok (.iaload, 1) := by decide +kernel
theorem dX12_canBeRaised_101 : decode cX12_canBeRaised 101 = .ok (.if_icmp .ge 5, 3) := by decide +kernel
theorem dX12_canBeRaised_104 : decode cX12_canBeRaised 104 = .ok (.iconst 0, 1) := by decide +kernel
theorem dX12_canBeRaised_105 : decode cX12_canBeRaised 105 = .ok (.ireturn, 1) := by decide +kernel
theorem dX12_canBeRaised_106 : decode cX12_canBeRaised 106 = .ok (.iinc 5 1, 3) := by decide +kernel
theorem dX12_canBeRaised_109 : decode cX12_canBeRaised 109 = .ok (.goto (-62), 3) := by decide +kernel
theorem dX12_canBeRaised_112 : decode cX12_canBeRaised 112 = .ok (.iinc 3 1, 3) := by decide +kernel
theorem dX12_canBeRaised_115 : decode cX12_canBeRaised 115 = .ok (.goto (-113), 3) := by decide +kernel
theorem dX12_canBeRaised_118 : decode cX12_canBeRaised 118 = .ok (.iconst 1, 1) := by decide +kernel
theorem dX12_canBeRaised_119 : decode cX12_canBeRaised 119 = .ok (.ireturn, 1) := by decide +kernel
set_option maxHeartbeats 4000000 in
set_option maxRecDepth 100000 in
theorem c_X12_canBeRaised (l : Launch) (D : va_G) (tys : List (ClassId × FieldType)) (base : Nat) (G : iv_G) (h0 : Nat) (g_h0 : Nat → Int32) (r_h0 : Nat → Nat) (a_h0 : G h0 = some (12, g_h0, r_h0)) (x_0 : Int32) (i_x_0 : iv_R 1 1023 x_0) (x_1 : Int32) (i_x_1 : iv_R 0 47 x_1) : Met l yX12_canBeRaised (Cond.code yX12_canBeRaised cX12_canBeRaised 6 (some .boolean) :: iv_W0) ({ frames := 1, cells := 0, slots := 0, locals := 22 }) (iv_Pc iv_sh D classes tys base G [.ref h0, .int x_0, .int x_1]) (iv_Qi iv_sh D classes tys base (fun v G' => G = G' ∧ iv_R 0 1 v)) 0 0 (iv_A base) := by
  refine iv_head (by decide) (Nat.le_of_ble_eq_true rfl) ?_
  intro p e s m args below meth c ls X hr hlocks hname hB hl
  have X := X
  have hx := X.1.1
  have hb := X.1.2.1
  have hl : lv_has ls 6 [(0, .ref h0), (1, .int x_0), (2, .int x_1)] := hl
  refine lv_iconst (v := 0) hx hb dX12_canBeRaised_0 (by decide) ?_
  refine lv_istore_n (lv' := [(3, .int 0), (0, .ref h0), (1, .int x_0), (2, .int x_1)]) hx hb dX12_canBeRaised_1 rfl hl (by decide) rfl (fun ls hl => ?_)
  have L_2 : ∀ (n_2 : Nat) (H : Heap) (locs : List Loc) (hB : iv_B iv_sh D classes tys base G s.heap H locs) (x1 : Int32) (i_x1 : iv_R 0 10 x1) (hn_2 : (11 - x1.toInt).toNat < n_2) (ls : Array Slot) (hl : lv_has ls 6 [(3, .int x1), (0, .ref h0), (1, .int x_0), (2, .int x_1)]), W p l e ({ frames := 1, cells := 0, slots := 0, locals := 22 } : Room) s m args below meth c H locs 0 0 (MQ below (iv_Qi iv_sh D classes tys base (fun v G' => G = G' ∧ iv_R 0 1 v)) args s 0 0 (iv_A base)) (F0 m 2 ls []) := by
    intro n_2
    induction n_2 with
    | zero => intro H locs hB x1 i_x1 hn_2 ls hl; exact absurd hn_2 (Nat.not_lt_zero _)
    | succ n_2 ih_2 =>
      intro H locs hB x1 i_x1 hn_2 ls hl
      refine lv_iload_n hx hb dX12_canBeRaised_2 rfl (lv_at hl 0 rfl) ?_
      refine lv_aload_n hx hb dX12_canBeRaised_3 rfl (lv_at hl 1 rfl) ?_
      refine iv_getr X ft_X12 hB a_h0 sh_12 0 (by decide) rfl k_fl_X12_7 dX12_canBeRaised_4 (fun b2 g_b2 r_b2 e_b2 a_b2 => ?_)
      refine lv_sipush (v := 146) hx hb dX12_canBeRaised_7 (by decide) ?_
      refine iv_wald_c X hB a_b2 q_146 (by decide) (lo := 0) (hi' := 10) (by decide) dX12_canBeRaised_10 (fun x3 e_x3 i_x3 => ?_)
      refine lv_icmp_ge (tgt := 118) hx hb dX12_canBeRaised_11 (by decide) (fun c4 => ?_) (fun c4 => ?_)
      · skip
        refine lv_iconst (v := 1) hx hb dX12_canBeRaised_118 (by decide) ?_
        exact iv_zret X hr hlocks hB (q_1.wk (by decide)) ⟨rfl, (q_1.wk (by decide))⟩ dX12_canBeRaised_119
      · skip
        have i4_x1 : iv_R 0 9 x1 := (i_x1.cutHi (n := 9) (iv_lt_r (iv_nle c4) i_x3 (by decide)))
        have i5_x3 : iv_R 1 10 x3 := (i_x3.cutLo (n := 1) (iv_lt_l (iv_nle c4) i_x1 (by decide)))
        refine lv_iload_n hx hb dX12_canBeRaised_14 rfl (lv_at hl 2 rfl) ?_
        refine lv_iload_n hx hb dX12_canBeRaised_15 rfl (lv_at hl 0 rfl) ?_
        refine lv_ishr hx hb dX12_canBeRaised_16 ?_
        refine lv_topi (fun x7 e_x7 => ?_)
        have i_x7 := iv_R.all x7
        refine lv_iconst (v := 1) hx hb dX12_canBeRaised_17 (by decide) ?_
        refine iv_iand_r hx hb q_1 (by decide) dX12_canBeRaised_18 (fun x8 e_x8 i_x8 => ?_)
        refine lv_if_ne (tgt := 25) hx hb dX12_canBeRaised_19 (by decide) (fun c9 => ?_) (fun c9 => ?_)
        · skip
          have i9_x8 : iv_R 1 1 x8 := iv_ne_lo c9 i_x8 q_0 (by decide)
          refine lv_aload_n hx hb dX12_canBeRaised_25 rfl (lv_at hl 1 rfl) ?_
          refine lv_iload_n hx hb dX12_canBeRaised_26 rfl (lv_at hl 0 rfl) ?_
          refine lv_iconst (v := 1) hx hb dX12_canBeRaised_27 (by decide) ?_
          refine iv_cVi X k_good k_mf_X12_ofBell k_im_X12_ofBell k_sel_X12_ofBell k_ml_X12_282 ft_X12 hB a_h0 sh_12 (As := [.int x1, .int 1]) (c_X12_ofBell l D tys base G h0 g_h0 r_h0 a_h0 x1 i4_x1 1 (q_1.wk (by decide))) ⟨rfl, rfl⟩ ⟨Nat.le_of_ble_eq_true rfl, Nat.le_of_ble_eq_true rfl⟩ ⟨Nat.le_of_ble_eq_true rfl, Nat.le_of_ble_eq_true rfl⟩ rfl rfl hl.1 (Nat.le_of_ble_eq_true rfl) dX12_canBeRaised_28 (fun x11 G9 H locs hq hB => ?_)
          obtain ⟨rfl, i_x11, cp12, cp13⟩ := hq
          have i13_x11 : iv_R 0 47 x11 := cp13 rfl
          refine lv_iload_n hx hb dX12_canBeRaised_31 rfl (lv_at hl 3 rfl) ?_
          refine iv_iadd hx hb i13_x11 i_x_1 (lo := 0) (hi := 94) (by decide) dX12_canBeRaised_32 (fun x15 e_x15 i_x15 => ?_)
          refine lv_istore (lv' := [(4, .int x15), (3, .int x1), (0, .ref h0), (1, .int x_0), (2, .int x_1)]) hx hb dX12_canBeRaised_33 hl (by decide) rfl (fun ls hl => ?_)
          refine lv_iload hx hb dX12_canBeRaised_35 (lv_at hl 0 rfl) ?_
          refine lv_bipush (v := 47) hx hb dX12_canBeRaised_37 (by decide) ?_
          refine lv_icmp_le (tgt := 44) hx hb dX12_canBeRaised_39 (by decide) (fun c16 => ?_) (fun c16 => ?_)
          · skip
            have i16_x15 : iv_R 0 47 x15 := (i_x15.cutHi (n := 47) (iv_le_r c16 q_47))
            refine lv_iconst (v := 0) hx hb dX12_canBeRaised_44 (by decide) ?_
            refine lv_istore (lv' := [(5, .int 0), (4, .int x15), (3, .int x1), (0, .ref h0), (1, .int x_0), (2, .int x_1)]) hx hb dX12_canBeRaised_45 hl (by decide) rfl (fun ls hl => ?_)
            have L_47 : ∀ (n_47 : Nat) (H : Heap) (locs : List Loc) (hB : iv_B iv_sh D classes tys base G s.heap H locs) (x18 : Int32) (i_x18 : iv_R 0 10 x18) (hn_47 : (11 - x18.toInt).toNat < n_47) (ls : Array Slot) (hl : lv_has ls 6 [(5, .int x18), (4, .int x15), (3, .int x1), (0, .ref h0), (1, .int x_0), (2, .int x_1)]), W p l e ({ frames := 1, cells := 0, slots := 0, locals := 22 } : Room) s m args below meth c H locs 0 0 (MQ below (iv_Qi iv_sh D classes tys base (fun v G' => G = G' ∧ iv_R 0 1 v)) args s 0 0 (iv_A base)) (F0 m 47 ls []) := by
              intro n_47
              induction n_47 with
              | zero => intro H locs hB x18 i_x18 hn_47 ls hl; exact absurd hn_47 (Nat.not_lt_zero _)
              | succ n_47 ih_47 =>
                intro H locs hB x18 i_x18 hn_47 ls hl
                refine lv_iload hx hb dX12_canBeRaised_47 (lv_at hl 0 rfl) ?_
                refine lv_aload_n hx hb dX12_canBeRaised_49 rfl (lv_at hl 3 rfl) ?_
                refine iv_getr0 X ft_X12 hB a_h0 sh_12 0 (by decide) rfl k_fl_X12_7 dX12_canBeRaised_50 e_b2 ?_
                refine lv_sipush (v := 146) hx hb dX12_canBeRaised_53 (by decide) ?_
                refine iv_wald_c X hB a_b2 q_146 (by decide) (lo := 0) (hi' := 10) (by decide) dX12_canBeRaised_56 (fun x19 e_x19 k_x19 => ?_)
                obtain rfl : x3 = x19 := e_x3.trans e_x19.symm
                refine lv_icmp_ge (tgt := 112) hx hb dX12_canBeRaised_57 (by decide) (fun c20 => ?_) (fun c20 => ?_)
                · skip
                  have i20_x18 : iv_R 1 10 x18 := (i_x18.cutLo (n := 1) (iv_le_l c20 i5_x3))
                  refine iv_iinc hx hb i4_x1 (lo := 1) (hi := 10) (by decide) dX12_canBeRaised_112 hl (k := 2) rfl (by decide) (fun x22 ls e_x22 i_x22 hl => ?_)
                  have hl : lv_has ls 6 [(3, .int x22), (5, .int x18), (4, .int x15), (0, .ref h0), (1, .int x_0), (2, .int x_1)] := hl
                  refine lv_goto (tgt := 2) hx hb dX12_canBeRaised_115 (by decide) ?_
                  exact ih_2 _ _ hB x22 (i_x22.wk (by decide)) (iv_mup (c := 1) i_x1 (by decide) (by decide) (by omega) hn_2) _ (lv_sub hl [0, 3, 4, 5] rfl)
                · skip
                  have i22_x18 : iv_R 0 9 x18 := (i_x18.cutHi (n := 9) (iv_lt_r (iv_nle c20) i5_x3 (by decide)))
                  refine lv_iload_n hx hb dX12_canBeRaised_60 rfl (lv_at hl 4 rfl) ?_
                  refine lv_iload hx hb dX12_canBeRaised_61 (lv_at hl 0 rfl) ?_
                  refine lv_ishr hx hb dX12_canBeRaised_63 ?_
                  refine lv_topi (fun x24 e_x24 => ?_)
                  have i_x24 := iv_R.all x24
                  refine lv_iconst (v := 1) hx hb dX12_canBeRaised_64 (by decide) ?_
                  refine iv_iand_r hx hb q_1 (by decide) dX12_canBeRaised_65 (fun x25 e_x25 i_x25 => ?_)
                  refine lv_if_ne (tgt := 106) hx hb dX12_canBeRaised_66 (by decide) (fun c26 => ?_) (fun c26 => ?_)
                  · skip
                    have i26_x25 : iv_R 1 1 x25 := iv_ne_lo c26 i_x25 q_0 (by decide)
                    refine iv_iinc hx hb i22_x18 (lo := 1) (hi := 10) (by decide) dX12_canBeRaised_106 hl (k := 0) rfl (by decide) (fun x28 ls e_x28 i_x28 hl => ?_)
                    have hl : lv_has ls 6 [(5, .int x28), (4, .int x15), (3, .int x1), (0, .ref h0), (1, .int x_0), (2, .int x_1)] := hl
                    refine lv_goto (tgt := 47) hx hb dX12_canBeRaised_109 (by decide) ?_
                    exact ih_47 _ _ hB x28 (i_x28.wk (by decide)) (iv_mup (c := 1) i_x18 (by decide) (by decide) (by omega) hn_47) _ (lv_sub hl [0, 1, 2, 3, 4, 5] rfl)
                  · skip
                    have i28_x25 : iv_R 0 0 x25 := (i_x25.cutHi (n := 0) (iv_eq_r c26 q_0).2)
                    refine lv_aload_n hx hb dX12_canBeRaised_69 rfl (lv_at hl 3 rfl) ?_
                    refine lv_iload hx hb dX12_canBeRaised_70 (lv_at hl 0 rfl) ?_
                    refine lv_bipush (v := 6) hx hb dX12_canBeRaised_72 (by decide) ?_
                    refine iv_cVi X k_good k_mf_X12_ofBell k_im_X12_ofBell k_sel_X12_ofBell k_ml_X12_282 ft_X12 hB a_h0 sh_12 (As := [.int x18, .int 6]) (c_X12_ofBell l D tys base G h0 g_h0 r_h0 a_h0 x18 i22_x18 6 (q_6.wk (by decide))) ⟨rfl, rfl⟩ ⟨Nat.le_of_ble_eq_true rfl, Nat.le_of_ble_eq_true rfl⟩ ⟨Nat.le_of_ble_eq_true rfl, Nat.le_of_ble_eq_true rfl⟩ rfl rfl hl.1 (Nat.le_of_ble_eq_true rfl) dX12_canBeRaised_74 (fun x30 G9 H locs hq hB => ?_)
                    obtain ⟨rfl, i_x30, cp31, cp32⟩ := hq
                    refine lv_iconst (v := 2) hx hb dX12_canBeRaised_77 (by decide) ?_
                    refine lv_icmp_eq (tgt := 106) hx hb dX12_canBeRaised_78 (by decide) (fun c33 => ?_) (fun c33 => ?_)
                    · skip
                      have i33_x30 : iv_R 2 2 x30 := ((i_x30.cutLo (n := 2) (iv_eq_r c33 q_2).1).cutHi (n := 2) (iv_eq_r c33 q_2).2)
                      refine iv_iinc hx hb i22_x18 (lo := 1) (hi := 10) (by decide) dX12_canBeRaised_106 hl (k := 0) rfl (by decide) (fun x35 ls e_x35 i_x35 hl => ?_)
                      have hl : lv_has ls 6 [(5, .int x35), (4, .int x15), (3, .int x1), (0, .ref h0), (1, .int x_0), (2, .int x_1)] := hl
                      refine lv_goto (tgt := 47) hx hb dX12_canBeRaised_109 (by decide) ?_
                      exact ih_47 _ _ hB x35 (i_x35.wk (by decide)) (iv_mup (c := 1) i_x18 (by decide) (by decide) (by omega) hn_47) _ (lv_sub hl [0, 1, 2, 3, 4, 5] rfl)
                    · skip
                      refine lv_aload_n hx hb dX12_canBeRaised_81 rfl (lv_at hl 3 rfl) ?_
                      refine lv_iload hx hb dX12_canBeRaised_82 (lv_at hl 0 rfl) ?_
                      refine lv_iconst (v := 1) hx hb dX12_canBeRaised_84 (by decide) ?_
                      refine iv_cVi X k_good k_mf_X12_ofBell k_im_X12_ofBell k_sel_X12_ofBell k_ml_X12_282 ft_X12 hB a_h0 sh_12 (As := [.int x18, .int 1]) (c_X12_ofBell l D tys base G h0 g_h0 r_h0 a_h0 x18 i22_x18 1 (q_1.wk (by decide))) ⟨rfl, rfl⟩ ⟨Nat.le_of_ble_eq_true rfl, Nat.le_of_ble_eq_true rfl⟩ ⟨Nat.le_of_ble_eq_true rfl, Nat.le_of_ble_eq_true rfl⟩ rfl rfl hl.1 (Nat.le_of_ble_eq_true rfl) dX12_canBeRaised_85 (fun x36 G9 H locs hq hB => ?_)
                      obtain ⟨rfl, i_x36, cp37, cp38⟩ := hq
                      have i38_x36 : iv_R 0 47 x36 := cp38 rfl
                      refine lv_iload hx hb dX12_canBeRaised_88 (lv_at hl 1 rfl) ?_
                      refine iv_cSi X k_good k_mf_X12_apart k_st_X12_apart k_ml_X12_305 hB (As := [.int x36, .int x15]) (c_X12_apart l D tys base G x36 i38_x36 x15 i16_x15) ⟨rfl, rfl⟩ ⟨Nat.le_of_ble_eq_true rfl, Nat.le_of_ble_eq_true rfl⟩ ⟨Nat.le_of_ble_eq_true rfl, Nat.le_of_ble_eq_true rfl⟩ rfl rfl hl.1 (Nat.le_of_ble_eq_true rfl) dX12_canBeRaised_90 (fun x40 G9 H locs hq hB => ?_)
                      obtain ⟨rfl, i_x40⟩ := hq
                      refine lv_aload_n hx hb dX12_canBeRaised_93 rfl (lv_at hl 3 rfl) ?_
                      refine iv_getr0 X ft_X12 hB a_h0 sh_12 0 (by decide) rfl k_fl_X12_7 dX12_canBeRaised_94 e_b2 ?_
                      refine lv_sipush (v := 147) hx hb dX12_canBeRaised_97 (by decide) ?_
                      refine iv_wald_c X hB a_b2 q_147 (by decide) (lo := (-2147483648)) (hi' := 2147483647) (by decide) dX12_canBeRaised_100 (fun x41 e_x41 i_x41 => ?_)
                      refine lv_icmp_ge (tgt := 106) hx hb dX12_canBeRaised_101 (by decide) (fun c42 => ?_) (fun c42 => ?_)
                      · skip
                        have i42_x41 : iv_R (-2147483648) 47 x41 := (i_x41.cutHi (n := 47) (iv_le_r c42 i_x40))
                        refine iv_iinc hx hb i22_x18 (lo := 1) (hi := 10) (by decide) dX12_canBeRaised_106 hl (k := 0) rfl (by decide) (fun x44 ls e_x44 i_x44 hl => ?_)
                        have hl : lv_has ls 6 [(5, .int x44), (4, .int x15), (3, .int x1), (0, .ref h0), (1, .int x_0), (2, .int x_1)] := hl
                        refine lv_goto (tgt := 47) hx hb dX12_canBeRaised_109 (by decide) ?_
                        exact ih_47 _ _ hB x44 (i_x44.wk (by decide)) (iv_mup (c := 1) i_x18 (by decide) (by decide) (by omega) hn_47) _ (lv_sub hl [0, 1, 2, 3, 4, 5] rfl)
                      · skip
                        have i44_x41 : iv_R (-46) 2147483647 x41 := (i_x41.cutLo (n := (-46)) (iv_lt_l (iv_nle c42) i_x40 (by decide)))
                        refine lv_iconst (v := 0) hx hb dX12_canBeRaised_104 (by decide) ?_
                        exact iv_zret X hr hlocks hB (q_0.wk (by decide)) ⟨rfl, (q_0.wk (by decide))⟩ dX12_canBeRaised_105
            exact L_47 _ _ _ hB 0 (q_0.wk (by decide)) (Nat.lt_succ_self _) _ (lv_sub hl [0, 1, 2, 3, 4, 5] rfl)
          · skip
            have i45_x15 : iv_R 48 94 x15 := (i_x15.cutLo (n := 48) (iv_lt_l (iv_nle c16) q_47 (by decide)))
            refine lv_iconst (v := 0) hx hb dX12_canBeRaised_42 (by decide) ?_
            exact iv_zret X hr hlocks hB (q_0.wk (by decide)) ⟨rfl, (q_0.wk (by decide))⟩ dX12_canBeRaised_43
        · skip
          have i46_x8 : iv_R 0 0 x8 := (i_x8.cutHi (n := 0) (iv_eq_r c9 q_0).2)
          refine lv_goto (tgt := 112) hx hb dX12_canBeRaised_22 (by decide) ?_
          refine iv_iinc hx hb i4_x1 (lo := 1) (hi := 10) (by decide) dX12_canBeRaised_112 hl (k := 0) rfl (by decide) (fun x48 ls e_x48 i_x48 hl => ?_)
          have hl : lv_has ls 6 [(3, .int x48), (0, .ref h0), (1, .int x_0), (2, .int x_1)] := hl
          refine lv_goto (tgt := 2) hx hb dX12_canBeRaised_115 (by decide) ?_
          exact ih_2 _ _ hB x48 (i_x48.wk (by decide)) (iv_mup (c := 1) i_x1 (by decide) (by decide) (by omega) hn_2) _ (lv_sub hl [0, 1, 2, 3] rfl)
  exact L_2 _ _ _ hB 0 (q_0.wk (by decide)) (Nat.lt_succ_self _) _ (lv_sub hl [0, 1, 2, 3] rfl)
theorem dX12_canFollow_0 : decode cX12_canFollow 0 = .ok (.iload_n 3, 1) := by decide +kernel
theorem dX12_canFollow_1 : decode cX12_canFollow 1 = .ok (.iload_n 1, 1) := by decide +kernel
theorem dX12_canFollow_2 : decode cX12_canFollow 2 = .ok (.ishr, 1) := by decide +kernel
theorem dX12_canFollow_3 : decode cX12_canFollow 3 = .ok (.iconst 1, 1) := by decide +kernel
theorem dX12_canFollow_4 : decode cX12_canFollow 4 = .ok (.iand, 1) := by decide +kernel
theorem dX12_canFollow_5 : decode cX12_canFollow 5 = .ok (.ifCond .ne 49, 3) := by decide +kernel
theorem dX12_canFollow_8 : decode cX12_canFollow 8 = .ok (.iload_n 2, 1) := by decide +kernel
theorem dX12_canFollow_9 : decode cX12_canFollow 9 = .ok (.bipush 8, 2) := by decide +kernel
theorem dX12_canFollow_11 : decode cX12_canFollow 11 = .ok (.if_icmp .eq 39, 3) := by decide +kernel
theorem dX12_canFollow_14 : decode cX12_canFollow 14 = .ok (.aload_n 0, 1) := by decide +kernel
theorem dX12_canFollow_15 : decode cX12_canFollow 15 = .ok (.aload_n 0, 1) := by decide +kernel
theorem dX12_canFollow_16 : decode cX12_canFollow 16 = .ok (.getfield 50, 3) := by decide +kernel
theorem dX12_canFollow_19 : decode cX12_canFollow 19 = .ok (.iload_n 1, 1) := by decide +kernel
theorem dX12_canFollow_20 : decode cX12_canFollow 20 = .ok (.iaload, 1) := by decide +kernel
theorem dX12_canFollow_21 : decode cX12_canFollow 21 = .ok (.iconst 1, 1) := by decide +kernel
theorem dX12_canFollow_22 : decode cX12_canFollow 22 = .ok (.invokevirtual 282, 3) := by decide +kernel
theorem dX12_canFollow_25 : decode cX12_canFollow 25 = .ok (.aload_n 0, 1) := by decide +kernel
theorem dX12_canFollow_26 : decode cX12_canFollow 26 = .ok (.aload_n 0, 1) := by decide +kernel
theorem dX12_canFollow_27 : decode cX12_canFollow 27 = .ok (.getfield 50, 3) := by decide +kernel
theorem dX12_canFollow_30 : decode cX12_canFollow 30 = .ok (.iload_n 2, 1) := by decide +kernel
theorem dX12_canFollow_31 : decode cX12_canFollow 31 = .ok (.iaload, 1) := by decide +kernel
theorem dX12_canFollow_32 : decode cX12_canFollow 32 = .ok (.iconst 1, 1) := by decide +kernel
theorem dX12_canFollow_33 : decode cX12_canFollow 33 = .ok (.invokevirtual 282, 3) := by decide +kernel
theorem dX12_canFollow_36 : decode cX12_canFollow 36 = .ok (.invokestatic 305, 3) := by decide +kernel
theorem dX12_canFollow_39 : decode cX12_canFollow 39 = .ok (.aload_n 0, 1) := by decide +kernel
theorem dX12_canFollow_40 : decode cX12_canFollow 40 = .ok (.getfield 7, 3) := by decide +kernel
theorem dX12_canFollow_43 : decode cX12_canFollow 43 = .ok (.sipush 147, 3) := by decide +kernel
theorem dX12_canFollow_46 : decode cX12_canFollow 46 = .ok (.iaload, 1) := by decide +kernel
theorem dX12_canFollow_47 : decode cX12_canFollow 47 = .ok (.if_icmp .lt 7, 3) := by decide +kernel
theorem dX12_canFollow_50 : decode cX12_canFollow 50 = .ok (.iconst 1, 1) := by decide +kernel
theorem dX12_canFollow_51 : decode cX12_canFollow 51 = .ok (.goto 4, 3) := by decide +kernel
theorem dX12_canFollow_54 : decode cX12_canFollow 54 = .ok (.iconst 0, 1) := by decide +kernel
theorem dX12_canFollow_55 : decode cX12_canFollow 55 = .ok (.ireturn, 1) := by decide +kernel
set_option maxHeartbeats 4000000 in
set_option maxRecDepth 100000 in
theorem c_X12_canFollow (l : Launch) (D : va_G) (tys : List (ClassId × FieldType)) (base : Nat) (G : iv_G) (h0 : Nat) (g_h0 : Nat → Int32) (r_h0 : Nat → Nat) (a_h0 : G h0 = some (12, g_h0, r_h0)) (x_0 : Int32) (i_x_0 : iv_R 0 7 x_0) (x_1 : Int32) (i_x_1 : iv_R 0 8 x_1) (x_2 : Int32) (i_x_2 : iv_R 0 255 x_2) : Met l yX12_canFollow (Cond.code yX12_canFollow cX12_canFollow 4 (some .boolean) :: iv_W0) ({ frames := 1, cells := 0, slots := 0, locals := 22 }) (iv_Pc iv_sh D classes tys base G [.ref h0, .int x_0, .int x_1, .int x_2]) (iv_Qi iv_sh D classes tys base (fun v G' => G = G' ∧ iv_R 0 1 v)) 0 0 (iv_A base) := by
  refine iv_head (by decide) (Nat.le_of_ble_eq_true rfl) ?_
  intro p e s m args below meth c ls X hr hlocks hname hB hl
  have X := X
  have hx := X.1.1
  have hb := X.1.2.1
  have hl : lv_has ls 4 [(0, .ref h0), (1, .int x_0), (2, .int x_1), (3, .int x_2)] := hl
  refine lv_iload_n hx hb dX12_canFollow_0 rfl (lv_at hl 3 rfl) ?_
  refine lv_iload_n hx hb dX12_canFollow_1 rfl (lv_at hl 1 rfl) ?_
  refine lv_ishr hx hb dX12_canFollow_2 ?_
  refine lv_topi (fun x1 e_x1 => ?_)
  have i_x1 := iv_R.all x1
  refine lv_iconst (v := 1) hx hb dX12_canFollow_3 (by decide) ?_
  refine iv_iand_r hx hb q_1 (by decide) dX12_canFollow_4 (fun x2 e_x2 i_x2 => ?_)
  refine lv_if_ne (tgt := 54) hx hb dX12_canFollow_5 (by decide) (fun c3 => ?_) (fun c3 => ?_)
  · skip
    have i3_x2 : iv_R 1 1 x2 := iv_ne_lo c3 i_x2 q_0 (by decide)
    refine lv_iconst (v := 0) hx hb dX12_canFollow_54 (by decide) ?_
    exact iv_zret X hr hlocks hB (q_0.wk (by decide)) ⟨rfl, (q_0.wk (by decide))⟩ dX12_canFollow_55
  · skip
    have i4_x2 : iv_R 0 0 x2 := (i_x2.cutHi (n := 0) (iv_eq_r c3 q_0).2)
    refine lv_iload_n hx hb dX12_canFollow_8 rfl (lv_at hl 2 rfl) ?_
    refine lv_bipush (v := 8) hx hb dX12_canFollow_9 (by decide) ?_
    refine lv_icmp_eq (tgt := 50) hx hb dX12_canFollow_11 (by decide) (fun c6 => ?_) (fun c6 => ?_)
    · skip
      have i6_x_1 : iv_R 8 8 x_1 := (i_x_1.cutLo (n := 8) (iv_eq_r c6 q_8).1)
      refine lv_iconst (v := 1) hx hb dX12_canFollow_50 (by decide) ?_
      refine lv_goto (tgt := 55) hx hb dX12_canFollow_51 (by decide) ?_
      exact iv_zret X hr hlocks hB (q_1.wk (by decide)) ⟨rfl, (q_1.wk (by decide))⟩ dX12_canFollow_55
    · skip
      have i7_x_1 : iv_R 0 7 x_1 := iv_ne_hi c6 i_x_1 q_8 (by decide)
      refine lv_aload_n hx hb dX12_canFollow_14 rfl (lv_at hl 0 rfl) ?_
      refine lv_aload_n hx hb dX12_canFollow_15 rfl (lv_at hl 0 rfl) ?_
      refine iv_getr X ft_X12 hB a_h0 sh_12 29 (by decide) rfl k_fl_X12_50 dX12_canFollow_16 (fun b9 g_b9 r_b9 e_b9 a_b9 => ?_)
      refine lv_iload_n hx hb dX12_canFollow_19 rfl (lv_at hl 1 rfl) ?_
      refine iv_ald X hB a_b9 sh_72 (iv_in i_x_0 (by decide)) dX12_canFollow_20 (fun x10 e_x10 i_x10 => ?_)
      refine lv_iconst (v := 1) hx hb dX12_canFollow_21 (by decide) ?_
      refine iv_cVi X k_good k_mf_X12_ofBell k_im_X12_ofBell k_sel_X12_ofBell k_ml_X12_282 ft_X12 hB a_h0 sh_12 (As := [.int x10, .int 1]) (c_X12_ofBell l D tys base G h0 g_h0 r_h0 a_h0 x10 i_x10 1 (q_1.wk (by decide))) ⟨rfl, rfl⟩ ⟨Nat.le_of_ble_eq_true rfl, Nat.le_of_ble_eq_true rfl⟩ ⟨Nat.le_of_ble_eq_true rfl, Nat.le_of_ble_eq_true rfl⟩ rfl rfl hl.1 (Nat.le_of_ble_eq_true rfl) dX12_canFollow_22 (fun x11 G9 H locs hq hB => ?_)
      obtain ⟨rfl, i_x11, cp12, cp13⟩ := hq
      have i13_x11 : iv_R 0 47 x11 := cp13 rfl
      refine lv_aload_n hx hb dX12_canFollow_25 rfl (lv_at hl 0 rfl) ?_
      refine lv_aload_n hx hb dX12_canFollow_26 rfl (lv_at hl 0 rfl) ?_
      refine iv_getr0 X ft_X12 hB a_h0 sh_12 29 (by decide) rfl k_fl_X12_50 dX12_canFollow_27 e_b9 ?_
      refine lv_iload_n hx hb dX12_canFollow_30 rfl (lv_at hl 2 rfl) ?_
      refine iv_ald X hB a_b9 sh_72 (iv_in i7_x_1 (by decide)) dX12_canFollow_31 (fun x15 e_x15 i_x15 => ?_)
      refine lv_iconst (v := 1) hx hb dX12_canFollow_32 (by decide) ?_
      refine iv_cVi X k_good k_mf_X12_ofBell k_im_X12_ofBell k_sel_X12_ofBell k_ml_X12_282 ft_X12 hB a_h0 sh_12 (As := [.int x15, .int 1]) (c_X12_ofBell l D tys base G h0 g_h0 r_h0 a_h0 x15 i_x15 1 (q_1.wk (by decide))) ⟨rfl, rfl⟩ ⟨Nat.le_of_ble_eq_true rfl, Nat.le_of_ble_eq_true rfl⟩ ⟨Nat.le_of_ble_eq_true rfl, Nat.le_of_ble_eq_true rfl⟩ rfl rfl hl.1 (Nat.le_of_ble_eq_true rfl) dX12_canFollow_33 (fun x16 G9 H locs hq hB => ?_)
      obtain ⟨rfl, i_x16, cp17, cp18⟩ := hq
      have i18_x16 : iv_R 0 47 x16 := cp18 rfl
      refine iv_cSi X k_good k_mf_X12_apart k_st_X12_apart k_ml_X12_305 hB (As := [.int x11, .int x16]) (c_X12_apart l D tys base G x11 i13_x11 x16 i18_x16) ⟨rfl, rfl⟩ ⟨Nat.le_of_ble_eq_true rfl, Nat.le_of_ble_eq_true rfl⟩ ⟨Nat.le_of_ble_eq_true rfl, Nat.le_of_ble_eq_true rfl⟩ rfl rfl hl.1 (Nat.le_of_ble_eq_true rfl) dX12_canFollow_36 (fun x20 G9 H locs hq hB => ?_)
      obtain ⟨rfl, i_x20⟩ := hq
      refine lv_aload_n hx hb dX12_canFollow_39 rfl (lv_at hl 0 rfl) ?_
      refine iv_getr X ft_X12 hB a_h0 sh_12 0 (by decide) rfl k_fl_X12_7 dX12_canFollow_40 (fun b21 g_b21 r_b21 e_b21 a_b21 => ?_)
      refine lv_sipush (v := 147) hx hb dX12_canFollow_43 (by decide) ?_
      refine iv_wald_c X hB a_b21 q_147 (by decide) (lo := (-2147483648)) (hi' := 2147483647) (by decide) dX12_canFollow_46 (fun x22 e_x22 i_x22 => ?_)
      refine lv_icmp_lt (tgt := 54) hx hb dX12_canFollow_47 (by decide) (fun c23 => ?_) (fun c23 => ?_)
      · skip
        have i23_x22 : iv_R (-46) 2147483647 x22 := (i_x22.cutLo (n := (-46)) (iv_lt_l c23 i_x20 (by decide)))
        refine lv_iconst (v := 0) hx hb dX12_canFollow_54 (by decide) ?_
        exact iv_zret X hr hlocks hB (q_0.wk (by decide)) ⟨rfl, (q_0.wk (by decide))⟩ dX12_canFollow_55
      · skip
        have i24_x22 : iv_R (-2147483648) 47 x22 := (i_x22.cutHi (n := 47) (iv_le_r (iv_nlt c23) i_x20))
        refine lv_iconst (v := 1) hx hb dX12_canFollow_50 (by decide) ?_
        refine lv_goto (tgt := 55) hx hb dX12_canFollow_51 (by decide) ?_
        exact iv_zret X hr hlocks hB (q_1.wk (by decide)) ⟨rfl, (q_1.wk (by decide))⟩ dX12_canFollow_55
theorem dX12_canRing_0 : decode cX12_canRing 0 = .ok (.iconst 0, 1) := by decide +kernel
theorem dX12_canRing_1 : decode cX12_canRing 1 = .ok (.istore_n 3, 1) := by decide +kernel
theorem dX12_canRing_2 : decode cX12_canRing 2 = .ok (.iload_n 3, 1) := by decide +kernel
theorem dX12_canRing_3 : decode cX12_canRing 3 = .ok (.iload_n 1, 1) := by decide +kernel
theorem dX12_canRing_4 : decode cX12_canRing 4 = .ok (.if_icmp .ge 57, 3) := by decide +kernel
theorem dX12_canRing_7 : decode cX12_canRing 7 = .ok (.aload_n 0, 1) := by decide +kernel
theorem dX12_canRing_8 : decode cX12_canRing 8 = .ok (.iload_n 3, 1) := by decide +kernel
theorem dX12_canRing_9 : decode cX12_canRing 9 = .ok (.bipush 6, 2) := by decide +kernel
theorem dX12_canRing_11 : decode cX12_canRing 11 = .ok (.invokevirtual 282, 3) := by decide +kernel
theorem dX12_canRing_14 : decode cX12_canRing 14 = .ok (.ifCond .ne 41, 3) := by decide +kernel
theorem dX12_canRing_17 : decode cX12_canRing 17 = .ok (.aload_n 0, 1) := by decide +kernel
theorem dX12_canRing_18 : decode cX12_canRing 18 = .ok (.getfield 44, 3) := by decide +kernel
theorem dX12_canRing_21 : decode cX12_canRing 21 = .ok (.iload_n 3, 1) := by decide +kernel
theorem dX12_canRing_22 : decode cX12_canRing 22 = .ok (.iaload, 1) := by decide +kernel
theorem dX12_canRing_23 : decode cX12_canRing 23 = .ok (.iload_n 2, 1) := by decide +kernel
theorem dX12_canRing_24 : decode cX12_canRing 24 = .ok (.if_icmp .ne 31, 3) := by decide +kernel
theorem dX12_canRing_27 : decode cX12_canRing 27 = .ok (.aload_n 0, 1) := by decide +kernel
theorem dX12_canRing_28 : decode cX12_canRing 28 = .ok (.iload_n 3, 1) := by decide +kernel
theorem dX12_canRing_29 : decode cX12_canRing 29 = .ok (.iconst 1, 1) := by decide +kernel
theorem dX12_canRing_30 : decode cX12_canRing 30 = .ok (.invokevirtual 282, 3) := by decide +kernel
theorem dX12_canRing_33 : decode cX12_canRing 33 = .ok (.aload_n 0, 1) := by decide +kernel
theorem dX12_canRing_34 : decode cX12_canRing 34 = .ok (.iload_n 1, 1) := by decide +kernel
theorem dX12_canRing_35 : decode cX12_canRing 35 = .ok (.iconst 1, 1) := by decide +kernel
theorem dX12_canRing_36 : decode cX12_canRing 36 = .ok (.invokevirtual 282, 3) := by decide +kernel
theorem dX12_canRing_39 : decode cX12_canRing 39 = .ok (.invokestatic 305, 3) := by decide +kernel
theorem dX12_canRing_42 : decode cX12_canRing 42 = .ok (.aload_n 0, 1) := by decide +kernel
theorem dX12_canRing_43 : decode cX12_canRing 43 = .ok (.getfield 7, 3) := by decide +kernel
theorem dX12_canRing_46 : decode cX12_canRing 46 = .ok (.sipush 147, 3) := by decide +kernel
theorem dX12_canRing_49 : decode cX12_canRing 49 = .ok (.iaload, 1) := by decide +kernel
theorem dX12_canRing_50 : decode cX12_canRing 50 = .ok (.if_icmp .ge 5, 3) := by decide +kernel
theorem dX12_canRing_53 : decode cX12_canRing 53 = .ok (.iconst 0, 1) := by decide +kernel
theorem dX12_canRing_54 : decode cX12_canRing 54 = .ok (.ireturn, 1) := by decide +kernel
theorem dX12_canRing_55 : decode cX12_canRing 55 = .ok (.iinc 3 1, 3) := by decide +kernel
theorem dX12_canRing_58 : decode cX12_canRing 58 = .ok (.goto (-56), 3) := by decide +kernel
theorem dX12_canRing_61 : decode cX12_canRing 61 = .ok (.iconst 1, 1) := by decide +kernel
theorem dX12_canRing_62 : decode cX12_canRing 62 = .ok (.ireturn, 1) := by decide +kernel
set_option maxHeartbeats 4000000 in
set_option maxRecDepth 100000 in
theorem c_X12_canRing (l : Launch) (D : va_G) (tys : List (ClassId × FieldType)) (base : Nat) (G : iv_G) (h0 : Nat) (g_h0 : Nat → Int32) (r_h0 : Nat → Nat) (a_h0 : G h0 = some (12, g_h0, r_h0)) (x_0 : Int32) (i_x_0 : iv_R 0 9 x_0) (x_1 : Int32) (i_x_1 : iv_R 0 2147483646 x_1) : Met l yX12_canRing (Cond.code yX12_canRing cX12_canRing 4 (some .boolean) :: iv_W0) ({ frames := 1, cells := 0, slots := 0, locals := 22 }) (iv_Pc iv_sh D classes tys base G [.ref h0, .int x_0, .int x_1]) (iv_Qi iv_sh D classes tys base (fun v G' => G = G' ∧ iv_R 0 1 v ∧ (v = 0 → iv_R 1 9 x_0))) 0 0 (iv_A base) := by
  refine iv_head (by decide) (Nat.le_of_ble_eq_true rfl) ?_
  intro p e s m args below meth c ls X hr hlocks hname hB hl
  have X := X
  have hx := X.1.1
  have hb := X.1.2.1
  have hl : lv_has ls 4 [(0, .ref h0), (1, .int x_0), (2, .int x_1)] := hl
  refine lv_iconst (v := 0) hx hb dX12_canRing_0 (by decide) ?_
  refine lv_istore_n (lv' := [(3, .int 0), (0, .ref h0), (1, .int x_0), (2, .int x_1)]) hx hb dX12_canRing_1 rfl hl (by decide) rfl (fun ls hl => ?_)
  have L_2 : ∀ (n_2 : Nat) (H : Heap) (locs : List Loc) (hB : iv_B iv_sh D classes tys base G s.heap H locs) (x1 : Int32) (i_x1 : iv_R 0 9 x1) (hn_2 : (10 - x1.toInt).toNat < n_2) (ls : Array Slot) (hl : lv_has ls 4 [(3, .int x1), (0, .ref h0), (1, .int x_0), (2, .int x_1)]), W p l e ({ frames := 1, cells := 0, slots := 0, locals := 22 } : Room) s m args below meth c H locs 0 0 (MQ below (iv_Qi iv_sh D classes tys base (fun v G' => G = G' ∧ iv_R 0 1 v ∧ (v = 0 → iv_R 1 9 x_0))) args s 0 0 (iv_A base)) (F0 m 2 ls []) := by
    intro n_2
    induction n_2 with
    | zero => intro H locs hB x1 i_x1 hn_2 ls hl; exact absurd hn_2 (Nat.not_lt_zero _)
    | succ n_2 ih_2 =>
      intro H locs hB x1 i_x1 hn_2 ls hl
      refine lv_iload_n hx hb dX12_canRing_2 rfl (lv_at hl 0 rfl) ?_
      refine lv_iload_n hx hb dX12_canRing_3 rfl (lv_at hl 2 rfl) ?_
      refine lv_icmp_ge (tgt := 61) hx hb dX12_canRing_4 (by decide) (fun c2 => ?_) (fun c2 => ?_)
      · skip
        refine lv_iconst (v := 1) hx hb dX12_canRing_61 (by decide) ?_
        exact iv_zret X hr hlocks hB (q_1.wk (by decide)) ⟨rfl, (q_1.wk (by decide)), fun h => absurd h (iv_nz q_1 (by decide))⟩ dX12_canRing_62
      · skip
        have i2_x1 : iv_R 0 8 x1 := (i_x1.cutHi (n := 8) (iv_lt_r (iv_nle c2) i_x_0 (by decide)))
        have i3_x_0 : iv_R 1 9 x_0 := (i_x_0.cutLo (n := 1) (iv_lt_l (iv_nle c2) i_x1 (by decide)))
        refine lv_aload_n hx hb dX12_canRing_7 rfl (lv_at hl 1 rfl) ?_
        refine lv_iload_n hx hb dX12_canRing_8 rfl (lv_at hl 0 rfl) ?_
        refine lv_bipush (v := 6) hx hb dX12_canRing_9 (by decide) ?_
        refine iv_cVi X k_good k_mf_X12_ofBell k_im_X12_ofBell k_sel_X12_ofBell k_ml_X12_282 ft_X12 hB a_h0 sh_12 (As := [.int x1, .int 6]) (c_X12_ofBell l D tys base G h0 g_h0 r_h0 a_h0 x1 (i2_x1.wk (by decide)) 6 (q_6.wk (by decide))) ⟨rfl, rfl⟩ ⟨Nat.le_of_ble_eq_true rfl, Nat.le_of_ble_eq_true rfl⟩ ⟨Nat.le_of_ble_eq_true rfl, Nat.le_of_ble_eq_true rfl⟩ rfl rfl hl.1 (Nat.le_of_ble_eq_true rfl) dX12_canRing_11 (fun x5 G9 H locs hq hB => ?_)
        obtain ⟨rfl, i_x5, cp6, cp7⟩ := hq
        refine lv_if_ne (tgt := 55) hx hb dX12_canRing_14 (by decide) (fun c8 => ?_) (fun c8 => ?_)
        · skip
          refine iv_iinc hx hb i2_x1 (lo := 1) (hi := 9) (by decide) dX12_canRing_55 hl (k := 0) rfl (by decide) (fun x9 ls e_x9 i_x9 hl => ?_)
          have hl : lv_has ls 4 [(3, .int x9), (0, .ref h0), (1, .int x_0), (2, .int x_1)] := hl
          refine lv_goto (tgt := 2) hx hb dX12_canRing_58 (by decide) ?_
          exact ih_2 _ _ hB x9 (i_x9.wk (by decide)) (iv_mup (c := 1) i_x1 (by decide) (by decide) (by omega) hn_2) _ (lv_sub hl [0, 1, 2, 3] rfl)
        · skip
          have i9_x5 : iv_R 0 0 x5 := ((i_x5.cutLo (n := 0) (iv_eq_r c8 q_0).1).cutHi (n := 0) (iv_eq_r c8 q_0).2)
          refine lv_aload_n hx hb dX12_canRing_17 rfl (lv_at hl 1 rfl) ?_
          refine iv_getr X ft_X12 hB a_h0 sh_12 27 (by decide) rfl k_fl_X12_44 dX12_canRing_18 (fun b11 g_b11 r_b11 e_b11 a_b11 => ?_)
          refine lv_iload_n hx hb dX12_canRing_21 rfl (lv_at hl 0 rfl) ?_
          refine iv_ald X hB a_b11 sh_70 (iv_in i2_x1 (by decide)) dX12_canRing_22 (fun x12 e_x12 i_x12 => ?_)
          refine lv_iload_n hx hb dX12_canRing_23 rfl (lv_at hl 3 rfl) ?_
          refine lv_icmp_ne (tgt := 55) hx hb dX12_canRing_24 (by decide) (fun c13 => ?_) (fun c13 => ?_)
          · skip
            refine iv_iinc hx hb i2_x1 (lo := 1) (hi := 9) (by decide) dX12_canRing_55 hl (k := 0) rfl (by decide) (fun x14 ls e_x14 i_x14 hl => ?_)
            have hl : lv_has ls 4 [(3, .int x14), (0, .ref h0), (1, .int x_0), (2, .int x_1)] := hl
            refine lv_goto (tgt := 2) hx hb dX12_canRing_58 (by decide) ?_
            exact ih_2 _ _ hB x14 (i_x14.wk (by decide)) (iv_mup (c := 1) i_x1 (by decide) (by decide) (by omega) hn_2) _ (lv_sub hl [0, 1, 2, 3] rfl)
          · skip
            have i14_x12 : iv_R 0 2147483646 x12 := ((i_x12.cutLo (n := 0) (iv_eq_r c13 i_x_1).1).cutHi (n := 2147483646) (iv_eq_r c13 i_x_1).2)
            refine lv_aload_n hx hb dX12_canRing_27 rfl (lv_at hl 1 rfl) ?_
            refine lv_iload_n hx hb dX12_canRing_28 rfl (lv_at hl 0 rfl) ?_
            refine lv_iconst (v := 1) hx hb dX12_canRing_29 (by decide) ?_
            refine iv_cVi X k_good k_mf_X12_ofBell k_im_X12_ofBell k_sel_X12_ofBell k_ml_X12_282 ft_X12 hB a_h0 sh_12 (As := [.int x1, .int 1]) (c_X12_ofBell l D tys base G h0 g_h0 r_h0 a_h0 x1 (i2_x1.wk (by decide)) 1 (q_1.wk (by decide))) ⟨rfl, rfl⟩ ⟨Nat.le_of_ble_eq_true rfl, Nat.le_of_ble_eq_true rfl⟩ ⟨Nat.le_of_ble_eq_true rfl, Nat.le_of_ble_eq_true rfl⟩ rfl rfl hl.1 (Nat.le_of_ble_eq_true rfl) dX12_canRing_30 (fun x16 G9 H locs hq hB => ?_)
            obtain ⟨rfl, i_x16, cp17, cp18⟩ := hq
            have i18_x16 : iv_R 0 47 x16 := cp18 rfl
            refine lv_aload_n hx hb dX12_canRing_33 rfl (lv_at hl 1 rfl) ?_
            refine lv_iload_n hx hb dX12_canRing_34 rfl (lv_at hl 2 rfl) ?_
            refine lv_iconst (v := 1) hx hb dX12_canRing_35 (by decide) ?_
            refine iv_cVi X k_good k_mf_X12_ofBell k_im_X12_ofBell k_sel_X12_ofBell k_ml_X12_282 ft_X12 hB a_h0 sh_12 (As := [.int x_0, .int 1]) (c_X12_ofBell l D tys base G h0 g_h0 r_h0 a_h0 x_0 (i3_x_0.wk (by decide)) 1 (q_1.wk (by decide))) ⟨rfl, rfl⟩ ⟨Nat.le_of_ble_eq_true rfl, Nat.le_of_ble_eq_true rfl⟩ ⟨Nat.le_of_ble_eq_true rfl, Nat.le_of_ble_eq_true rfl⟩ rfl rfl hl.1 (Nat.le_of_ble_eq_true rfl) dX12_canRing_36 (fun x20 G9 H locs hq hB => ?_)
            obtain ⟨rfl, i_x20, cp21, cp22⟩ := hq
            have i22_x20 : iv_R 0 47 x20 := cp22 rfl
            refine iv_cSi X k_good k_mf_X12_apart k_st_X12_apart k_ml_X12_305 hB (As := [.int x16, .int x20]) (c_X12_apart l D tys base G x16 i18_x16 x20 i22_x20) ⟨rfl, rfl⟩ ⟨Nat.le_of_ble_eq_true rfl, Nat.le_of_ble_eq_true rfl⟩ ⟨Nat.le_of_ble_eq_true rfl, Nat.le_of_ble_eq_true rfl⟩ rfl rfl hl.1 (Nat.le_of_ble_eq_true rfl) dX12_canRing_39 (fun x24 G9 H locs hq hB => ?_)
            obtain ⟨rfl, i_x24⟩ := hq
            refine lv_aload_n hx hb dX12_canRing_42 rfl (lv_at hl 1 rfl) ?_
            refine iv_getr X ft_X12 hB a_h0 sh_12 0 (by decide) rfl k_fl_X12_7 dX12_canRing_43 (fun b25 g_b25 r_b25 e_b25 a_b25 => ?_)
            refine lv_sipush (v := 147) hx hb dX12_canRing_46 (by decide) ?_
            refine iv_wald_c X hB a_b25 q_147 (by decide) (lo := (-2147483648)) (hi' := 2147483647) (by decide) dX12_canRing_49 (fun x26 e_x26 i_x26 => ?_)
            refine lv_icmp_ge (tgt := 55) hx hb dX12_canRing_50 (by decide) (fun c27 => ?_) (fun c27 => ?_)
            · skip
              have i27_x26 : iv_R (-2147483648) 47 x26 := (i_x26.cutHi (n := 47) (iv_le_r c27 i_x24))
              refine iv_iinc hx hb i2_x1 (lo := 1) (hi := 9) (by decide) dX12_canRing_55 hl (k := 0) rfl (by decide) (fun x29 ls e_x29 i_x29 hl => ?_)
              have hl : lv_has ls 4 [(3, .int x29), (0, .ref h0), (1, .int x_0), (2, .int x_1)] := hl
              refine lv_goto (tgt := 2) hx hb dX12_canRing_58 (by decide) ?_
              exact ih_2 _ _ hB x29 (i_x29.wk (by decide)) (iv_mup (c := 1) i_x1 (by decide) (by decide) (by omega) hn_2) _ (lv_sub hl [0, 1, 2, 3] rfl)
            · skip
              have i29_x26 : iv_R (-46) 2147483647 x26 := (i_x26.cutLo (n := (-46)) (iv_lt_l (iv_nle c27) i_x24 (by decide)))
              refine lv_iconst (v := 0) hx hb dX12_canRing_53 (by decide) ?_
              exact iv_zret X hr hlocks hB (q_0.wk (by decide)) ⟨rfl, (q_0.wk (by decide)), fun _ => i3_x_0⟩ dX12_canRing_54
  exact L_2 _ _ _ hB 0 (q_0.wk (by decide)) (Nat.lt_succ_self _) _ (lv_sub hl [0, 1, 2, 3] rfl)
theorem dX12_canSet_0 : decode cX12_canSet 0 = .ok (.iload_n 1, 1) := by decide +kernel
theorem dX12_canSet_1 : decode cX12_canSet 1 = .ok (.tableswitch 135 0 5 #[39, 47, 55, 64, 88, 111], 39) := by decide +kernel
theorem dX12_canSet_40 : decode cX12_canSet 40 = .ok (.iload_n 3, 1) := by decide +kernel
theorem dX12_canSet_41 : decode cX12_canSet 41 = .ok (.iconst 0, 1) := by decide +kernel
theorem dX12_canSet_42 : decode cX12_canSet 42 = .ok (.bipush 12, 2) := by decide +kernel
theorem dX12_canSet_44 : decode cX12_canSet 44 = .ok (.invokestatic 56, 3) := by decide +kernel
theorem dX12_canSet_47 : decode cX12_canSet 47 = .ok (.ireturn, 1) := by decide +kernel
theorem dX12_canSet_48 : decode cX12_canSet 48 = .ok (.iload_n 3, 1) := by decide +kernel
theorem dX12_canSet_49 : decode cX12_canSet 49 = .ok (.iconst 0, 1) := by decide +kernel
theorem dX12_canSet_50 : decode cX12_canSet 50 = .ok (.bipush 9, 2) := by decide +kernel
theorem dX12_canSet_52 : decode cX12_canSet 52 = .ok (.invokestatic 56, 3) := by decide +kernel
theorem dX12_canSet_55 : decode cX12_canSet 55 = .ok (.ireturn, 1) := by decide +kernel
theorem dX12_canSet_56 : decode cX12_canSet 56 = .ok (.iload_n 3, 1) := by decide +kernel
theorem dX12_canSet_57 : decode cX12_canSet 57 = .ok (.iconst 0, 1) := by decide +kernel
theorem dX12_canSet_58 : decode cX12_canSet 58 = .ok (.sipush 1000, 3) := by decide +kernel
theorem dX12_canSet_61 : decode cX12_canSet 61 = .ok (.invokestatic 56, 3) := by decide +kernel
theorem dX12_canSet_64 : decode cX12_canSet 64 = .ok (.ireturn, 1) := by decide +kernel
theorem dX12_canSet_65 : decode cX12_canSet 65 = .ok (.aload_n 0, 1) := by decide +kernel
theorem dX12_canSet_66 : decode cX12_canSet 66 = .ok (.iload_n 2, 1) := by decide +kernel
theorem dX12_canSet_67 : decode cX12_canSet 67 = .ok (.invokevirtual 76, 3) := by decide +kernel
theorem dX12_canSet_70 : decode cX12_canSet 70 = .ok (.ifCond .eq 17, 3) := by decide +kernel
theorem dX12_canSet_73 : decode cX12_canSet 73 = .ok (.iload_n 3, 1) := by decide +kernel
theorem dX12_canSet_74 : decode cX12_canSet 74 = .ok (.iconst 0, 1) := by decide +kernel
theorem dX12_canSet_75 : decode cX12_canSet 75 = .ok (.bipush 99, 2) := by decide +kernel
theorem dX12_canSet_77 : decode cX12_canSet 77 = .ok (.invokestatic 56, 3) := by decide +kernel
theorem dX12_canSet_80 : decode cX12_canSet 80 = .ok (.ifCond .eq 7, 3) := by decide +kernel
theorem dX12_canSet_83 : decode cX12_canSet 83 = .ok (.iconst 1, 1) := by decide +kernel
theorem dX12_canSet_84 : decode cX12_canSet 84 = .ok (.goto 4, 3) := by decide +kernel
theorem dX12_canSet_87 : decode cX12_canSet 87 = .ok (.iconst 0, 1) := by decide +kernel
theorem dX12_canSet_88 : decode cX12_canSet 88 = .ok (.ireturn, 1) := by decide +kernel
theorem dX12_canSet_89 : decode cX12_canSet 89 = .ok (.aload_n 0, 1) := by decide +kernel
theorem dX12_canSet_90 : decode cX12_canSet 90 = .ok (.iload_n 2, 1) := by decide +kernel
theorem dX12_canSet_91 : decode cX12_canSet 91 = .ok (.invokevirtual 76, 3) := by decide +kernel
theorem dX12_canSet_94 : decode cX12_canSet 94 = .ok (.ifCond .eq 16, 3) := by decide +kernel
theorem dX12_canSet_97 : decode cX12_canSet 97 = .ok (.iload_n 3, 1) := by decide +kernel
theorem dX12_canSet_98 : decode cX12_canSet 98 = .ok (.iconst 0, 1) := by decide +kernel
theorem dX12_canSet_99 : decode cX12_canSet 99 = .ok (.iconst 1, 1) := by decide +kernel
theorem dX12_canSet_100 : decode cX12_canSet 100 = .ok (.invokestatic 56, 3) := by decide +kernel
theorem dX12_canSet_103 : decode cX12_canSet 103 = .ok (.ifCond .eq 7, 3) := by decide +kernel
theorem dX12_canSet_106 : decode cX12_canSet 106 = .ok (.iconst 1, 1) := by decide +kernel
theorem dX12_canSet_107 : decode cX12_canSet 107 = .ok (.goto 4, 3) := by decide +kernel
theorem dX12_canSet_110 : decode cX12_canSet 110 = .ok (.iconst 0, 1) := by decide +kernel
theorem dX12_canSet_111 : decode cX12_canSet 111 = .ok (.ireturn, 1) := by decide +kernel
theorem dX12_canSet_112 : decode cX12_canSet 112 = .ok (.aload_n 0, 1) := by decide +kernel
theorem dX12_canSet_113 : decode cX12_canSet 113 = .ok (.iload_n 2, 1) := by decide +kernel
theorem dX12_canSet_114 : decode cX12_canSet 114 = .ok (.invokevirtual 76, 3) := by decide +kernel
theorem dX12_canSet_117 : decode cX12_canSet 117 = .ok (.ifCond .eq 17, 3) := by decide +kernel
theorem dX12_canSet_120 : decode cX12_canSet 120 = .ok (.iload_n 3, 1) := by decide +kernel
theorem dX12_canSet_121 : decode cX12_canSet 121 = .ok (.iconst 0, 1) := by decide +kernel
theorem dX12_canSet_122 : decode cX12_canSet 122 = .ok (.bipush 47, 2) := by decide +kernel
theorem dX12_canSet_124 : decode cX12_canSet 124 = .ok (.invokestatic 56, 3) := by decide +kernel
theorem dX12_canSet_127 : decode cX12_canSet 127 = .ok (.ifCond .eq 7, 3) := by decide +kernel
theorem dX12_canSet_130 : decode cX12_canSet 130 = .ok (.iconst 1, 1) := by decide +kernel
theorem dX12_canSet_131 : decode cX12_canSet 131 = .ok (.goto 4, 3) := by decide +kernel
theorem dX12_canSet_134 : decode cX12_canSet 134 = .ok (.iconst 0, 1) := by decide +kernel
theorem dX12_canSet_135 : decode cX12_canSet 135 = .ok (.ireturn, 1) := by decide +kernel
theorem dX12_canSet_136 : decode cX12_canSet 136 = .ok (.iconst 0, 1) := by decide +kernel
theorem dX12_canSet_137 : decode cX12_canSet 137 = .ok (.ireturn, 1) := by decide +kernel
set_option maxHeartbeats 4000000 in
set_option maxRecDepth 100000 in
theorem c_X12_canSet (l : Launch) (D : va_G) (tys : List (ClassId × FieldType)) (base : Nat) (G : iv_G) (h0 : Nat) (g_h0 : Nat → Int32) (r_h0 : Nat → Nat) (a_h0 : G h0 = some (12, g_h0, r_h0)) (x_0 : Int32) (i_x_0 : iv_R (-2147483648) 2147483647 x_0) (x_1 : Int32) (i_x_1 : iv_R (-2147483648) 2147483647 x_1) (x_2 : Int32) (i_x_2 : iv_R (-2147483648) 2147483647 x_2) : Met l yX12_canSet (Cond.code yX12_canSet cX12_canSet 4 (some .boolean) :: iv_W0) ({ frames := 2, cells := 0, slots := 0, locals := 43 }) (iv_Pc iv_sh D classes tys base G [.ref h0, .int x_0, .int x_1, .int x_2]) (iv_Qi iv_sh D classes tys base (fun v G' => G = G' ∧ iv_R 0 1 v ∧ ((¬ v = 0 → iv_R 0 5 x_0) ∧ (¬ v = 0 → iv_R 0 1000 x_2)) ∧ (¬ v = 0 → 3 ≤ x_0.toInt → iv_R 0 9 x_1) ∧ (¬ v = 0 → 5 ≤ x_0.toInt → iv_R 0 47 x_2))) 0 0 (iv_A base) := by
  refine iv_head (by decide) (Nat.le_of_ble_eq_true rfl) ?_
  intro p e s m args below meth c ls X hr hlocks hname hB hl
  have X := X
  have hx := X.1.1
  have hb := X.1.2.1
  have hl : lv_has ls 4 [(0, .ref h0), (1, .int x_0), (2, .int x_1), (3, .int x_2)] := hl
  refine lv_iload_n hx hb dX12_canSet_0 rfl (lv_at hl 1 rfl) ?_
  by_cases w1 : x_0.toInt = 0
  · skip
    refine lv_tableIn (tgt := 40) hx hb dX12_canSet_1 (by omega) (by omega) (by rw [w1]; rfl) (by decide) ?_
    have w1i : iv_R 0 0 x_0 := iv_lit w1
    refine lv_iload_n hx hb dX12_canSet_40 rfl (lv_at hl 3 rfl) ?_
    refine lv_iconst (v := 0) hx hb dX12_canSet_41 (by decide) ?_
    refine lv_bipush (v := 12) hx hb dX12_canSet_42 (by decide) ?_
    refine iv_cSi X k_good k_mf_X12_isIn k_st_X12_isIn k_ml_X12_56 hB (As := [.int x_2, .int 0, .int 12]) (c_X12_isIn l D tys base G x_2 i_x_2 0 (q_0.wk (by decide)) 12 (q_12.wk (by decide))) ⟨rfl, rfl⟩ ⟨Nat.le_of_ble_eq_true rfl, Nat.le_of_ble_eq_true rfl⟩ ⟨Nat.le_of_ble_eq_true rfl, Nat.le_of_ble_eq_true rfl⟩ rfl rfl hl.1 (Nat.le_of_ble_eq_true rfl) dX12_canSet_44 (fun x2 G9 H locs hq hB => ?_)
    obtain ⟨rfl, i_x2, hp3⟩ := hq
    have k4 : ¬ x2 = 0 → iv_R 0 12 x_2 := fun h => ⟨iv_max i_x_2.1 (Int.le_trans q_0.1 (hp3.1 h).1) (by decide), iv_min i_x_2.2 (Int.le_trans (hp3.1 h).2 q_12.2) (by decide)⟩
    exact iv_zret X hr hlocks hB i_x2 ⟨rfl, i_x2, ⟨fun _ => (w1i.wk (by decide)), fun h => (k4 h).wk (by decide)⟩, fun _ h => absurd (Int.le_trans h w1i.2) (by decide), fun _ h => absurd (Int.le_trans h w1i.2) (by decide)⟩ dX12_canSet_47
  skip
  by_cases w5 : x_0.toInt = 1
  · skip
    refine lv_tableIn (tgt := 48) hx hb dX12_canSet_1 (by omega) (by omega) (by rw [w5]; rfl) (by decide) ?_
    have w5i : iv_R 1 1 x_0 := iv_lit w5
    refine lv_iload_n hx hb dX12_canSet_48 rfl (lv_at hl 3 rfl) ?_
    refine lv_iconst (v := 0) hx hb dX12_canSet_49 (by decide) ?_
    refine lv_bipush (v := 9) hx hb dX12_canSet_50 (by decide) ?_
    refine iv_cSi X k_good k_mf_X12_isIn k_st_X12_isIn k_ml_X12_56 hB (As := [.int x_2, .int 0, .int 9]) (c_X12_isIn l D tys base G x_2 i_x_2 0 (q_0.wk (by decide)) 9 (q_9.wk (by decide))) ⟨rfl, rfl⟩ ⟨Nat.le_of_ble_eq_true rfl, Nat.le_of_ble_eq_true rfl⟩ ⟨Nat.le_of_ble_eq_true rfl, Nat.le_of_ble_eq_true rfl⟩ rfl rfl hl.1 (Nat.le_of_ble_eq_true rfl) dX12_canSet_52 (fun x6 G9 H locs hq hB => ?_)
    obtain ⟨rfl, i_x6, hp7⟩ := hq
    have k8 : ¬ x6 = 0 → iv_R 0 9 x_2 := fun h => ⟨iv_max i_x_2.1 (Int.le_trans q_0.1 (hp7.1 h).1) (by decide), iv_min i_x_2.2 (Int.le_trans (hp7.1 h).2 q_9.2) (by decide)⟩
    exact iv_zret X hr hlocks hB i_x6 ⟨rfl, i_x6, ⟨fun _ => (w5i.wk (by decide)), fun h => (k8 h).wk (by decide)⟩, fun _ h => absurd (Int.le_trans h w5i.2) (by decide), fun _ h => absurd (Int.le_trans h w5i.2) (by decide)⟩ dX12_canSet_55
  skip
  by_cases w9 : x_0.toInt = 2
  · skip
    refine lv_tableIn (tgt := 56) hx hb dX12_canSet_1 (by omega) (by omega) (by rw [w9]; rfl) (by decide) ?_
    have w9i : iv_R 2 2 x_0 := iv_lit w9
    refine lv_iload_n hx hb dX12_canSet_56 rfl (lv_at hl 3 rfl) ?_
    refine lv_iconst (v := 0) hx hb dX12_canSet_57 (by decide) ?_
    refine lv_sipush (v := 1000) hx hb dX12_canSet_58 (by decide) ?_
    refine iv_cSi X k_good k_mf_X12_isIn k_st_X12_isIn k_ml_X12_56 hB (As := [.int x_2, .int 0, .int 1000]) (c_X12_isIn l D tys base G x_2 i_x_2 0 (q_0.wk (by decide)) 1000 (q_1000.wk (by decide))) ⟨rfl, rfl⟩ ⟨Nat.le_of_ble_eq_true rfl, Nat.le_of_ble_eq_true rfl⟩ ⟨Nat.le_of_ble_eq_true rfl, Nat.le_of_ble_eq_true rfl⟩ rfl rfl hl.1 (Nat.le_of_ble_eq_true rfl) dX12_canSet_61 (fun x10 G9 H locs hq hB => ?_)
    obtain ⟨rfl, i_x10, hp11⟩ := hq
    have k12 : ¬ x10 = 0 → iv_R 0 1000 x_2 := fun h => ⟨iv_max i_x_2.1 (Int.le_trans q_0.1 (hp11.1 h).1) (by decide), iv_min i_x_2.2 (Int.le_trans (hp11.1 h).2 q_1000.2) (by decide)⟩
    exact iv_zret X hr hlocks hB i_x10 ⟨rfl, i_x10, ⟨fun _ => (w9i.wk (by decide)), fun h => (k12 h).wk (by decide)⟩, fun _ h => absurd (Int.le_trans h w9i.2) (by decide), fun _ h => absurd (Int.le_trans h w9i.2) (by decide)⟩ dX12_canSet_64
  skip
  by_cases w13 : x_0.toInt = 3
  · skip
    refine lv_tableIn (tgt := 65) hx hb dX12_canSet_1 (by omega) (by omega) (by rw [w13]; rfl) (by decide) ?_
    have w13i : iv_R 3 3 x_0 := iv_lit w13
    refine lv_aload_n hx hb dX12_canSet_65 rfl (lv_at hl 0 rfl) ?_
    refine lv_iload_n hx hb dX12_canSet_66 rfl (lv_at hl 2 rfl) ?_
    refine iv_cVi X k_good k_mf_X12_isBell k_im_X12_isBell k_sel_X12_isBell k_ml_X12_76 ft_X12 hB a_h0 sh_12 (As := [.int x_1]) (c_X12_isBell l D tys base G h0 g_h0 r_h0 a_h0 x_1 i_x_1) ⟨rfl, rfl⟩ ⟨Nat.le_of_ble_eq_true rfl, Nat.le_of_ble_eq_true rfl⟩ ⟨Nat.le_of_ble_eq_true rfl, Nat.le_of_ble_eq_true rfl⟩ rfl rfl hl.1 (Nat.le_of_ble_eq_true rfl) dX12_canSet_67 (fun x14 G9 H locs hq hB => ?_)
    obtain ⟨rfl, i_x14, hp15⟩ := hq
    refine lv_if_eq (tgt := 87) hx hb dX12_canSet_70 (by decide) (fun c16 => ?_) (fun c16 => ?_)
    · skip
      have i16_x14 : iv_R 0 0 x14 := (i_x14.cutHi (n := 0) (iv_eq_r c16 q_0).2)
      refine lv_iconst (v := 0) hx hb dX12_canSet_87 (by decide) ?_
      exact iv_zret X hr hlocks hB (q_0.wk (by decide)) ⟨rfl, (q_0.wk (by decide)), ⟨fun _ => (w13i.wk (by decide)), fun h => absurd (iv_z q_0) h⟩, fun h _ => absurd (iv_z q_0) h, fun h _ => absurd (iv_z q_0) h⟩ dX12_canSet_88
    · skip
      have i17_x14 : iv_R 1 1 x14 := iv_ne_lo c16 i_x14 q_0 (by decide)
      have i18_x_1 : iv_R 0 9 x_1 := ((i_x_1.cutLo (n := 0) (hp15 c16).1).cutHi (n := 9) (hp15 c16).2)
      refine lv_iload_n hx hb dX12_canSet_73 rfl (lv_at hl 3 rfl) ?_
      refine lv_iconst (v := 0) hx hb dX12_canSet_74 (by decide) ?_
      refine lv_bipush (v := 99) hx hb dX12_canSet_75 (by decide) ?_
      refine iv_cSi X k_good k_mf_X12_isIn k_st_X12_isIn k_ml_X12_56 hB (As := [.int x_2, .int 0, .int 99]) (c_X12_isIn l D tys base G x_2 i_x_2 0 (q_0.wk (by decide)) 99 (q_99.wk (by decide))) ⟨rfl, rfl⟩ ⟨Nat.le_of_ble_eq_true rfl, Nat.le_of_ble_eq_true rfl⟩ ⟨Nat.le_of_ble_eq_true rfl, Nat.le_of_ble_eq_true rfl⟩ rfl rfl hl.1 (Nat.le_of_ble_eq_true rfl) dX12_canSet_77 (fun x20 G9 H locs hq hB => ?_)
      obtain ⟨rfl, i_x20, hp21⟩ := hq
      have k22 : ¬ x20 = 0 → iv_R 0 99 x_2 := fun h => ⟨iv_max i_x_2.1 (Int.le_trans q_0.1 (hp21.1 h).1) (by decide), iv_min i_x_2.2 (Int.le_trans (hp21.1 h).2 q_99.2) (by decide)⟩
      refine lv_if_eq (tgt := 87) hx hb dX12_canSet_80 (by decide) (fun c23 => ?_) (fun c23 => ?_)
      · skip
        have i23_x20 : iv_R 0 0 x20 := (i_x20.cutHi (n := 0) (iv_eq_r c23 q_0).2)
        refine lv_iconst (v := 0) hx hb dX12_canSet_87 (by decide) ?_
        exact iv_zret X hr hlocks hB (q_0.wk (by decide)) ⟨rfl, (q_0.wk (by decide)), ⟨fun _ => (w13i.wk (by decide)), fun h => absurd (iv_z q_0) h⟩, fun h _ => absurd (iv_z q_0) h, fun h _ => absurd (iv_z q_0) h⟩ dX12_canSet_88
      · skip
        have i24_x20 : iv_R 1 1 x20 := iv_ne_lo c23 i_x20 q_0 (by decide)
        have i25_x_2 : iv_R 0 99 x_2 := ((i_x_2.cutLo (n := 0) (k22 c23).1).cutHi (n := 99) (k22 c23).2)
        refine lv_iconst (v := 1) hx hb dX12_canSet_83 (by decide) ?_
        refine lv_goto (tgt := 88) hx hb dX12_canSet_84 (by decide) ?_
        exact iv_zret X hr hlocks hB (q_1.wk (by decide)) ⟨rfl, (q_1.wk (by decide)), ⟨fun _ => (w13i.wk (by decide)), fun _ => (i25_x_2.wk (by decide))⟩, fun _ _ => i18_x_1, fun _ h => absurd (Int.le_trans h w13i.2) (by decide)⟩ dX12_canSet_88
  skip
  by_cases w27 : x_0.toInt = 4
  · skip
    refine lv_tableIn (tgt := 89) hx hb dX12_canSet_1 (by omega) (by omega) (by rw [w27]; rfl) (by decide) ?_
    have w27i : iv_R 4 4 x_0 := iv_lit w27
    refine lv_aload_n hx hb dX12_canSet_89 rfl (lv_at hl 0 rfl) ?_
    refine lv_iload_n hx hb dX12_canSet_90 rfl (lv_at hl 2 rfl) ?_
    refine iv_cVi X k_good k_mf_X12_isBell k_im_X12_isBell k_sel_X12_isBell k_ml_X12_76 ft_X12 hB a_h0 sh_12 (As := [.int x_1]) (c_X12_isBell l D tys base G h0 g_h0 r_h0 a_h0 x_1 i_x_1) ⟨rfl, rfl⟩ ⟨Nat.le_of_ble_eq_true rfl, Nat.le_of_ble_eq_true rfl⟩ ⟨Nat.le_of_ble_eq_true rfl, Nat.le_of_ble_eq_true rfl⟩ rfl rfl hl.1 (Nat.le_of_ble_eq_true rfl) dX12_canSet_91 (fun x28 G9 H locs hq hB => ?_)
    obtain ⟨rfl, i_x28, hp29⟩ := hq
    refine lv_if_eq (tgt := 110) hx hb dX12_canSet_94 (by decide) (fun c30 => ?_) (fun c30 => ?_)
    · skip
      have i30_x28 : iv_R 0 0 x28 := (i_x28.cutHi (n := 0) (iv_eq_r c30 q_0).2)
      refine lv_iconst (v := 0) hx hb dX12_canSet_110 (by decide) ?_
      exact iv_zret X hr hlocks hB (q_0.wk (by decide)) ⟨rfl, (q_0.wk (by decide)), ⟨fun _ => (w27i.wk (by decide)), fun h => absurd (iv_z q_0) h⟩, fun h _ => absurd (iv_z q_0) h, fun h _ => absurd (iv_z q_0) h⟩ dX12_canSet_111
    · skip
      have i31_x28 : iv_R 1 1 x28 := iv_ne_lo c30 i_x28 q_0 (by decide)
      have i32_x_1 : iv_R 0 9 x_1 := ((i_x_1.cutLo (n := 0) (hp29 c30).1).cutHi (n := 9) (hp29 c30).2)
      refine lv_iload_n hx hb dX12_canSet_97 rfl (lv_at hl 3 rfl) ?_
      refine lv_iconst (v := 0) hx hb dX12_canSet_98 (by decide) ?_
      refine lv_iconst (v := 1) hx hb dX12_canSet_99 (by decide) ?_
      refine iv_cSi X k_good k_mf_X12_isIn k_st_X12_isIn k_ml_X12_56 hB (As := [.int x_2, .int 0, .int 1]) (c_X12_isIn l D tys base G x_2 i_x_2 0 (q_0.wk (by decide)) 1 (q_1.wk (by decide))) ⟨rfl, rfl⟩ ⟨Nat.le_of_ble_eq_true rfl, Nat.le_of_ble_eq_true rfl⟩ ⟨Nat.le_of_ble_eq_true rfl, Nat.le_of_ble_eq_true rfl⟩ rfl rfl hl.1 (Nat.le_of_ble_eq_true rfl) dX12_canSet_100 (fun x34 G9 H locs hq hB => ?_)
      obtain ⟨rfl, i_x34, hp35⟩ := hq
      have k36 : ¬ x34 = 0 → iv_R 0 1 x_2 := fun h => ⟨iv_max i_x_2.1 (Int.le_trans q_0.1 (hp35.1 h).1) (by decide), iv_min i_x_2.2 (Int.le_trans (hp35.1 h).2 q_1.2) (by decide)⟩
      refine lv_if_eq (tgt := 110) hx hb dX12_canSet_103 (by decide) (fun c37 => ?_) (fun c37 => ?_)
      · skip
        have i37_x34 : iv_R 0 0 x34 := (i_x34.cutHi (n := 0) (iv_eq_r c37 q_0).2)
        refine lv_iconst (v := 0) hx hb dX12_canSet_110 (by decide) ?_
        exact iv_zret X hr hlocks hB (q_0.wk (by decide)) ⟨rfl, (q_0.wk (by decide)), ⟨fun _ => (w27i.wk (by decide)), fun h => absurd (iv_z q_0) h⟩, fun h _ => absurd (iv_z q_0) h, fun h _ => absurd (iv_z q_0) h⟩ dX12_canSet_111
      · skip
        have i38_x34 : iv_R 1 1 x34 := iv_ne_lo c37 i_x34 q_0 (by decide)
        have i39_x_2 : iv_R 0 1 x_2 := ((i_x_2.cutLo (n := 0) (k36 c37).1).cutHi (n := 1) (k36 c37).2)
        refine lv_iconst (v := 1) hx hb dX12_canSet_106 (by decide) ?_
        refine lv_goto (tgt := 111) hx hb dX12_canSet_107 (by decide) ?_
        exact iv_zret X hr hlocks hB (q_1.wk (by decide)) ⟨rfl, (q_1.wk (by decide)), ⟨fun _ => (w27i.wk (by decide)), fun _ => (i39_x_2.wk (by decide))⟩, fun _ _ => i32_x_1, fun _ h => absurd (Int.le_trans h w27i.2) (by decide)⟩ dX12_canSet_111
  skip
  by_cases w41 : x_0.toInt = 5
  · skip
    refine lv_tableIn (tgt := 112) hx hb dX12_canSet_1 (by omega) (by omega) (by rw [w41]; rfl) (by decide) ?_
    have w41i : iv_R 5 5 x_0 := iv_lit w41
    refine lv_aload_n hx hb dX12_canSet_112 rfl (lv_at hl 0 rfl) ?_
    refine lv_iload_n hx hb dX12_canSet_113 rfl (lv_at hl 2 rfl) ?_
    refine iv_cVi X k_good k_mf_X12_isBell k_im_X12_isBell k_sel_X12_isBell k_ml_X12_76 ft_X12 hB a_h0 sh_12 (As := [.int x_1]) (c_X12_isBell l D tys base G h0 g_h0 r_h0 a_h0 x_1 i_x_1) ⟨rfl, rfl⟩ ⟨Nat.le_of_ble_eq_true rfl, Nat.le_of_ble_eq_true rfl⟩ ⟨Nat.le_of_ble_eq_true rfl, Nat.le_of_ble_eq_true rfl⟩ rfl rfl hl.1 (Nat.le_of_ble_eq_true rfl) dX12_canSet_114 (fun x42 G9 H locs hq hB => ?_)
    obtain ⟨rfl, i_x42, hp43⟩ := hq
    refine lv_if_eq (tgt := 134) hx hb dX12_canSet_117 (by decide) (fun c44 => ?_) (fun c44 => ?_)
    · skip
      have i44_x42 : iv_R 0 0 x42 := (i_x42.cutHi (n := 0) (iv_eq_r c44 q_0).2)
      refine lv_iconst (v := 0) hx hb dX12_canSet_134 (by decide) ?_
      exact iv_zret X hr hlocks hB (q_0.wk (by decide)) ⟨rfl, (q_0.wk (by decide)), ⟨fun _ => (w41i.wk (by decide)), fun h => absurd (iv_z q_0) h⟩, fun h _ => absurd (iv_z q_0) h, fun h _ => absurd (iv_z q_0) h⟩ dX12_canSet_135
    · skip
      have i45_x42 : iv_R 1 1 x42 := iv_ne_lo c44 i_x42 q_0 (by decide)
      have i46_x_1 : iv_R 0 9 x_1 := ((i_x_1.cutLo (n := 0) (hp43 c44).1).cutHi (n := 9) (hp43 c44).2)
      refine lv_iload_n hx hb dX12_canSet_120 rfl (lv_at hl 3 rfl) ?_
      refine lv_iconst (v := 0) hx hb dX12_canSet_121 (by decide) ?_
      refine lv_bipush (v := 47) hx hb dX12_canSet_122 (by decide) ?_
      refine iv_cSi X k_good k_mf_X12_isIn k_st_X12_isIn k_ml_X12_56 hB (As := [.int x_2, .int 0, .int 47]) (c_X12_isIn l D tys base G x_2 i_x_2 0 (q_0.wk (by decide)) 47 (q_47.wk (by decide))) ⟨rfl, rfl⟩ ⟨Nat.le_of_ble_eq_true rfl, Nat.le_of_ble_eq_true rfl⟩ ⟨Nat.le_of_ble_eq_true rfl, Nat.le_of_ble_eq_true rfl⟩ rfl rfl hl.1 (Nat.le_of_ble_eq_true rfl) dX12_canSet_124 (fun x48 G9 H locs hq hB => ?_)
      obtain ⟨rfl, i_x48, hp49⟩ := hq
      have k50 : ¬ x48 = 0 → iv_R 0 47 x_2 := fun h => ⟨iv_max i_x_2.1 (Int.le_trans q_0.1 (hp49.1 h).1) (by decide), iv_min i_x_2.2 (Int.le_trans (hp49.1 h).2 q_47.2) (by decide)⟩
      refine lv_if_eq (tgt := 134) hx hb dX12_canSet_127 (by decide) (fun c51 => ?_) (fun c51 => ?_)
      · skip
        have i51_x48 : iv_R 0 0 x48 := (i_x48.cutHi (n := 0) (iv_eq_r c51 q_0).2)
        refine lv_iconst (v := 0) hx hb dX12_canSet_134 (by decide) ?_
        exact iv_zret X hr hlocks hB (q_0.wk (by decide)) ⟨rfl, (q_0.wk (by decide)), ⟨fun _ => (w41i.wk (by decide)), fun h => absurd (iv_z q_0) h⟩, fun h _ => absurd (iv_z q_0) h, fun h _ => absurd (iv_z q_0) h⟩ dX12_canSet_135
      · skip
        have i52_x48 : iv_R 1 1 x48 := iv_ne_lo c51 i_x48 q_0 (by decide)
        have i53_x_2 : iv_R 0 47 x_2 := ((i_x_2.cutLo (n := 0) (k50 c51).1).cutHi (n := 47) (k50 c51).2)
        refine lv_iconst (v := 1) hx hb dX12_canSet_130 (by decide) ?_
        refine lv_goto (tgt := 135) hx hb dX12_canSet_131 (by decide) ?_
        exact iv_zret X hr hlocks hB (q_1.wk (by decide)) ⟨rfl, (q_1.wk (by decide)), ⟨fun _ => (w41i.wk (by decide)), fun _ => (i53_x_2.wk (by decide))⟩, fun _ _ => i46_x_1, fun _ _ => i53_x_2⟩ dX12_canSet_135
  skip
  refine lv_tableOut (tgt := 136) hx hb dX12_canSet_1 (by have := i_x_0.1; have := i_x_0.2; omega) (by decide) ?_
  refine lv_iconst (v := 0) hx hb dX12_canSet_136 (by decide) ?_
  exact iv_zret X hr hlocks hB (q_0.wk (by decide)) ⟨rfl, (q_0.wk (by decide)), ⟨fun h => absurd (iv_z q_0) h, fun h => absurd (iv_z q_0) h⟩, fun h _ => absurd (iv_z q_0) h, fun h _ => absurd (iv_z q_0) h⟩ dX12_canSet_137
theorem dX12_ofChild_0 : decode cX12_ofChild 0 = .ok (.aload_n 0, 1) := by decide +kernel
theorem dX12_ofChild_1 : decode cX12_ofChild 1 = .ok (.getfield 7, 3) := by decide +kernel
theorem dX12_ofChild_4 : decode cX12_ofChild 4 = .ok (.iconst 5, 1) := by decide +kernel
theorem dX12_ofChild_5 : decode cX12_ofChild 5 = .ok (.iconst 3, 1) := by decide +kernel
theorem dX12_ofChild_6 : decode cX12_ofChild 6 = .ok (.iload_n 1, 1) := by decide +kernel
theorem dX12_ofChild_7 : decode cX12_ofChild 7 = .ok (.imul, 1) := by decide +kernel
theorem dX12_ofChild_8 : decode cX12_ofChild 8 = .ok (.iadd, 1) := by decide +kernel
theorem dX12_ofChild_9 : decode cX12_ofChild 9 = .ok (.iload_n 2, 1) := by decide +kernel
theorem dX12_ofChild_10 : decode cX12_ofChild 10 = .ok (.iadd, 1) := by decide +kernel
theorem dX12_ofChild_11 : decode cX12_ofChild 11 = .ok (.iaload, 1) := by decide +kernel
theorem dX12_ofChild_12 : decode cX12_ofChild 12 = .ok (.ireturn, 1) := by decide +kernel
set_option maxHeartbeats 4000000 in
set_option maxRecDepth 100000 in
theorem c_X12_ofChild (l : Launch) (D : va_G) (tys : List (ClassId × FieldType)) (base : Nat) (G : iv_G) (h0 : Nat) (g_h0 : Nat → Int32) (r_h0 : Nat → Nat) (a_h0 : G h0 = some (12, g_h0, r_h0)) (x_0 : Int32) (i_x_0 : iv_R 0 19 x_0) (x_1 : Int32) (i_x_1 : iv_R 0 2 x_1) : Met l yX12_ofChild (Cond.code yX12_ofChild cX12_ofChild 3 (some .int) :: iv_W0) ({ frames := 0, cells := 0, slots := 0, locals := 0 }) (iv_Pc iv_sh D classes tys base G [.ref h0, .int x_0, .int x_1]) (iv_Qi iv_sh D classes tys base (fun v G' => G = G' ∧ iv_R (-2147483648) 2147483647 v)) 0 0 (iv_A base) := by
  refine iv_head (by decide) (Nat.le_of_ble_eq_true rfl) ?_
  intro p e s m args below meth c ls X hr hlocks hname hB hl
  have X := X
  have hx := X.1.1
  have hb := X.1.2.1
  have hl : lv_has ls 3 [(0, .ref h0), (1, .int x_0), (2, .int x_1)] := hl
  refine lv_aload_n hx hb dX12_ofChild_0 rfl (lv_at hl 0 rfl) ?_
  refine iv_getr X ft_X12 hB a_h0 sh_12 0 (by decide) rfl k_fl_X12_7 dX12_ofChild_1 (fun b1 g_b1 r_b1 e_b1 a_b1 => ?_)
  refine lv_iconst (v := 5) hx hb dX12_ofChild_4 (by decide) ?_
  refine lv_iconst (v := 3) hx hb dX12_ofChild_5 (by decide) ?_
  refine lv_iload_n hx hb dX12_ofChild_6 rfl (lv_at hl 1 rfl) ?_
  refine iv_imul hx hb q_3 i_x_0 (lo := 0) (hi := 57) (by decide) dX12_ofChild_7 (fun x2 e_x2 i_x2 => ?_)
  refine iv_iadd hx hb q_5 i_x2 (lo := 5) (hi := 62) (by decide) dX12_ofChild_8 (fun x3 e_x3 i_x3 => ?_)
  refine lv_iload_n hx hb dX12_ofChild_9 rfl (lv_at hl 2 rfl) ?_
  refine iv_iadd hx hb i_x3 i_x_1 (lo := 5) (hi := 64) (by decide) dX12_ofChild_10 (fun x4 e_x4 i_x4 => ?_)
  refine iv_wald_f X hB a_b1 i_x4 (by decide) dX12_ofChild_11 (fun x5 e_x5 i_x5 => ?_)
  exact iv_iret X hr hlocks hB ⟨rfl, i_x5⟩ dX12_ofChild_12
theorem dX12_child_0 : decode cX12_child 0 = .ok (.aload_n 0, 1) := by decide +kernel
theorem dX12_child_1 : decode cX12_child 1 = .ok (.iload_n 1, 1) := by decide +kernel
theorem dX12_child_2 : decode cX12_child 2 = .ok (.invokevirtual 338, 3) := by decide +kernel
theorem dX12_child_5 : decode cX12_child 5 = .ok (.ifCond .eq 21, 3) := by decide +kernel
theorem dX12_child_8 : decode cX12_child 8 = .ok (.iload_n 2, 1) := by decide +kernel
theorem dX12_child_9 : decode cX12_child 9 = .ok (.iconst 0, 1) := by decide +kernel
theorem dX12_child_10 : decode cX12_child 10 = .ok (.iconst 2, 1) := by decide +kernel
theorem dX12_child_11 : decode cX12_child 11 = .ok (.invokestatic 56, 3) := by decide +kernel
theorem dX12_child_14 : decode cX12_child 14 = .ok (.ifCond .eq 12, 3) := by decide +kernel
theorem dX12_child_17 : decode cX12_child 17 = .ok (.aload_n 0, 1) := by decide +kernel
theorem dX12_child_18 : decode cX12_child 18 = .ok (.iload_n 1, 1) := by decide +kernel
theorem dX12_child_19 : decode cX12_child 19 = .ok (.iload_n 2, 1) := by decide +kernel
theorem dX12_child_20 : decode cX12_child 20 = .ok (.invokevirtual 335, 3) := by decide +kernel
theorem dX12_child_23 : decode cX12_child 23 = .ok (.goto 4, 3) := by decide +kernel
theorem dX12_child_26 : decode cX12_child 26 = .ok (.iconst (-1), 1) := by decide +kernel
theorem dX12_child_27 : decode cX12_child 27 = .ok (.ireturn, 1) := by decide +kernel
set_option maxHeartbeats 4000000 in
set_option maxRecDepth 100000 in
theorem c_X12_child (l : Launch) (D : va_G) (tys : List (ClassId × FieldType)) (base : Nat) (G : iv_G) (h0 : Nat) (g_h0 : Nat → Int32) (r_h0 : Nat → Nat) (a_h0 : G h0 = some (12, g_h0, r_h0)) (x_0 : Int32) (i_x_0 : iv_R (-2147483648) 2147483647 x_0) (x_1 : Int32) (i_x_1 : iv_R (-2147483648) 2147483647 x_1) : Met l yX12_child (Cond.code yX12_child cX12_child 3 (some .int) :: iv_W0) ({ frames := 2, cells := 0, slots := 0, locals := 43 }) (iv_Pc iv_sh D classes tys base G [.ref h0, .int x_0, .int x_1]) (iv_Qi iv_sh D classes tys base (fun v G' => G = G' ∧ iv_R (-2147483648) 2147483647 v)) 0 0 (iv_A base) := by
  refine iv_head (by decide) (Nat.le_of_ble_eq_true rfl) ?_
  intro p e s m args below meth c ls X hr hlocks hname hB hl
  have X := X
  have hx := X.1.1
  have hb := X.1.2.1
  have hl : lv_has ls 3 [(0, .ref h0), (1, .int x_0), (2, .int x_1)] := hl
  refine lv_aload_n hx hb dX12_child_0 rfl (lv_at hl 0 rfl) ?_
  refine lv_iload_n hx hb dX12_child_1 rfl (lv_at hl 1 rfl) ?_
  refine iv_cVi X k_good k_mf_X12_isChild k_im_X12_isChild k_sel_X12_isChild k_ml_X12_338 ft_X12 hB a_h0 sh_12 (As := [.int x_0]) (c_X12_isChild l D tys base G h0 g_h0 r_h0 a_h0 x_0 i_x_0) ⟨rfl, rfl⟩ ⟨Nat.le_of_ble_eq_true rfl, Nat.le_of_ble_eq_true rfl⟩ ⟨Nat.le_of_ble_eq_true rfl, Nat.le_of_ble_eq_true rfl⟩ rfl rfl hl.1 (Nat.le_of_ble_eq_true rfl) dX12_child_2 (fun x1 G9 H locs hq hB => ?_)
  obtain ⟨rfl, i_x1, hp2⟩ := hq
  refine lv_if_eq (tgt := 26) hx hb dX12_child_5 (by decide) (fun c3 => ?_) (fun c3 => ?_)
  · skip
    have i3_x1 : iv_R 0 0 x1 := (i_x1.cutHi (n := 0) (iv_eq_r c3 q_0).2)
    refine lv_iconst (v := (-1)) hx hb dX12_child_26 (by decide) ?_
    exact iv_iret X hr hlocks hB ⟨rfl, (q_n1.wk (by decide))⟩ dX12_child_27
  · skip
    have i4_x1 : iv_R 1 1 x1 := iv_ne_lo c3 i_x1 q_0 (by decide)
    have i5_x_0 : iv_R 0 19 x_0 := ((i_x_0.cutLo (n := 0) (hp2 c3).1).cutHi (n := 19) (hp2 c3).2)
    refine lv_iload_n hx hb dX12_child_8 rfl (lv_at hl 2 rfl) ?_
    refine lv_iconst (v := 0) hx hb dX12_child_9 (by decide) ?_
    refine lv_iconst (v := 2) hx hb dX12_child_10 (by decide) ?_
    refine iv_cSi X k_good k_mf_X12_isIn k_st_X12_isIn k_ml_X12_56 hB (As := [.int x_1, .int 0, .int 2]) (c_X12_isIn l D tys base G x_1 i_x_1 0 (q_0.wk (by decide)) 2 (q_2.wk (by decide))) ⟨rfl, rfl⟩ ⟨Nat.le_of_ble_eq_true rfl, Nat.le_of_ble_eq_true rfl⟩ ⟨Nat.le_of_ble_eq_true rfl, Nat.le_of_ble_eq_true rfl⟩ rfl rfl hl.1 (Nat.le_of_ble_eq_true rfl) dX12_child_11 (fun x7 G9 H locs hq hB => ?_)
    obtain ⟨rfl, i_x7, hp8⟩ := hq
    have k9 : ¬ x7 = 0 → iv_R 0 2 x_1 := fun h => ⟨iv_max i_x_1.1 (Int.le_trans q_0.1 (hp8.1 h).1) (by decide), iv_min i_x_1.2 (Int.le_trans (hp8.1 h).2 q_2.2) (by decide)⟩
    refine lv_if_eq (tgt := 26) hx hb dX12_child_14 (by decide) (fun c10 => ?_) (fun c10 => ?_)
    · skip
      have i10_x7 : iv_R 0 0 x7 := (i_x7.cutHi (n := 0) (iv_eq_r c10 q_0).2)
      refine lv_iconst (v := (-1)) hx hb dX12_child_26 (by decide) ?_
      exact iv_iret X hr hlocks hB ⟨rfl, (q_n1.wk (by decide))⟩ dX12_child_27
    · skip
      have i11_x7 : iv_R 1 1 x7 := iv_ne_lo c10 i_x7 q_0 (by decide)
      have i12_x_1 : iv_R 0 2 x_1 := ((i_x_1.cutLo (n := 0) (k9 c10).1).cutHi (n := 2) (k9 c10).2)
      refine lv_aload_n hx hb dX12_child_17 rfl (lv_at hl 0 rfl) ?_
      refine lv_iload_n hx hb dX12_child_18 rfl (lv_at hl 1 rfl) ?_
      refine lv_iload_n hx hb dX12_child_19 rfl (lv_at hl 2 rfl) ?_
      refine iv_cVi X k_good k_mf_X12_ofChild k_im_X12_ofChild k_sel_X12_ofChild k_ml_X12_335 ft_X12 hB a_h0 sh_12 (As := [.int x_0, .int x_1]) (c_X12_ofChild l D tys base G h0 g_h0 r_h0 a_h0 x_0 i5_x_0 x_1 i12_x_1) ⟨rfl, rfl⟩ ⟨Nat.le_of_ble_eq_true rfl, Nat.le_of_ble_eq_true rfl⟩ ⟨Nat.le_of_ble_eq_true rfl, Nat.le_of_ble_eq_true rfl⟩ rfl rfl hl.1 (Nat.le_of_ble_eq_true rfl) dX12_child_20 (fun x14 G9 H locs hq hB => ?_)
      obtain ⟨rfl, i_x14⟩ := hq
      refine lv_goto (tgt := 27) hx hb dX12_child_23 (by decide) ?_
      exact iv_iret X hr hlocks hB ⟨rfl, i_x14⟩ dX12_child_27
theorem dX12_isTower_0 : decode cX12_isTower 0 = .ok (.iload_n 0, 1) := by decide +kernel
theorem dX12_isTower_1 : decode cX12_isTower 1 = .ok (.iconst 0, 1) := by decide +kernel
theorem dX12_isTower_2 : decode cX12_isTower 2 = .ok (.iconst 3, 1) := by decide +kernel
theorem dX12_isTower_3 : decode cX12_isTower 3 = .ok (.invokestatic 56, 3) := by decide +kernel
theorem dX12_isTower_6 : decode cX12_isTower 6 = .ok (.ireturn, 1) := by decide +kernel
set_option maxHeartbeats 4000000 in
set_option maxRecDepth 100000 in
theorem c_X12_isTower (l : Launch) (D : va_G) (tys : List (ClassId × FieldType)) (base : Nat) (G : iv_G) (x_0 : Int32) (i_x_0 : iv_R (-2147483648) 2147483647 x_0) : Met l yX12_isTower (Cond.code yX12_isTower cX12_isTower 1 (some .boolean) :: iv_W0) ({ frames := 1, cells := 0, slots := 0, locals := 22 }) (iv_Pc iv_sh D classes tys base G [.int x_0]) (iv_Qi iv_sh D classes tys base (fun v G' => G = G' ∧ iv_R 0 1 v ∧ (¬ v = 0 → iv_R 0 3 x_0))) 0 0 (iv_A base) := by
  refine iv_head (by decide) (Nat.le_of_ble_eq_true rfl) ?_
  intro p e s m args below meth c ls X hr hlocks hname hB hl
  have X := X
  have hx := X.1.1
  have hb := X.1.2.1
  have hl : lv_has ls 1 [(0, .int x_0)] := hl
  refine lv_iload_n hx hb dX12_isTower_0 rfl (lv_at hl 0 rfl) ?_
  refine lv_iconst (v := 0) hx hb dX12_isTower_1 (by decide) ?_
  refine lv_iconst (v := 3) hx hb dX12_isTower_2 (by decide) ?_
  refine iv_cSi X k_good k_mf_X12_isIn k_st_X12_isIn k_ml_X12_56 hB (As := [.int x_0, .int 0, .int 3]) (c_X12_isIn l D tys base G x_0 i_x_0 0 (q_0.wk (by decide)) 3 (q_3.wk (by decide))) ⟨rfl, rfl⟩ ⟨Nat.le_of_ble_eq_true rfl, Nat.le_of_ble_eq_true rfl⟩ ⟨Nat.le_of_ble_eq_true rfl, Nat.le_of_ble_eq_true rfl⟩ rfl rfl hl.1 (Nat.le_of_ble_eq_true rfl) dX12_isTower_3 (fun x1 G9 H locs hq hB => ?_)
  obtain ⟨rfl, i_x1, hp2⟩ := hq
  have k3 : ¬ x1 = 0 → iv_R 0 3 x_0 := fun h => ⟨iv_max i_x_0.1 (Int.le_trans q_0.1 (hp2.1 h).1) (by decide), iv_min i_x_0.2 (Int.le_trans (hp2.1 h).2 q_3.2) (by decide)⟩
  exact iv_zret X hr hlocks hB i_x1 ⟨rfl, i_x1, fun h => (k3 h).wk (by decide)⟩ dX12_isTower_6
theorem dX12_heard_0 : decode cX12_heard 0 = .ok (.iload_n 1, 1) := by decide +kernel
theorem dX12_heard_1 : decode cX12_heard 1 = .ok (.invokestatic 68, 3) := by decide +kernel
theorem dX12_heard_4 : decode cX12_heard 4 = .ok (.ifCond .eq 21, 3) := by decide +kernel
theorem dX12_heard_7 : decode cX12_heard 7 = .ok (.iload_n 2, 1) := by decide +kernel
theorem dX12_heard_8 : decode cX12_heard 8 = .ok (.invokestatic 371, 3) := by decide +kernel
theorem dX12_heard_11 : decode cX12_heard 11 = .ok (.ifCond .eq 14, 3) := by decide +kernel
theorem dX12_heard_14 : decode cX12_heard 14 = .ok (.iload_n 3, 1) := by decide +kernel
theorem dX12_heard_15 : decode cX12_heard 15 = .ok (.iconst 1, 1) := by decide +kernel
theorem dX12_heard_16 : decode cX12_heard 16 = .ok (.sipush 999, 3) := by decide +kernel
theorem dX12_heard_19 : decode cX12_heard 19 = .ok (.invokestatic 56, 3) := by decide +kernel
theorem dX12_heard_22 : decode cX12_heard 22 = .ok (.ifCond .ne 5, 3) := by decide +kernel
theorem dX12_heard_25 : decode cX12_heard 25 = .ok (.iconst (-1), 1) := by decide +kernel
theorem dX12_heard_26 : decode cX12_heard 26 = .ok (.ireturn, 1) := by decide +kernel
theorem dX12_heard_27 : decode cX12_heard 27 = .ok (.iconst 0, 1) := by decide +kernel
theorem dX12_heard_28 : decode cX12_heard 28 = .ok (.istore 4, 2) := by decide +kernel
theorem dX12_heard_30 : decode cX12_heard 30 = .ok (.iconst 0, 1) := by decide +kernel
theorem dX12_heard_31 : decode cX12_heard 31 = .ok (.istore 5, 2) := by decide +kernel
theorem dX12_heard_33 : decode cX12_heard 33 = .ok (.iload 5, 2) := by decide +kernel
theorem dX12_heard_35 : decode cX12_heard 35 = .ok (.aload_n 0, 1) := by decide +kernel
theorem dX12_heard_36 : decode cX12_heard 36 = .ok (.getfield 7, 3) := by decide +kernel
theorem dX12_heard_39 : decode cX12_heard 39 = .ok (.sipush 146, 3) := by decide +kernel
theorem dX12_heard_42 : decode cX12_heard 42 = .ok (.iaload, 1) := by decide +kernel
theorem dX12_heard_43 : decode cX12_heard 43 = .ok (.if_icmp .ge 44, 3) := by decide +kernel
theorem dX12_heard_46 : decode cX12_heard 46 = .ok (.iload 4, 2) := by decide +kernel
theorem dX12_heard_48 : decode cX12_heard 48 = .ok (.aload_n 0, 1) := by decide +kernel
theorem dX12_heard_49 : decode cX12_heard 49 = .ok (.iload 5, 2) := by decide +kernel
theorem dX12_heard_51 : decode cX12_heard 51 = .ok (.iload_n 2, 1) := by decide +kernel
theorem dX12_heard_52 : decode cX12_heard 52 = .ok (.invokevirtual 302, 3) := by decide +kernel
theorem dX12_heard_55 : decode cX12_heard 55 = .ok (.ifCond .eq 22, 3) := by decide +kernel
theorem dX12_heard_58 : decode cX12_heard 58 = .ok (.aload_n 0, 1) := by decide +kernel
theorem dX12_heard_59 : decode cX12_heard 59 = .ok (.iload 5, 2) := by decide +kernel
theorem dX12_heard_61 : decode cX12_heard 61 = .ok (.iload_n 1, 1) := by decide +kernel
theorem dX12_heard_62 : decode cX12_heard 62 = .ok (.iload_n 2, 1) := by decide +kernel
theorem dX12_heard_63 : decode cX12_heard 63 = .ok (.invokevirtual 308, 3) := by decide +kernel
theorem dX12_heard_66 : decode cX12_heard 66 = .ok (.iload_n 3, 1) := by decide +kernel
theorem dX12_heard_67 : decode cX12_heard 67 = .ok (.if_icmp .lt 10, 3) := by decide +kernel
theorem dX12_heard_70 : decode cX12_heard 70 = .ok (.iconst 1, 1) := by decide +kernel
theorem dX12_heard_71 : decode cX12_heard 71 = .ok (.iload 5, 2) := by decide +kernel
theorem dX12_heard_73 : decode cX12_heard 73 = .ok (.ishl, 1) := by decide +kernel
theorem dX12_heard_74 : decode cX12_heard 74 = .ok (.goto 4, 3) := by decide +kernel
theorem dX12_heard_77 : decode cX12_heard 77 = .ok (.iconst 0, 1) := by decide +kernel
theorem dX12_heard_78 : decode cX12_heard 78 = .ok (.ior, 1) := by decide +kernel
theorem dX12_heard_79 : decode cX12_heard 79 = .ok (.istore 4, 2) := by decide +kernel
theorem dX12_heard_81 : decode cX12_heard 81 = .ok (.iinc 5 1, 3) := by decide +kernel
theorem dX12_heard_84 : decode cX12_heard 84 = .ok (.goto (-51), 3) := by decide +kernel
theorem dX12_heard_87 : decode cX12_heard 87 = .ok (.iload 4, 2) := by decide +kernel
theorem dX12_heard_89 : decode cX12_heard 89 = .ok (.ireturn, 1) := by decide +kernel
set_option maxHeartbeats 4000000 in
set_option maxRecDepth 100000 in
theorem c_X12_heard (l : Launch) (D : va_G) (tys : List (ClassId × FieldType)) (base : Nat) (G : iv_G) (h0 : Nat) (g_h0 : Nat → Int32) (r_h0 : Nat → Nat) (a_h0 : G h0 = some (12, g_h0, r_h0)) (x_0 : Int32) (i_x_0 : iv_R (-2147483648) 2147483647 x_0) (x_1 : Int32) (i_x_1 : iv_R (-2147483648) 2147483647 x_1) (x_2 : Int32) (i_x_2 : iv_R (-2147483648) 2147483647 x_2) : Met l yX12_heard (Cond.code yX12_heard cX12_heard 6 (some .int) :: iv_W0) ({ frames := 5, cells := 0, slots := 0, locals := 119 }) (iv_Pc iv_sh D classes tys base G [.ref h0, .int x_0, .int x_1, .int x_2]) (iv_Qi iv_sh D classes tys base (fun v G' => iv_Md [67, 68] G G' ∧ iv_R (-1) 2047 v)) 0 0 (iv_A base) := by
  refine iv_head (by decide) (Nat.le_of_ble_eq_true rfl) ?_
  intro p e s m args below meth c ls X hr hlocks hname hB hl
  have X := X
  have hx := X.1.1
  have hb := X.1.2.1
  have hM : iv_Md [67, 68] G G := iv_Md.rf
  have hl : lv_has ls 6 [(0, .ref h0), (1, .int x_0), (2, .int x_1), (3, .int x_2)] := hl
  refine lv_iload_n hx hb dX12_heard_0 rfl (lv_at hl 1 rfl) ?_
  refine iv_cSi X k_good k_mf_X12_isTower k_st_X12_isTower k_ml_X12_68 hB (As := [.int x_0]) (c_X12_isTower l D tys base G x_0 i_x_0) ⟨rfl, rfl⟩ ⟨Nat.le_of_ble_eq_true rfl, Nat.le_of_ble_eq_true rfl⟩ ⟨Nat.le_of_ble_eq_true rfl, Nat.le_of_ble_eq_true rfl⟩ rfl rfl hl.1 (Nat.le_of_ble_eq_true rfl) dX12_heard_1 (fun x1 G9 H locs hq hB => ?_)
  obtain ⟨rfl, i_x1, hp2⟩ := hq
  refine lv_if_eq (tgt := 25) hx hb dX12_heard_4 (by decide) (fun c3 => ?_) (fun c3 => ?_)
  · skip
    have i3_x1 : iv_R 0 0 x1 := (i_x1.cutHi (n := 0) (iv_eq_r c3 q_0).2)
    refine lv_iconst (v := (-1)) hx hb dX12_heard_25 (by decide) ?_
    exact iv_iret X hr hlocks hB ⟨hM, (q_n1.wk (by decide))⟩ dX12_heard_26
  · skip
    have i4_x1 : iv_R 1 1 x1 := iv_ne_lo c3 i_x1 q_0 (by decide)
    have i5_x_0 : iv_R 0 3 x_0 := ((i_x_0.cutLo (n := 0) (hp2 c3).1).cutHi (n := 3) (hp2 c3).2)
    refine lv_iload_n hx hb dX12_heard_7 rfl (lv_at hl 2 rfl) ?_
    refine iv_cSi X k_good k_mf_X12_isHour k_st_X12_isHour k_ml_X12_371 hB (As := [.int x_1]) (c_X12_isHour l D tys base G x_1 i_x_1) ⟨rfl, rfl⟩ ⟨Nat.le_of_ble_eq_true rfl, Nat.le_of_ble_eq_true rfl⟩ ⟨Nat.le_of_ble_eq_true rfl, Nat.le_of_ble_eq_true rfl⟩ rfl rfl hl.1 (Nat.le_of_ble_eq_true rfl) dX12_heard_8 (fun x7 G9 H locs hq hB => ?_)
    obtain ⟨rfl, i_x7, hp8⟩ := hq
    refine lv_if_eq (tgt := 25) hx hb dX12_heard_11 (by decide) (fun c9 => ?_) (fun c9 => ?_)
    · skip
      have i9_x7 : iv_R 0 0 x7 := (i_x7.cutHi (n := 0) (iv_eq_r c9 q_0).2)
      refine lv_iconst (v := (-1)) hx hb dX12_heard_25 (by decide) ?_
      exact iv_iret X hr hlocks hB ⟨hM, (q_n1.wk (by decide))⟩ dX12_heard_26
    · skip
      have i10_x7 : iv_R 1 1 x7 := iv_ne_lo c9 i_x7 q_0 (by decide)
      have i11_x_1 : iv_R 0 23 x_1 := ((i_x_1.cutLo (n := 0) (hp8 c9).1).cutHi (n := 23) (hp8 c9).2)
      refine lv_iload_n hx hb dX12_heard_14 rfl (lv_at hl 3 rfl) ?_
      refine lv_iconst (v := 1) hx hb dX12_heard_15 (by decide) ?_
      refine lv_sipush (v := 999) hx hb dX12_heard_16 (by decide) ?_
      refine iv_cSi X k_good k_mf_X12_isIn k_st_X12_isIn k_ml_X12_56 hB (As := [.int x_2, .int 1, .int 999]) (c_X12_isIn l D tys base G x_2 i_x_2 1 (q_1.wk (by decide)) 999 (q_999.wk (by decide))) ⟨rfl, rfl⟩ ⟨Nat.le_of_ble_eq_true rfl, Nat.le_of_ble_eq_true rfl⟩ ⟨Nat.le_of_ble_eq_true rfl, Nat.le_of_ble_eq_true rfl⟩ rfl rfl hl.1 (Nat.le_of_ble_eq_true rfl) dX12_heard_19 (fun x13 G9 H locs hq hB => ?_)
      obtain ⟨rfl, i_x13, hp14⟩ := hq
      have k15 : ¬ x13 = 0 → iv_R 1 999 x_2 := fun h => ⟨iv_max i_x_2.1 (Int.le_trans q_1.1 (hp14.1 h).1) (by decide), iv_min i_x_2.2 (Int.le_trans (hp14.1 h).2 q_999.2) (by decide)⟩
      refine lv_if_ne (tgt := 27) hx hb dX12_heard_22 (by decide) (fun c16 => ?_) (fun c16 => ?_)
      · skip
        have i16_x13 : iv_R 1 1 x13 := iv_ne_lo c16 i_x13 q_0 (by decide)
        have i17_x_2 : iv_R 1 999 x_2 := ((i_x_2.cutLo (n := 1) (k15 c16).1).cutHi (n := 999) (k15 c16).2)
        refine lv_iconst (v := 0) hx hb dX12_heard_27 (by decide) ?_
        refine lv_istore (lv' := [(4, .int 0), (0, .ref h0), (1, .int x_0), (2, .int x_1), (3, .int x_2)]) hx hb dX12_heard_28 hl (by decide) rfl (fun ls hl => ?_)
        refine lv_iconst (v := 0) hx hb dX12_heard_30 (by decide) ?_
        refine lv_istore (lv' := [(5, .int 0), (4, .int 0), (0, .ref h0), (1, .int x_0), (2, .int x_1), (3, .int x_2)]) hx hb dX12_heard_31 hl (by decide) rfl (fun ls hl => ?_)
        have L_33 : ∀ (n_33 : Nat) (G21 : iv_G) (hM : iv_Md [67, 68] G G21) (H : Heap) (locs : List Loc) (hB : iv_B iv_sh D classes tys base G21 s.heap H locs) (a_h0 : G21 h0 = some (12, g_h0, r_h0)) (x19 : Int32) (i_x19 : iv_R 0 2047 x19) (x20 : Int32) (i_x20 : iv_R 0 10 x20) (hn_33 : (11 - x20.toInt).toNat < n_33) (ls : Array Slot) (hl : lv_has ls 6 [(5, .int x20), (4, .int x19), (0, .ref h0), (1, .int x_0), (2, .int x_1), (3, .int x_2)]), W p l e ({ frames := 5, cells := 0, slots := 0, locals := 119 } : Room) s m args below meth c H locs 0 0 (MQ below (iv_Qi iv_sh D classes tys base (fun v G' => iv_Md [67, 68] G G' ∧ iv_R (-1) 2047 v)) args s 0 0 (iv_A base)) (F0 m 33 ls []) := by
          intro n_33
          induction n_33 with
          | zero => intro G21 hM H locs hB a_h0 x19 i_x19 x20 i_x20 hn_33 ls hl; exact absurd hn_33 (Nat.not_lt_zero _)
          | succ n_33 ih_33 =>
            intro G21 hM H locs hB a_h0 x19 i_x19 x20 i_x20 hn_33 ls hl
            refine lv_iload hx hb dX12_heard_33 (lv_at hl 0 rfl) ?_
            refine lv_aload_n hx hb dX12_heard_35 rfl (lv_at hl 2 rfl) ?_
            refine iv_getr X ft_X12 hB a_h0 sh_12 0 (by decide) rfl k_fl_X12_7 dX12_heard_36 (fun b22 g_b22 r_b22 e_b22 a_b22 => ?_)
            refine lv_sipush (v := 146) hx hb dX12_heard_39 (by decide) ?_
            refine iv_wald_c X hB a_b22 q_146 (by decide) (lo := 0) (hi' := 10) (by decide) dX12_heard_42 (fun x23 e_x23 i_x23 => ?_)
            refine lv_icmp_ge (tgt := 87) hx hb dX12_heard_43 (by decide) (fun c24 => ?_) (fun c24 => ?_)
            · skip
              refine lv_iload hx hb dX12_heard_87 (lv_at hl 1 rfl) ?_
              exact iv_iret X hr hlocks hB ⟨hM, (i_x19.wk (by decide))⟩ dX12_heard_89
            · skip
              have i24_x20 : iv_R 0 9 x20 := (i_x20.cutHi (n := 9) (iv_lt_r (iv_nle c24) i_x23 (by decide)))
              have i25_x23 : iv_R 1 10 x23 := (i_x23.cutLo (n := 1) (iv_lt_l (iv_nle c24) i_x20 (by decide)))
              refine lv_iload hx hb dX12_heard_46 (lv_at hl 1 rfl) ?_
              refine lv_aload_n hx hb dX12_heard_48 rfl (lv_at hl 2 rfl) ?_
              refine lv_iload hx hb dX12_heard_49 (lv_at hl 0 rfl) ?_
              refine lv_iload_n hx hb dX12_heard_51 rfl (lv_at hl 4 rfl) ?_
              refine iv_cVi X k_good k_mf_X12_sounds k_im_X12_sounds k_sel_X12_sounds k_ml_X12_302 ft_X12 hB a_h0 sh_12 (As := [.int x20, .int x_1]) (c_X12_sounds l D tys base G21 h0 g_h0 r_h0 a_h0 x20 i24_x20 x_1 i11_x_1) ⟨rfl, rfl⟩ ⟨Nat.le_of_ble_eq_true rfl, Nat.le_of_ble_eq_true rfl⟩ ⟨Nat.le_of_ble_eq_true rfl, Nat.le_of_ble_eq_true rfl⟩ rfl rfl hl.1 (Nat.le_of_ble_eq_true rfl) dX12_heard_52 (fun x27 G9 H locs hq hB => ?_)
              obtain ⟨rfl, i_x27⟩ := hq
              refine lv_if_eq (tgt := 77) hx hb dX12_heard_55 (by decide) (fun c28 => ?_) (fun c28 => ?_)
              · skip
                have i28_x27 : iv_R 0 0 x27 := (i_x27.cutHi (n := 0) (iv_eq_r c28 q_0).2)
                refine lv_iconst (v := 0) hx hb dX12_heard_77 (by decide) ?_
                refine iv_ior hx hb i_x19 q_0 (k := 11) (hi := 2047) (by decide) dX12_heard_78 (fun x30 e_x30 i_x30 => ?_)
                refine lv_istore (lv' := [(4, .int x30), (5, .int x20), (0, .ref h0), (1, .int x_0), (2, .int x_1), (3, .int x_2)]) hx hb dX12_heard_79 hl (by decide) rfl (fun ls hl => ?_)
                refine iv_iinc hx hb i24_x20 (lo := 1) (hi := 10) (by decide) dX12_heard_81 hl (k := 1) rfl (by decide) (fun x31 ls e_x31 i_x31 hl => ?_)
                have hl : lv_has ls 6 [(5, .int x31), (4, .int x30), (0, .ref h0), (1, .int x_0), (2, .int x_1), (3, .int x_2)] := hl
                refine lv_goto (tgt := 33) hx hb dX12_heard_84 (by decide) ?_
                exact ih_33 G21 hM _ _ hB a_h0 x30 i_x30 x31 (i_x31.wk (by decide)) (iv_mup (c := 1) i_x20 (by decide) (by decide) (by omega) hn_33) _ (lv_sub hl [0, 1, 2, 3, 4, 5] rfl)
              · skip
                have i31_x27 : iv_R 1 1 x27 := iv_ne_lo c28 i_x27 q_0 (by decide)
                refine lv_aload_n hx hb dX12_heard_58 rfl (lv_at hl 2 rfl) ?_
                refine lv_iload hx hb dX12_heard_59 (lv_at hl 0 rfl) ?_
                refine lv_iload_n hx hb dX12_heard_61 rfl (lv_at hl 3 rfl) ?_
                refine lv_iload_n hx hb dX12_heard_62 rfl (lv_at hl 4 rfl) ?_
                refine iv_cVi X k_good k_mf_X12_loudOf k_im_X12_loudOf k_sel_X12_loudOf k_ml_X12_308 ft_X12 hB a_h0 sh_12 (As := [.int x20, .int x_0, .int x_1]) (c_X12_loudOf l D tys base G21 h0 g_h0 r_h0 a_h0 x20 i24_x20 x_0 i5_x_0 x_1 i11_x_1) ⟨rfl, rfl⟩ ⟨Nat.le_of_ble_eq_true rfl, Nat.le_of_ble_eq_true rfl⟩ ⟨Nat.le_of_ble_eq_true rfl, Nat.le_of_ble_eq_true rfl⟩ rfl rfl hl.1 (Nat.le_of_ble_eq_true rfl) dX12_heard_63 (fun x33 G9 H locs hq hB => ?_)
                obtain ⟨hm, i_x33⟩ := hq
                obtain ⟨G34, hG9⟩ : ∃ g, g = G9 := ⟨_, rfl⟩
                rw [← hG9] at hm hB
                have hM := hM.stp hm (by decide)
                have a_h0 := hm.at a_h0 (by decide)
                have a_b22 := hm.at a_b22 (by decide)
                refine lv_iload_n hx hb dX12_heard_66 rfl (lv_at hl 5 rfl) ?_
                refine lv_icmp_lt (tgt := 77) hx hb dX12_heard_67 (by decide) (fun c35 => ?_) (fun c35 => ?_)
                · skip
                  have i35_x33 : iv_R (-2147483648) 998 x33 := (i_x33.cutHi (n := 998) (iv_lt_r c35 i17_x_2 (by decide)))
                  refine lv_iconst (v := 0) hx hb dX12_heard_77 (by decide) ?_
                  refine iv_ior hx hb i_x19 q_0 (k := 11) (hi := 2047) (by decide) dX12_heard_78 (fun x37 e_x37 i_x37 => ?_)
                  refine lv_istore (lv' := [(4, .int x37), (5, .int x20), (0, .ref h0), (1, .int x_0), (2, .int x_1), (3, .int x_2)]) hx hb dX12_heard_79 hl (by decide) rfl (fun ls hl => ?_)
                  refine iv_iinc hx hb i24_x20 (lo := 1) (hi := 10) (by decide) dX12_heard_81 hl (k := 1) rfl (by decide) (fun x38 ls e_x38 i_x38 hl => ?_)
                  have hl : lv_has ls 6 [(5, .int x38), (4, .int x37), (0, .ref h0), (1, .int x_0), (2, .int x_1), (3, .int x_2)] := hl
                  refine lv_goto (tgt := 33) hx hb dX12_heard_84 (by decide) ?_
                  exact ih_33 G34 hM _ _ hB a_h0 x37 i_x37 x38 (i_x38.wk (by decide)) (iv_mup (c := 1) i_x20 (by decide) (by decide) (by omega) hn_33) _ (lv_sub hl [0, 1, 2, 3, 4, 5] rfl)
                · skip
                  have i38_x33 : iv_R 1 2147483647 x33 := (i_x33.cutLo (n := 1) (iv_le_l (iv_nlt c35) i17_x_2))
                  refine lv_iconst (v := 1) hx hb dX12_heard_70 (by decide) ?_
                  refine lv_iload hx hb dX12_heard_71 (lv_at hl 0 rfl) ?_
                  refine iv_shl1 hx hb i24_x20 (lo := 1) (hi := 512) (by decide) dX12_heard_73 (fun x40 e_x40 i_x40 => ?_)
                  refine lv_goto (tgt := 78) hx hb dX12_heard_74 (by decide) ?_
                  refine iv_ior hx hb i_x19 i_x40 (k := 11) (hi := 2047) (by decide) dX12_heard_78 (fun x41 e_x41 i_x41 => ?_)
                  refine lv_istore (lv' := [(4, .int x41), (5, .int x20), (0, .ref h0), (1, .int x_0), (2, .int x_1), (3, .int x_2)]) hx hb dX12_heard_79 hl (by decide) rfl (fun ls hl => ?_)
                  refine iv_iinc hx hb i24_x20 (lo := 1) (hi := 10) (by decide) dX12_heard_81 hl (k := 1) rfl (by decide) (fun x42 ls e_x42 i_x42 hl => ?_)
                  have hl : lv_has ls 6 [(5, .int x42), (4, .int x41), (0, .ref h0), (1, .int x_0), (2, .int x_1), (3, .int x_2)] := hl
                  refine lv_goto (tgt := 33) hx hb dX12_heard_84 (by decide) ?_
                  exact ih_33 G34 hM _ _ hB a_h0 x41 i_x41 x42 (i_x42.wk (by decide)) (iv_mup (c := 1) i_x20 (by decide) (by decide) (by omega) hn_33) _ (lv_sub hl [0, 1, 2, 3, 4, 5] rfl)
        exact L_33 _ G hM _ _ hB a_h0 0 (q_0.wk (by decide)) 0 (q_0.wk (by decide)) (Nat.lt_succ_self _) _ (lv_sub hl [0, 1, 2, 3, 4, 5] rfl)
      · skip
        have i42_x13 : iv_R 0 0 x13 := (i_x13.cutHi (n := 0) (iv_eq_r c16 q_0).2)
        refine lv_iconst (v := (-1)) hx hb dX12_heard_25 (by decide) ?_
        exact iv_iret X hr hlocks hB ⟨hM, (q_n1.wk (by decide))⟩ dX12_heard_26
theorem dX12_chorus_0 : decode cX12_chorus 0 = .ok (.iload_n 1, 1) := by decide +kernel
theorem dX12_chorus_1 : decode cX12_chorus 1 = .ok (.invokestatic 68, 3) := by decide +kernel
theorem dX12_chorus_4 : decode cX12_chorus 4 = .ok (.ifCond .eq 23, 3) := by decide +kernel
theorem dX12_chorus_7 : decode cX12_chorus 7 = .ok (.iload_n 2, 1) := by decide +kernel
theorem dX12_chorus_8 : decode cX12_chorus 8 = .ok (.iconst 1, 1) := by decide +kernel
theorem dX12_chorus_9 : decode cX12_chorus 9 = .ok (.sipush 999, 3) := by decide +kernel
theorem dX12_chorus_12 : decode cX12_chorus 12 = .ok (.invokestatic 56, 3) := by decide +kernel
theorem dX12_chorus_15 : decode cX12_chorus 15 = .ok (.ifCond .eq 12, 3) := by decide +kernel
theorem dX12_chorus_18 : decode cX12_chorus 18 = .ok (.iload_n 3, 1) := by decide +kernel
theorem dX12_chorus_19 : decode cX12_chorus 19 = .ok (.iconst 0, 1) := by decide +kernel
theorem dX12_chorus_20 : decode cX12_chorus 20 = .ok (.iconst 1, 1) := by decide +kernel
theorem dX12_chorus_21 : decode cX12_chorus 21 = .ok (.invokestatic 56, 3) := by decide +kernel
theorem dX12_chorus_24 : decode cX12_chorus 24 = .ok (.ifCond .ne 5, 3) := by decide +kernel
theorem dX12_chorus_27 : decode cX12_chorus 27 = .ok (.iconst (-1), 1) := by decide +kernel
theorem dX12_chorus_28 : decode cX12_chorus 28 = .ok (.ireturn, 1) := by decide +kernel
theorem dX12_chorus_29 : decode cX12_chorus 29 = .ok (.iconst 0, 1) := by decide +kernel
theorem dX12_chorus_30 : decode cX12_chorus 30 = .ok (.istore 4, 2) := by decide +kernel
theorem dX12_chorus_32 : decode cX12_chorus 32 = .ok (.iconst (-1), 1) := by decide +kernel
theorem dX12_chorus_33 : decode cX12_chorus 33 = .ok (.istore 5, 2) := by decide +kernel
theorem dX12_chorus_35 : decode cX12_chorus 35 = .ok (.iconst 0, 1) := by decide +kernel
theorem dX12_chorus_36 : decode cX12_chorus 36 = .ok (.istore 6, 2) := by decide +kernel
theorem dX12_chorus_38 : decode cX12_chorus 38 = .ok (.iload 6, 2) := by decide +kernel
theorem dX12_chorus_40 : decode cX12_chorus 40 = .ok (.bipush 24, 2) := by decide +kernel
theorem dX12_chorus_42 : decode cX12_chorus 42 = .ok (.if_icmp .ge 40, 3) := by decide +kernel
theorem dX12_chorus_45 : decode cX12_chorus 45 = .ok (.aload_n 0, 1) := by decide +kernel
theorem dX12_chorus_46 : decode cX12_chorus 46 = .ok (.iload_n 1, 1) := by decide +kernel
theorem dX12_chorus_47 : decode cX12_chorus 47 = .ok (.iload 6, 2) := by decide +kernel
theorem dX12_chorus_49 : decode cX12_chorus 49 = .ok (.iload_n 2, 1) := by decide +kernel
theorem dX12_chorus_50 : decode cX12_chorus 50 = .ok (.invokevirtual 383, 3) := by decide +kernel
theorem dX12_chorus_53 : decode cX12_chorus 53 = .ok (.invokestatic 320, 3) := by decide +kernel
theorem dX12_chorus_56 : decode cX12_chorus 56 = .ok (.istore 7, 2) := by decide +kernel
theorem dX12_chorus_58 : decode cX12_chorus 58 = .ok (.iload 7, 2) := by decide +kernel
theorem dX12_chorus_60 : decode cX12_chorus 60 = .ok (.iload 4, 2) := by decide +kernel
theorem dX12_chorus_62 : decode cX12_chorus 62 = .ok (.if_icmp .gt 6, 3) := by decide +kernel
theorem dX12_chorus_65 : decode cX12_chorus 65 = .ok (.goto 11, 3) := by decide +kernel
theorem dX12_chorus_68 : decode cX12_chorus 68 = .ok (.iload 7, 2) := by decide +kernel
theorem dX12_chorus_70 : decode cX12_chorus 70 = .ok (.istore 4, 2) := by decide +kernel
theorem dX12_chorus_72 : decode cX12_chorus 72 = .ok (.iload 6, 2) := by decide +kernel
theorem dX12_chorus_74 : decode cX12_chorus 74 = .ok (.istore 5, 2) := by decide +kernel
theorem dX12_chorus_76 : decode cX12_chorus 76 = .ok (.iinc 6 1, 3) := by decide +kernel
theorem dX12_chorus_79 : decode cX12_chorus 79 = .ok (.goto (-41), 3) := by decide +kernel
theorem dX12_chorus_82 : decode cX12_chorus 82 = .ok (.iload_n 3, 1) := by decide +kernel
theorem dX12_chorus_83 : decode cX12_chorus 83 = .ok (.ifCond .ne 8, 3) := by decide +kernel
theorem dX12_chorus_86 : decode cX12_chorus 86 = .ok (.iload 5, 2) := by decide +kernel
theorem dX12_chorus_88 : decode cX12_chorus 88 = .ok (.goto 5, 3) := by decide +kernel
theorem dX12_chorus_91 : decode cX12_chorus 91 = .ok (.iload 4, 2) := by decide +kernel
theorem dX12_chorus_93 : decode cX12_chorus 93 = .ok (.ireturn, 1) := by decide +kernel
set_option maxHeartbeats 4000000 in
set_option maxRecDepth 100000 in
theorem c_X12_chorus (l : Launch) (D : va_G) (tys : List (ClassId × FieldType)) (base : Nat) (G : iv_G) (h0 : Nat) (g_h0 : Nat → Int32) (r_h0 : Nat → Nat) (a_h0 : G h0 = some (12, g_h0, r_h0)) (x_0 : Int32) (i_x_0 : iv_R (-2147483648) 2147483647 x_0) (x_1 : Int32) (i_x_1 : iv_R (-2147483648) 2147483647 x_1) (x_2 : Int32) (i_x_2 : iv_R (-2147483648) 2147483647 x_2) : Met l yX12_chorus (Cond.code yX12_chorus cX12_chorus 8 (some .int) :: iv_W0) ({ frames := 6, cells := 0, slots := 0, locals := 144 }) (iv_Pc iv_sh D classes tys base G [.ref h0, .int x_0, .int x_1, .int x_2]) (iv_Qi iv_sh D classes tys base (fun v G' => iv_Md [67, 68] G G' ∧ iv_R (-1) 2147483647 v)) 0 0 (iv_A base) := by
  refine iv_head (by decide) (Nat.le_of_ble_eq_true rfl) ?_
  intro p e s m args below meth c ls X hr hlocks hname hB hl
  have X := X
  have hx := X.1.1
  have hb := X.1.2.1
  have hM : iv_Md [67, 68] G G := iv_Md.rf
  have hl : lv_has ls 8 [(0, .ref h0), (1, .int x_0), (2, .int x_1), (3, .int x_2)] := hl
  refine lv_iload_n hx hb dX12_chorus_0 rfl (lv_at hl 1 rfl) ?_
  refine iv_cSi X k_good k_mf_X12_isTower k_st_X12_isTower k_ml_X12_68 hB (As := [.int x_0]) (c_X12_isTower l D tys base G x_0 i_x_0) ⟨rfl, rfl⟩ ⟨Nat.le_of_ble_eq_true rfl, Nat.le_of_ble_eq_true rfl⟩ ⟨Nat.le_of_ble_eq_true rfl, Nat.le_of_ble_eq_true rfl⟩ rfl rfl hl.1 (Nat.le_of_ble_eq_true rfl) dX12_chorus_1 (fun x1 G9 H locs hq hB => ?_)
  obtain ⟨rfl, i_x1, hp2⟩ := hq
  refine lv_if_eq (tgt := 27) hx hb dX12_chorus_4 (by decide) (fun c3 => ?_) (fun c3 => ?_)
  · skip
    have i3_x1 : iv_R 0 0 x1 := (i_x1.cutHi (n := 0) (iv_eq_r c3 q_0).2)
    refine lv_iconst (v := (-1)) hx hb dX12_chorus_27 (by decide) ?_
    exact iv_iret X hr hlocks hB ⟨hM, (q_n1.wk (by decide))⟩ dX12_chorus_28
  · skip
    have i4_x1 : iv_R 1 1 x1 := iv_ne_lo c3 i_x1 q_0 (by decide)
    have i5_x_0 : iv_R 0 3 x_0 := ((i_x_0.cutLo (n := 0) (hp2 c3).1).cutHi (n := 3) (hp2 c3).2)
    refine lv_iload_n hx hb dX12_chorus_7 rfl (lv_at hl 2 rfl) ?_
    refine lv_iconst (v := 1) hx hb dX12_chorus_8 (by decide) ?_
    refine lv_sipush (v := 999) hx hb dX12_chorus_9 (by decide) ?_
    refine iv_cSi X k_good k_mf_X12_isIn k_st_X12_isIn k_ml_X12_56 hB (As := [.int x_1, .int 1, .int 999]) (c_X12_isIn l D tys base G x_1 i_x_1 1 (q_1.wk (by decide)) 999 (q_999.wk (by decide))) ⟨rfl, rfl⟩ ⟨Nat.le_of_ble_eq_true rfl, Nat.le_of_ble_eq_true rfl⟩ ⟨Nat.le_of_ble_eq_true rfl, Nat.le_of_ble_eq_true rfl⟩ rfl rfl hl.1 (Nat.le_of_ble_eq_true rfl) dX12_chorus_12 (fun x7 G9 H locs hq hB => ?_)
    obtain ⟨rfl, i_x7, hp8⟩ := hq
    have k9 : ¬ x7 = 0 → iv_R 1 999 x_1 := fun h => ⟨iv_max i_x_1.1 (Int.le_trans q_1.1 (hp8.1 h).1) (by decide), iv_min i_x_1.2 (Int.le_trans (hp8.1 h).2 q_999.2) (by decide)⟩
    refine lv_if_eq (tgt := 27) hx hb dX12_chorus_15 (by decide) (fun c10 => ?_) (fun c10 => ?_)
    · skip
      have i10_x7 : iv_R 0 0 x7 := (i_x7.cutHi (n := 0) (iv_eq_r c10 q_0).2)
      refine lv_iconst (v := (-1)) hx hb dX12_chorus_27 (by decide) ?_
      exact iv_iret X hr hlocks hB ⟨hM, (q_n1.wk (by decide))⟩ dX12_chorus_28
    · skip
      have i11_x7 : iv_R 1 1 x7 := iv_ne_lo c10 i_x7 q_0 (by decide)
      have i12_x_1 : iv_R 1 999 x_1 := ((i_x_1.cutLo (n := 1) (k9 c10).1).cutHi (n := 999) (k9 c10).2)
      refine lv_iload_n hx hb dX12_chorus_18 rfl (lv_at hl 3 rfl) ?_
      refine lv_iconst (v := 0) hx hb dX12_chorus_19 (by decide) ?_
      refine lv_iconst (v := 1) hx hb dX12_chorus_20 (by decide) ?_
      refine iv_cSi X k_good k_mf_X12_isIn k_st_X12_isIn k_ml_X12_56 hB (As := [.int x_2, .int 0, .int 1]) (c_X12_isIn l D tys base G x_2 i_x_2 0 (q_0.wk (by decide)) 1 (q_1.wk (by decide))) ⟨rfl, rfl⟩ ⟨Nat.le_of_ble_eq_true rfl, Nat.le_of_ble_eq_true rfl⟩ ⟨Nat.le_of_ble_eq_true rfl, Nat.le_of_ble_eq_true rfl⟩ rfl rfl hl.1 (Nat.le_of_ble_eq_true rfl) dX12_chorus_21 (fun x14 G9 H locs hq hB => ?_)
      obtain ⟨rfl, i_x14, hp15⟩ := hq
      have k16 : ¬ x14 = 0 → iv_R 0 1 x_2 := fun h => ⟨iv_max i_x_2.1 (Int.le_trans q_0.1 (hp15.1 h).1) (by decide), iv_min i_x_2.2 (Int.le_trans (hp15.1 h).2 q_1.2) (by decide)⟩
      refine lv_if_ne (tgt := 29) hx hb dX12_chorus_24 (by decide) (fun c17 => ?_) (fun c17 => ?_)
      · skip
        have i17_x14 : iv_R 1 1 x14 := iv_ne_lo c17 i_x14 q_0 (by decide)
        have i18_x_2 : iv_R 0 1 x_2 := ((i_x_2.cutLo (n := 0) (k16 c17).1).cutHi (n := 1) (k16 c17).2)
        refine lv_iconst (v := 0) hx hb dX12_chorus_29 (by decide) ?_
        refine lv_istore (lv' := [(4, .int 0), (0, .ref h0), (1, .int x_0), (2, .int x_1), (3, .int x_2)]) hx hb dX12_chorus_30 hl (by decide) rfl (fun ls hl => ?_)
        refine lv_iconst (v := (-1)) hx hb dX12_chorus_32 (by decide) ?_
        refine lv_istore (lv' := [(5, .int (-1)), (4, .int 0), (0, .ref h0), (1, .int x_0), (2, .int x_1), (3, .int x_2)]) hx hb dX12_chorus_33 hl (by decide) rfl (fun ls hl => ?_)
        refine lv_iconst (v := 0) hx hb dX12_chorus_35 (by decide) ?_
        refine lv_istore (lv' := [(6, .int 0), (5, .int (-1)), (4, .int 0), (0, .ref h0), (1, .int x_0), (2, .int x_1), (3, .int x_2)]) hx hb dX12_chorus_36 hl (by decide) rfl (fun ls hl => ?_)
        have L_38 : ∀ (n_38 : Nat) (G23 : iv_G) (hM : iv_Md [67, 68] G G23) (H : Heap) (locs : List Loc) (hB : iv_B iv_sh D classes tys base G23 s.heap H locs) (a_h0 : G23 h0 = some (12, g_h0, r_h0)) (x20 : Int32) (i_x20 : iv_R 0 2147483647 x20) (x21 : Int32) (i_x21 : iv_R (-1) 23 x21) (x22 : Int32) (i_x22 : iv_R 0 24 x22) (hn_38 : (25 - x22.toInt).toNat < n_38) (ls : Array Slot) (hl : lv_has ls 8 [(6, .int x22), (5, .int x21), (4, .int x20), (0, .ref h0), (1, .int x_0), (2, .int x_1), (3, .int x_2)]), W p l e ({ frames := 6, cells := 0, slots := 0, locals := 144 } : Room) s m args below meth c H locs 0 0 (MQ below (iv_Qi iv_sh D classes tys base (fun v G' => iv_Md [67, 68] G G' ∧ iv_R (-1) 2147483647 v)) args s 0 0 (iv_A base)) (F0 m 38 ls []) := by
          intro n_38
          induction n_38 with
          | zero => intro G23 hM H locs hB a_h0 x20 i_x20 x21 i_x21 x22 i_x22 hn_38 ls hl; exact absurd hn_38 (Nat.not_lt_zero _)
          | succ n_38 ih_38 =>
            intro G23 hM H locs hB a_h0 x20 i_x20 x21 i_x21 x22 i_x22 hn_38 ls hl
            refine lv_iload hx hb dX12_chorus_38 (lv_at hl 0 rfl) ?_
            refine lv_bipush (v := 24) hx hb dX12_chorus_40 (by decide) ?_
            refine lv_icmp_ge (tgt := 82) hx hb dX12_chorus_42 (by decide) (fun c24 => ?_) (fun c24 => ?_)
            · skip
              have i24_x22 : iv_R 24 24 x22 := (i_x22.cutLo (n := 24) (iv_le_l c24 q_24))
              refine lv_iload_n hx hb dX12_chorus_82 rfl (lv_at hl 6 rfl) ?_
              refine lv_if_ne (tgt := 91) hx hb dX12_chorus_83 (by decide) (fun c26 => ?_) (fun c26 => ?_)
              · skip
                have i26_x_2 : iv_R 1 1 x_2 := iv_ne_lo c26 i18_x_2 q_0 (by decide)
                refine lv_iload hx hb dX12_chorus_91 (lv_at hl 2 rfl) ?_
                exact iv_iret X hr hlocks hB ⟨hM, (i_x20.wk (by decide))⟩ dX12_chorus_93
              · skip
                have i27_x_2 : iv_R 0 0 x_2 := (i18_x_2.cutHi (n := 0) (iv_eq_r c26 q_0).2)
                refine lv_iload hx hb dX12_chorus_86 (lv_at hl 1 rfl) ?_
                refine lv_goto (tgt := 93) hx hb dX12_chorus_88 (by decide) ?_
                exact iv_iret X hr hlocks hB ⟨hM, (i_x21.wk (by decide))⟩ dX12_chorus_93
            · skip
              have i28_x22 : iv_R 0 23 x22 := (i_x22.cutHi (n := 23) (iv_lt_r (iv_nle c24) q_24 (by decide)))
              refine lv_aload_n hx hb dX12_chorus_45 rfl (lv_at hl 3 rfl) ?_
              refine lv_iload_n hx hb dX12_chorus_46 rfl (lv_at hl 4 rfl) ?_
              refine lv_iload hx hb dX12_chorus_47 (lv_at hl 0 rfl) ?_
              refine lv_iload_n hx hb dX12_chorus_49 rfl (lv_at hl 5 rfl) ?_
              refine iv_cVi X k_good k_mf_X12_heard k_im_X12_heard k_sel_X12_heard k_ml_X12_383 ft_X12 hB a_h0 sh_12 (As := [.int x_0, .int x22, .int x_1]) (c_X12_heard l D tys base G23 h0 g_h0 r_h0 a_h0 x_0 (i5_x_0.wk (by decide)) x22 (i28_x22.wk (by decide)) x_1 (i12_x_1.wk (by decide))) ⟨rfl, rfl⟩ ⟨Nat.le_of_ble_eq_true rfl, Nat.le_of_ble_eq_true rfl⟩ ⟨Nat.le_of_ble_eq_true rfl, Nat.le_of_ble_eq_true rfl⟩ rfl rfl hl.1 (Nat.le_of_ble_eq_true rfl) dX12_chorus_50 (fun x30 G9 H locs hq hB => ?_)
              obtain ⟨hm, i_x30⟩ := hq
              obtain ⟨G31, hG9⟩ : ∃ g, g = G9 := ⟨_, rfl⟩
              rw [← hG9] at hm hB
              have hM := hM.stp hm (by decide)
              have a_h0 := hm.at a_h0 (by decide)
              refine iv_cSi X k_good k_mf_X12_count k_st_X12_count k_ml_X12_320 hB (As := [.int x30]) (c_X12_count l D tys base G31 x30 (i_x30.wk (by decide))) ⟨rfl, rfl⟩ ⟨Nat.le_of_ble_eq_true rfl, Nat.le_of_ble_eq_true rfl⟩ ⟨Nat.le_of_ble_eq_true rfl, Nat.le_of_ble_eq_true rfl⟩ rfl rfl hl.1 (Nat.le_of_ble_eq_true rfl) dX12_chorus_53 (fun x32 G9 H locs hq hB => ?_)
              obtain ⟨rfl, i_x32⟩ := hq
              refine lv_istore (lv' := [(7, .int x32), (6, .int x22), (5, .int x21), (4, .int x20), (0, .ref h0), (1, .int x_0), (2, .int x_1), (3, .int x_2)]) hx hb dX12_chorus_56 hl (by decide) rfl (fun ls hl => ?_)
              refine lv_iload hx hb dX12_chorus_58 (lv_at hl 0 rfl) ?_
              refine lv_iload hx hb dX12_chorus_60 (lv_at hl 3 rfl) ?_
              refine lv_icmp_gt (tgt := 68) hx hb dX12_chorus_62 (by decide) (fun c33 => ?_) (fun c33 => ?_)
              · skip
                have i33_x20 : iv_R 0 2147483646 x20 := (i_x20.cutHi (n := 2147483646) (iv_lt_r c33 i_x32 (by decide)))
                have i34_x32 : iv_R 1 2147483647 x32 := (i_x32.cutLo (n := 1) (iv_lt_l c33 i_x20 (by decide)))
                refine lv_iload hx hb dX12_chorus_68 (lv_at hl 0 rfl) ?_
                refine lv_istore (lv' := [(4, .int x32), (7, .int x32), (6, .int x22), (5, .int x21), (0, .ref h0), (1, .int x_0), (2, .int x_1), (3, .int x_2)]) hx hb dX12_chorus_70 hl (by decide) rfl (fun ls hl => ?_)
                refine lv_iload hx hb dX12_chorus_72 (lv_at hl 2 rfl) ?_
                refine lv_istore (lv' := [(5, .int x22), (4, .int x32), (7, .int x32), (6, .int x22), (0, .ref h0), (1, .int x_0), (2, .int x_1), (3, .int x_2)]) hx hb dX12_chorus_74 hl (by decide) rfl (fun ls hl => ?_)
                refine iv_iinc hx hb i28_x22 (lo := 1) (hi := 24) (by decide) dX12_chorus_76 hl (k := 3) rfl (by decide) (fun x36 ls e_x36 i_x36 hl => ?_)
                have hl : lv_has ls 8 [(6, .int x36), (5, .int x22), (4, .int x32), (7, .int x32), (0, .ref h0), (1, .int x_0), (2, .int x_1), (3, .int x_2)] := hl
                refine lv_goto (tgt := 38) hx hb dX12_chorus_79 (by decide) ?_
                exact ih_38 G31 hM _ _ hB a_h0 x32 (i34_x32.wk (by decide)) x22 (i28_x22.wk (by decide)) x36 (i_x36.wk (by decide)) (iv_mup (c := 1) i_x22 (by decide) (by decide) (by omega) hn_38) _ (lv_sub hl [0, 1, 2, 4, 5, 6, 7] rfl)
              · skip
                refine lv_goto (tgt := 76) hx hb dX12_chorus_65 (by decide) ?_
                refine iv_iinc hx hb i28_x22 (lo := 1) (hi := 24) (by decide) dX12_chorus_76 hl (k := 1) rfl (by decide) (fun x37 ls e_x37 i_x37 hl => ?_)
                have hl : lv_has ls 8 [(6, .int x37), (7, .int x32), (5, .int x21), (4, .int x20), (0, .ref h0), (1, .int x_0), (2, .int x_1), (3, .int x_2)] := hl
                refine lv_goto (tgt := 38) hx hb dX12_chorus_79 (by decide) ?_
                exact ih_38 G31 hM _ _ hB a_h0 x20 i_x20 x21 i_x21 x37 (i_x37.wk (by decide)) (iv_mup (c := 1) i_x22 (by decide) (by decide) (by omega) hn_38) _ (lv_sub hl [0, 2, 3, 4, 5, 6, 7] rfl)
        exact L_38 _ G hM _ _ hB a_h0 0 (q_0.wk (by decide)) (-1) (q_n1.wk (by decide)) 0 (q_0.wk (by decide)) (Nat.lt_succ_self _) _ (lv_sub hl [0, 1, 2, 3, 4, 5, 6] rfl)
      · skip
        have i37_x14 : iv_R 0 0 x14 := (i_x14.cutHi (n := 0) (iv_eq_r c17 q_0).2)
        refine lv_iconst (v := (-1)) hx hb dX12_chorus_27 (by decide) ?_
        exact iv_iret X hr hlocks hB ⟨hM, (q_n1.wk (by decide))⟩ dX12_chorus_28
theorem dX12_drowns_0 : decode cX12_drowns 0 = .ok (.iload_n 1, 1) := by decide +kernel
theorem dX12_drowns_1 : decode cX12_drowns 1 = .ok (.iload_n 2, 1) := by decide +kernel
theorem dX12_drowns_2 : decode cX12_drowns 2 = .ok (.if_icmp .eq 38, 3) := by decide +kernel
theorem dX12_drowns_5 : decode cX12_drowns 5 = .ok (.aload_n 0, 1) := by decide +kernel
theorem dX12_drowns_6 : decode cX12_drowns 6 = .ok (.iload_n 1, 1) := by decide +kernel
theorem dX12_drowns_7 : decode cX12_drowns 7 = .ok (.iload_n 3, 1) := by decide +kernel
theorem dX12_drowns_8 : decode cX12_drowns 8 = .ok (.invokevirtual 302, 3) := by decide +kernel
theorem dX12_drowns_11 : decode cX12_drowns 11 = .ok (.ifCond .eq 29, 3) := by decide +kernel
theorem dX12_drowns_14 : decode cX12_drowns 14 = .ok (.aload_n 0, 1) := by decide +kernel
theorem dX12_drowns_15 : decode cX12_drowns 15 = .ok (.iload_n 1, 1) := by decide +kernel
theorem dX12_drowns_16 : decode cX12_drowns 16 = .ok (.iconst 1, 1) := by decide +kernel
theorem dX12_drowns_17 : decode cX12_drowns 17 = .ok (.invokevirtual 282, 3) := by decide +kernel
theorem dX12_drowns_20 : decode cX12_drowns 20 = .ok (.aload_n 0, 1) := by decide +kernel
theorem dX12_drowns_21 : decode cX12_drowns 21 = .ok (.iload_n 2, 1) := by decide +kernel
theorem dX12_drowns_22 : decode cX12_drowns 22 = .ok (.iconst 1, 1) := by decide +kernel
theorem dX12_drowns_23 : decode cX12_drowns 23 = .ok (.invokevirtual 282, 3) := by decide +kernel
theorem dX12_drowns_26 : decode cX12_drowns 26 = .ok (.invokestatic 305, 3) := by decide +kernel
theorem dX12_drowns_29 : decode cX12_drowns 29 = .ok (.aload_n 0, 1) := by decide +kernel
theorem dX12_drowns_30 : decode cX12_drowns 30 = .ok (.getfield 7, 3) := by decide +kernel
theorem dX12_drowns_33 : decode cX12_drowns 33 = .ok (.sipush 147, 3) := by decide +kernel
theorem dX12_drowns_36 : decode cX12_drowns 36 = .ok (.iaload, 1) := by decide +kernel
theorem dX12_drowns_37 : decode cX12_drowns 37 = .ok (.if_icmp .lt 5, 3) := by decide +kernel
theorem dX12_drowns_40 : decode cX12_drowns 40 = .ok (.iconst 0, 1) := by decide +kernel
theorem dX12_drowns_41 : decode cX12_drowns 41 = .ok (.ireturn, 1) := by decide +kernel
theorem dX12_drowns_42 : decode cX12_drowns 42 = .ok (.iconst 2, 1) := by decide +kernel
theorem dX12_drowns_43 : decode cX12_drowns 43 = .ok (.aload_n 0, 1) := by decide +kernel
theorem dX12_drowns_44 : decode cX12_drowns 44 = .ok (.iload_n 1, 1) := by decide +kernel
theorem dX12_drowns_45 : decode cX12_drowns 45 = .ok (.aload_n 0, 1) := by decide +kernel
theorem dX12_drowns_46 : decode cX12_drowns 46 = .ok (.iload_n 2, 1) := by decide +kernel
theorem dX12_drowns_47 : decode cX12_drowns 47 = .ok (.iconst 0, 1) := by decide +kernel
theorem dX12_drowns_48 : decode cX12_drowns 48 = .ok (.invokevirtual 282, 3) := by decide +kernel
theorem dX12_drowns_51 : decode cX12_drowns 51 = .ok (.iload_n 3, 1) := by decide +kernel
theorem dX12_drowns_52 : decode cX12_drowns 52 = .ok (.invokevirtual 308, 3) := by decide +kernel
theorem dX12_drowns_55 : decode cX12_drowns 55 = .ok (.imul, 1) := by decide +kernel
theorem dX12_drowns_56 : decode cX12_drowns 56 = .ok (.aload_n 0, 1) := by decide +kernel
theorem dX12_drowns_57 : decode cX12_drowns 57 = .ok (.iload_n 2, 1) := by decide +kernel
theorem dX12_drowns_58 : decode cX12_drowns 58 = .ok (.aload_n 0, 1) := by decide +kernel
theorem dX12_drowns_59 : decode cX12_drowns 59 = .ok (.iload_n 2, 1) := by decide +kernel
theorem dX12_drowns_60 : decode cX12_drowns 60 = .ok (.iconst 0, 1) := by decide +kernel
theorem dX12_drowns_61 : decode cX12_drowns 61 = .ok (.invokevirtual 282, 3) := by decide +kernel
theorem dX12_drowns_64 : decode cX12_drowns 64 = .ok (.iload_n 3, 1) := by decide +kernel
theorem dX12_drowns_65 : decode cX12_drowns 65 = .ok (.invokevirtual 308, 3) := by decide +kernel
theorem dX12_drowns_68 : decode cX12_drowns 68 = .ok (.if_icmp .lt 7, 3) := by decide +kernel
theorem dX12_drowns_71 : decode cX12_drowns 71 = .ok (.iconst 1, 1) := by decide +kernel
theorem dX12_drowns_72 : decode cX12_drowns 72 = .ok (.goto 4, 3) := by decide +kernel
theorem dX12_drowns_75 : decode cX12_drowns 75 = .ok (.iconst 0, 1) := by decide +kernel
theorem dX12_drowns_76 : decode cX12_drowns 76 = .ok (.ireturn, 1) := by decide +kernel
set_option maxHeartbeats 4000000 in
set_option maxRecDepth 100000 in
theorem c_X12_drowns (l : Launch) (D : va_G) (tys : List (ClassId × FieldType)) (base : Nat) (G : iv_G) (h0 : Nat) (g_h0 : Nat → Int32) (r_h0 : Nat → Nat) (a_h0 : G h0 = some (12, g_h0, r_h0)) (x_0 : Int32) (i_x_0 : iv_R 0 9 x_0) (x_1 : Int32) (i_x_1 : iv_R 0 9 x_1) (x_2 : Int32) (i_x_2 : iv_R 0 23 x_2) : Met l yX12_drowns (Cond.code yX12_drowns cX12_drowns 4 (some .boolean) :: iv_W0) ({ frames := 5, cells := 0, slots := 0, locals := 119 }) (iv_Pc iv_sh D classes tys base G [.ref h0, .int x_0, .int x_1, .int x_2]) (iv_Qi iv_sh D classes tys base (fun v G' => iv_Md [67, 68] G G' ∧ iv_R 0 1 v)) 0 0 (iv_A base) := by
  refine iv_head (by decide) (Nat.le_of_ble_eq_true rfl) ?_
  intro p e s m args below meth c ls X hr hlocks hname hB hl
  have X := X
  have hx := X.1.1
  have hb := X.1.2.1
  have hM : iv_Md [67, 68] G G := iv_Md.rf
  have hl : lv_has ls 4 [(0, .ref h0), (1, .int x_0), (2, .int x_1), (3, .int x_2)] := hl
  refine lv_iload_n hx hb dX12_drowns_0 rfl (lv_at hl 1 rfl) ?_
  refine lv_iload_n hx hb dX12_drowns_1 rfl (lv_at hl 2 rfl) ?_
  refine lv_icmp_eq (tgt := 40) hx hb dX12_drowns_2 (by decide) (fun c1 => ?_) (fun c1 => ?_)
  · skip
    refine lv_iconst (v := 0) hx hb dX12_drowns_40 (by decide) ?_
    exact iv_zret X hr hlocks hB (q_0.wk (by decide)) ⟨hM, (q_0.wk (by decide))⟩ dX12_drowns_41
  · skip
    refine lv_aload_n hx hb dX12_drowns_5 rfl (lv_at hl 0 rfl) ?_
    refine lv_iload_n hx hb dX12_drowns_6 rfl (lv_at hl 1 rfl) ?_
    refine lv_iload_n hx hb dX12_drowns_7 rfl (lv_at hl 3 rfl) ?_
    refine iv_cVi X k_good k_mf_X12_sounds k_im_X12_sounds k_sel_X12_sounds k_ml_X12_302 ft_X12 hB a_h0 sh_12 (As := [.int x_0, .int x_2]) (c_X12_sounds l D tys base G h0 g_h0 r_h0 a_h0 x_0 i_x_0 x_2 i_x_2) ⟨rfl, rfl⟩ ⟨Nat.le_of_ble_eq_true rfl, Nat.le_of_ble_eq_true rfl⟩ ⟨Nat.le_of_ble_eq_true rfl, Nat.le_of_ble_eq_true rfl⟩ rfl rfl hl.1 (Nat.le_of_ble_eq_true rfl) dX12_drowns_8 (fun x2 G9 H locs hq hB => ?_)
    obtain ⟨rfl, i_x2⟩ := hq
    refine lv_if_eq (tgt := 40) hx hb dX12_drowns_11 (by decide) (fun c3 => ?_) (fun c3 => ?_)
    · skip
      have i3_x2 : iv_R 0 0 x2 := (i_x2.cutHi (n := 0) (iv_eq_r c3 q_0).2)
      refine lv_iconst (v := 0) hx hb dX12_drowns_40 (by decide) ?_
      exact iv_zret X hr hlocks hB (q_0.wk (by decide)) ⟨hM, (q_0.wk (by decide))⟩ dX12_drowns_41
    · skip
      have i4_x2 : iv_R 1 1 x2 := iv_ne_lo c3 i_x2 q_0 (by decide)
      refine lv_aload_n hx hb dX12_drowns_14 rfl (lv_at hl 0 rfl) ?_
      refine lv_iload_n hx hb dX12_drowns_15 rfl (lv_at hl 1 rfl) ?_
      refine lv_iconst (v := 1) hx hb dX12_drowns_16 (by decide) ?_
      refine iv_cVi X k_good k_mf_X12_ofBell k_im_X12_ofBell k_sel_X12_ofBell k_ml_X12_282 ft_X12 hB a_h0 sh_12 (As := [.int x_0, .int 1]) (c_X12_ofBell l D tys base G h0 g_h0 r_h0 a_h0 x_0 i_x_0 1 (q_1.wk (by decide))) ⟨rfl, rfl⟩ ⟨Nat.le_of_ble_eq_true rfl, Nat.le_of_ble_eq_true rfl⟩ ⟨Nat.le_of_ble_eq_true rfl, Nat.le_of_ble_eq_true rfl⟩ rfl rfl hl.1 (Nat.le_of_ble_eq_true rfl) dX12_drowns_17 (fun x6 G9 H locs hq hB => ?_)
      obtain ⟨rfl, i_x6, cp7, cp8⟩ := hq
      have i8_x6 : iv_R 0 47 x6 := cp8 rfl
      refine lv_aload_n hx hb dX12_drowns_20 rfl (lv_at hl 0 rfl) ?_
      refine lv_iload_n hx hb dX12_drowns_21 rfl (lv_at hl 2 rfl) ?_
      refine lv_iconst (v := 1) hx hb dX12_drowns_22 (by decide) ?_
      refine iv_cVi X k_good k_mf_X12_ofBell k_im_X12_ofBell k_sel_X12_ofBell k_ml_X12_282 ft_X12 hB a_h0 sh_12 (As := [.int x_1, .int 1]) (c_X12_ofBell l D tys base G h0 g_h0 r_h0 a_h0 x_1 i_x_1 1 (q_1.wk (by decide))) ⟨rfl, rfl⟩ ⟨Nat.le_of_ble_eq_true rfl, Nat.le_of_ble_eq_true rfl⟩ ⟨Nat.le_of_ble_eq_true rfl, Nat.le_of_ble_eq_true rfl⟩ rfl rfl hl.1 (Nat.le_of_ble_eq_true rfl) dX12_drowns_23 (fun x10 G9 H locs hq hB => ?_)
      obtain ⟨rfl, i_x10, cp11, cp12⟩ := hq
      have i12_x10 : iv_R 0 47 x10 := cp12 rfl
      refine iv_cSi X k_good k_mf_X12_apart k_st_X12_apart k_ml_X12_305 hB (As := [.int x6, .int x10]) (c_X12_apart l D tys base G x6 i8_x6 x10 i12_x10) ⟨rfl, rfl⟩ ⟨Nat.le_of_ble_eq_true rfl, Nat.le_of_ble_eq_true rfl⟩ ⟨Nat.le_of_ble_eq_true rfl, Nat.le_of_ble_eq_true rfl⟩ rfl rfl hl.1 (Nat.le_of_ble_eq_true rfl) dX12_drowns_26 (fun x14 G9 H locs hq hB => ?_)
      obtain ⟨rfl, i_x14⟩ := hq
      refine lv_aload_n hx hb dX12_drowns_29 rfl (lv_at hl 0 rfl) ?_
      refine iv_getr X ft_X12 hB a_h0 sh_12 0 (by decide) rfl k_fl_X12_7 dX12_drowns_30 (fun b15 g_b15 r_b15 e_b15 a_b15 => ?_)
      refine lv_sipush (v := 147) hx hb dX12_drowns_33 (by decide) ?_
      refine iv_wald_c X hB a_b15 q_147 (by decide) (lo := (-2147483648)) (hi' := 2147483647) (by decide) dX12_drowns_36 (fun x16 e_x16 i_x16 => ?_)
      refine lv_icmp_lt (tgt := 42) hx hb dX12_drowns_37 (by decide) (fun c17 => ?_) (fun c17 => ?_)
      · skip
        have i17_x16 : iv_R (-46) 2147483647 x16 := (i_x16.cutLo (n := (-46)) (iv_lt_l c17 i_x14 (by decide)))
        refine lv_iconst (v := 2) hx hb dX12_drowns_42 (by decide) ?_
        refine lv_aload_n hx hb dX12_drowns_43 rfl (lv_at hl 0 rfl) ?_
        refine lv_iload_n hx hb dX12_drowns_44 rfl (lv_at hl 1 rfl) ?_
        refine lv_aload_n hx hb dX12_drowns_45 rfl (lv_at hl 0 rfl) ?_
        refine lv_iload_n hx hb dX12_drowns_46 rfl (lv_at hl 2 rfl) ?_
        refine lv_iconst (v := 0) hx hb dX12_drowns_47 (by decide) ?_
        refine iv_cVi X k_good k_mf_X12_ofBell k_im_X12_ofBell k_sel_X12_ofBell k_ml_X12_282 ft_X12 hB a_h0 sh_12 (As := [.int x_1, .int 0]) (c_X12_ofBell l D tys base G h0 g_h0 r_h0 a_h0 x_1 i_x_1 0 (q_0.wk (by decide))) ⟨rfl, rfl⟩ ⟨Nat.le_of_ble_eq_true rfl, Nat.le_of_ble_eq_true rfl⟩ ⟨Nat.le_of_ble_eq_true rfl, Nat.le_of_ble_eq_true rfl⟩ rfl rfl hl.1 (Nat.le_of_ble_eq_true rfl) dX12_drowns_48 (fun x19 G9 H locs hq hB => ?_)
        obtain ⟨rfl, i_x19, cp20, cp21⟩ := hq
        have i21_x19 : iv_R 0 3 x19 := cp20 rfl
        refine lv_iload_n hx hb dX12_drowns_51 rfl (lv_at hl 3 rfl) ?_
        refine iv_cVi X k_good k_mf_X12_loudOf k_im_X12_loudOf k_sel_X12_loudOf k_ml_X12_308 ft_X12 hB a_h0 sh_12 (As := [.int x_0, .int x19, .int x_2]) (c_X12_loudOf l D tys base G h0 g_h0 r_h0 a_h0 x_0 i_x_0 x19 i21_x19 x_2 i_x_2) ⟨rfl, rfl⟩ ⟨Nat.le_of_ble_eq_true rfl, Nat.le_of_ble_eq_true rfl⟩ ⟨Nat.le_of_ble_eq_true rfl, Nat.le_of_ble_eq_true rfl⟩ rfl rfl hl.1 (Nat.le_of_ble_eq_true rfl) dX12_drowns_52 (fun x23 G9 H locs hq hB => ?_)
        obtain ⟨hm, i_x23⟩ := hq
        obtain ⟨G24, hG9⟩ : ∃ g, g = G9 := ⟨_, rfl⟩
        rw [← hG9] at hm hB
        have hM := hM.stp hm (by decide)
        have a_h0 := hm.at a_h0 (by decide)
        have a_b15 := hm.at a_b15 (by decide)
        refine lv_imul hx hb dX12_drowns_55 ?_
        refine lv_topi (fun x25 e_x25 => ?_)
        have i_x25 := iv_R.all x25
        refine lv_aload_n hx hb dX12_drowns_56 rfl (lv_at hl 0 rfl) ?_
        refine lv_iload_n hx hb dX12_drowns_57 rfl (lv_at hl 2 rfl) ?_
        refine lv_aload_n hx hb dX12_drowns_58 rfl (lv_at hl 0 rfl) ?_
        refine lv_iload_n hx hb dX12_drowns_59 rfl (lv_at hl 2 rfl) ?_
        refine lv_iconst (v := 0) hx hb dX12_drowns_60 (by decide) ?_
        refine iv_cVi X k_good k_mf_X12_ofBell k_im_X12_ofBell k_sel_X12_ofBell k_ml_X12_282 ft_X12 hB a_h0 sh_12 (As := [.int x_1, .int 0]) (c_X12_ofBell l D tys base G24 h0 g_h0 r_h0 a_h0 x_1 i_x_1 0 (q_0.wk (by decide))) ⟨rfl, rfl⟩ ⟨Nat.le_of_ble_eq_true rfl, Nat.le_of_ble_eq_true rfl⟩ ⟨Nat.le_of_ble_eq_true rfl, Nat.le_of_ble_eq_true rfl⟩ rfl rfl hl.1 (Nat.le_of_ble_eq_true rfl) dX12_drowns_61 (fun x26 G9 H locs hq hB => ?_)
        obtain ⟨rfl, i_x26, cp27, cp28⟩ := hq
        have i28_x26 : iv_R 0 3 x26 := cp27 rfl
        refine lv_iload_n hx hb dX12_drowns_64 rfl (lv_at hl 3 rfl) ?_
        refine iv_cVi X k_good k_mf_X12_loudOf k_im_X12_loudOf k_sel_X12_loudOf k_ml_X12_308 ft_X12 hB a_h0 sh_12 (As := [.int x_1, .int x26, .int x_2]) (c_X12_loudOf l D tys base G24 h0 g_h0 r_h0 a_h0 x_1 i_x_1 x26 i28_x26 x_2 i_x_2) ⟨rfl, rfl⟩ ⟨Nat.le_of_ble_eq_true rfl, Nat.le_of_ble_eq_true rfl⟩ ⟨Nat.le_of_ble_eq_true rfl, Nat.le_of_ble_eq_true rfl⟩ rfl rfl hl.1 (Nat.le_of_ble_eq_true rfl) dX12_drowns_65 (fun x30 G9 H locs hq hB => ?_)
        obtain ⟨hm, i_x30⟩ := hq
        obtain ⟨G31, hG9⟩ : ∃ g, g = G9 := ⟨_, rfl⟩
        rw [← hG9] at hm hB
        have hM := hM.stp hm (by decide)
        have a_h0 := hm.at a_h0 (by decide)
        have a_b15 := hm.at a_b15 (by decide)
        refine lv_icmp_lt (tgt := 75) hx hb dX12_drowns_68 (by decide) (fun c32 => ?_) (fun c32 => ?_)
        · skip
          have i32_x25 : iv_R (-2147483648) 2147483646 x25 := (i_x25.cutHi (n := 2147483646) (iv_lt_r c32 i_x30 (by decide)))
          have i33_x30 : iv_R (-2147483647) 2147483647 x30 := (i_x30.cutLo (n := (-2147483647)) (iv_lt_l c32 i_x25 (by decide)))
          refine lv_iconst (v := 0) hx hb dX12_drowns_75 (by decide) ?_
          exact iv_zret X hr hlocks hB (q_0.wk (by decide)) ⟨hM, (q_0.wk (by decide))⟩ dX12_drowns_76
        · skip
          refine lv_iconst (v := 1) hx hb dX12_drowns_71 (by decide) ?_
          refine lv_goto (tgt := 76) hx hb dX12_drowns_72 (by decide) ?_
          exact iv_zret X hr hlocks hB (q_1.wk (by decide)) ⟨hM, (q_1.wk (by decide))⟩ dX12_drowns_76
      · skip
        have i34_x16 : iv_R (-2147483648) 47 x16 := (i_x16.cutHi (n := 47) (iv_le_r (iv_nlt c17) i_x14))
        refine lv_iconst (v := 0) hx hb dX12_drowns_40 (by decide) ?_
        exact iv_zret X hr hlocks hB (q_0.wk (by decide)) ⟨hM, (q_0.wk (by decide))⟩ dX12_drowns_41
theorem dX12_isClear_0 : decode cX12_isClear 0 = .ok (.aload_n 0, 1) := by decide +kernel
theorem dX12_isClear_1 : decode cX12_isClear 1 = .ok (.iload_n 1, 1) := by decide +kernel
theorem dX12_isClear_2 : decode cX12_isClear 2 = .ok (.iload_n 2, 1) := by decide +kernel
theorem dX12_isClear_3 : decode cX12_isClear 3 = .ok (.invokevirtual 302, 3) := by decide +kernel
theorem dX12_isClear_6 : decode cX12_isClear 6 = .ok (.ifCond .ne 5, 3) := by decide +kernel
theorem dX12_isClear_9 : decode cX12_isClear 9 = .ok (.iconst 0, 1) := by decide +kernel
theorem dX12_isClear_10 : decode cX12_isClear 10 = .ok (.ireturn, 1) := by decide +kernel
theorem dX12_isClear_11 : decode cX12_isClear 11 = .ok (.iconst 0, 1) := by decide +kernel
theorem dX12_isClear_12 : decode cX12_isClear 12 = .ok (.istore_n 3, 1) := by decide +kernel
theorem dX12_isClear_13 : decode cX12_isClear 13 = .ok (.iload_n 3, 1) := by decide +kernel
theorem dX12_isClear_14 : decode cX12_isClear 14 = .ok (.aload_n 0, 1) := by decide +kernel
theorem dX12_isClear_15 : decode cX12_isClear 15 = .ok (.getfield 7, 3) := by decide +kernel
theorem dX12_isClear_18 : decode cX12_isClear 18 = .ok (.sipush 146, 3) := by decide +kernel
theorem dX12_isClear_21 : decode cX12_isClear 21 = .ok (.iaload, 1) := by decide +kernel
theorem dX12_isClear_22 : decode cX12_isClear 22 = .ok (.if_icmp .ge 21, 3) := by decide +kernel
theorem dX12_isClear_25 : decode cX12_isClear 25 = .ok (.aload_n 0, 1) := by decide +kernel
theorem dX12_isClear_26 : decode cX12_isClear 26 = .ok (.iload_n 3, 1) := by decide +kernel
theorem dX12_isClear_27 : decode cX12_isClear 27 = .ok (.iload_n 1, 1) := by decide +kernel
theorem dX12_isClear_28 : decode cX12_isClear 28 = .ok (.iload_n 2, 1) := by decide +kernel
theorem dX12_isClear_29 : decode cX12_isClear 29 = .ok (.invokevirtual 311, 3) := by decide +kernel
theorem dX12_isClear_32 : decode cX12_isClear 32 = .ok (.ifCond .eq 5, 3) := by decide +kernel
theorem dX12_isClear_35 : decode cX12_isClear 35 = .ok (.iconst 0, 1) := by decide +kernel
theorem dX12_isClear_36 : decode cX12_isClear 36 = .ok (.ireturn, 1) := by decide +kernel
theorem dX12_isClear_37 : decode cX12_isClear 37 = .ok (.iinc 3 1, 3) := by decide +kernel
theorem dX12_isClear_40 : decode cX12_isClear 40 = .ok (.goto (-27), 3) := by decide +kernel
theorem dX12_isClear_43 : decode cX12_isClear 43 = .ok (.iconst 1, 1) := by decide +kernel
theorem dX12_isClear_44 : decode cX12_isClear 44 = .ok (.ireturn, 1) := by decide +kernel
set_option maxHeartbeats 4000000 in
set_option maxRecDepth 100000 in
theorem c_X12_isClear (l : Launch) (D : va_G) (tys : List (ClassId × FieldType)) (base : Nat) (G : iv_G) (h0 : Nat) (g_h0 : Nat → Int32) (r_h0 : Nat → Nat) (a_h0 : G h0 = some (12, g_h0, r_h0)) (x_0 : Int32) (i_x_0 : iv_R 0 9 x_0) (x_1 : Int32) (i_x_1 : iv_R 0 23 x_1) : Met l yX12_isClear (Cond.code yX12_isClear cX12_isClear 4 (some .boolean) :: iv_W0) ({ frames := 6, cells := 0, slots := 0, locals := 142 }) (iv_Pc iv_sh D classes tys base G [.ref h0, .int x_0, .int x_1]) (iv_Qi iv_sh D classes tys base (fun v G' => iv_Md [67, 68] G G' ∧ iv_R 0 1 v)) 0 0 (iv_A base) := by
  refine iv_head (by decide) (Nat.le_of_ble_eq_true rfl) ?_
  intro p e s m args below meth c ls X hr hlocks hname hB hl
  have X := X
  have hx := X.1.1
  have hb := X.1.2.1
  have hM : iv_Md [67, 68] G G := iv_Md.rf
  have hl : lv_has ls 4 [(0, .ref h0), (1, .int x_0), (2, .int x_1)] := hl
  refine lv_aload_n hx hb dX12_isClear_0 rfl (lv_at hl 0 rfl) ?_
  refine lv_iload_n hx hb dX12_isClear_1 rfl (lv_at hl 1 rfl) ?_
  refine lv_iload_n hx hb dX12_isClear_2 rfl (lv_at hl 2 rfl) ?_
  refine iv_cVi X k_good k_mf_X12_sounds k_im_X12_sounds k_sel_X12_sounds k_ml_X12_302 ft_X12 hB a_h0 sh_12 (As := [.int x_0, .int x_1]) (c_X12_sounds l D tys base G h0 g_h0 r_h0 a_h0 x_0 i_x_0 x_1 i_x_1) ⟨rfl, rfl⟩ ⟨Nat.le_of_ble_eq_true rfl, Nat.le_of_ble_eq_true rfl⟩ ⟨Nat.le_of_ble_eq_true rfl, Nat.le_of_ble_eq_true rfl⟩ rfl rfl hl.1 (Nat.le_of_ble_eq_true rfl) dX12_isClear_3 (fun x1 G9 H locs hq hB => ?_)
  obtain ⟨rfl, i_x1⟩ := hq
  refine lv_if_ne (tgt := 11) hx hb dX12_isClear_6 (by decide) (fun c2 => ?_) (fun c2 => ?_)
  · skip
    have i2_x1 : iv_R 1 1 x1 := iv_ne_lo c2 i_x1 q_0 (by decide)
    refine lv_iconst (v := 0) hx hb dX12_isClear_11 (by decide) ?_
    refine lv_istore_n (lv' := [(3, .int 0), (0, .ref h0), (1, .int x_0), (2, .int x_1)]) hx hb dX12_isClear_12 rfl hl (by decide) rfl (fun ls hl => ?_)
    have L_13 : ∀ (n_13 : Nat) (G5 : iv_G) (hM : iv_Md [67, 68] G G5) (H : Heap) (locs : List Loc) (hB : iv_B iv_sh D classes tys base G5 s.heap H locs) (a_h0 : G5 h0 = some (12, g_h0, r_h0)) (x4 : Int32) (i_x4 : iv_R 0 10 x4) (hn_13 : (11 - x4.toInt).toNat < n_13) (ls : Array Slot) (hl : lv_has ls 4 [(3, .int x4), (0, .ref h0), (1, .int x_0), (2, .int x_1)]), W p l e ({ frames := 6, cells := 0, slots := 0, locals := 142 } : Room) s m args below meth c H locs 0 0 (MQ below (iv_Qi iv_sh D classes tys base (fun v G' => iv_Md [67, 68] G G' ∧ iv_R 0 1 v)) args s 0 0 (iv_A base)) (F0 m 13 ls []) := by
      intro n_13
      induction n_13 with
      | zero => intro G5 hM H locs hB a_h0 x4 i_x4 hn_13 ls hl; exact absurd hn_13 (Nat.not_lt_zero _)
      | succ n_13 ih_13 =>
        intro G5 hM H locs hB a_h0 x4 i_x4 hn_13 ls hl
        refine lv_iload_n hx hb dX12_isClear_13 rfl (lv_at hl 0 rfl) ?_
        refine lv_aload_n hx hb dX12_isClear_14 rfl (lv_at hl 1 rfl) ?_
        refine iv_getr X ft_X12 hB a_h0 sh_12 0 (by decide) rfl k_fl_X12_7 dX12_isClear_15 (fun b6 g_b6 r_b6 e_b6 a_b6 => ?_)
        refine lv_sipush (v := 146) hx hb dX12_isClear_18 (by decide) ?_
        refine iv_wald_c X hB a_b6 q_146 (by decide) (lo := 0) (hi' := 10) (by decide) dX12_isClear_21 (fun x7 e_x7 i_x7 => ?_)
        refine lv_icmp_ge (tgt := 43) hx hb dX12_isClear_22 (by decide) (fun c8 => ?_) (fun c8 => ?_)
        · skip
          refine lv_iconst (v := 1) hx hb dX12_isClear_43 (by decide) ?_
          exact iv_zret X hr hlocks hB (q_1.wk (by decide)) ⟨hM, (q_1.wk (by decide))⟩ dX12_isClear_44
        · skip
          have i8_x4 : iv_R 0 9 x4 := (i_x4.cutHi (n := 9) (iv_lt_r (iv_nle c8) i_x7 (by decide)))
          have i9_x7 : iv_R 1 10 x7 := (i_x7.cutLo (n := 1) (iv_lt_l (iv_nle c8) i_x4 (by decide)))
          refine lv_aload_n hx hb dX12_isClear_25 rfl (lv_at hl 1 rfl) ?_
          refine lv_iload_n hx hb dX12_isClear_26 rfl (lv_at hl 0 rfl) ?_
          refine lv_iload_n hx hb dX12_isClear_27 rfl (lv_at hl 2 rfl) ?_
          refine lv_iload_n hx hb dX12_isClear_28 rfl (lv_at hl 3 rfl) ?_
          refine iv_cVi X k_good k_mf_X12_drowns k_im_X12_drowns k_sel_X12_drowns k_ml_X12_311 ft_X12 hB a_h0 sh_12 (As := [.int x4, .int x_0, .int x_1]) (c_X12_drowns l D tys base G5 h0 g_h0 r_h0 a_h0 x4 i8_x4 x_0 i_x_0 x_1 i_x_1) ⟨rfl, rfl⟩ ⟨Nat.le_of_ble_eq_true rfl, Nat.le_of_ble_eq_true rfl⟩ ⟨Nat.le_of_ble_eq_true rfl, Nat.le_of_ble_eq_true rfl⟩ rfl rfl hl.1 (Nat.le_of_ble_eq_true rfl) dX12_isClear_29 (fun x11 G9 H locs hq hB => ?_)
          obtain ⟨hm, i_x11⟩ := hq
          obtain ⟨G12, hG9⟩ : ∃ g, g = G9 := ⟨_, rfl⟩
          rw [← hG9] at hm hB
          have hM := hM.stp hm (by decide)
          have a_h0 := hm.at a_h0 (by decide)
          have a_b6 := hm.at a_b6 (by decide)
          refine lv_if_eq (tgt := 37) hx hb dX12_isClear_32 (by decide) (fun c13 => ?_) (fun c13 => ?_)
          · skip
            have i13_x11 : iv_R 0 0 x11 := (i_x11.cutHi (n := 0) (iv_eq_r c13 q_0).2)
            refine iv_iinc hx hb i8_x4 (lo := 1) (hi := 10) (by decide) dX12_isClear_37 hl (k := 0) rfl (by decide) (fun x15 ls e_x15 i_x15 hl => ?_)
            have hl : lv_has ls 4 [(3, .int x15), (0, .ref h0), (1, .int x_0), (2, .int x_1)] := hl
            refine lv_goto (tgt := 13) hx hb dX12_isClear_40 (by decide) ?_
            exact ih_13 G12 hM _ _ hB a_h0 x15 (i_x15.wk (by decide)) (iv_mup (c := 1) i_x4 (by decide) (by decide) (by omega) hn_13) _ (lv_sub hl [0, 1, 2, 3] rfl)
          · skip
            have i15_x11 : iv_R 1 1 x11 := iv_ne_lo c13 i_x11 q_0 (by decide)
            refine lv_iconst (v := 0) hx hb dX12_isClear_35 (by decide) ?_
            exact iv_zret X hr hlocks hB (q_0.wk (by decide)) ⟨hM, (q_0.wk (by decide))⟩ dX12_isClear_36
    exact L_13 _ G hM _ _ hB a_h0 0 (q_0.wk (by decide)) (Nat.lt_succ_self _) _ (lv_sub hl [0, 1, 2, 3] rfl)
  · skip
    have i16_x1 : iv_R 0 0 x1 := (i_x1.cutHi (n := 0) (iv_eq_r c2 q_0).2)
    refine lv_iconst (v := 0) hx hb dX12_isClear_9 (by decide) ?_
    exact iv_zret X hr hlocks hB (q_0.wk (by decide)) ⟨hM, (q_0.wk (by decide))⟩ dX12_isClear_10
theorem dX12_clearOf_0 : decode cX12_clearOf 0 = .ok (.iconst 0, 1) := by decide +kernel
theorem dX12_clearOf_1 : decode cX12_clearOf 1 = .ok (.istore_n 2, 1) := by decide +kernel
theorem dX12_clearOf_2 : decode cX12_clearOf 2 = .ok (.iconst 0, 1) := by decide +kernel
theorem dX12_clearOf_3 : decode cX12_clearOf 3 = .ok (.istore_n 3, 1) := by decide +kernel
theorem dX12_clearOf_4 : decode cX12_clearOf 4 = .ok (.iload_n 3, 1) := by decide +kernel
theorem dX12_clearOf_5 : decode cX12_clearOf 5 = .ok (.bipush 24, 2) := by decide +kernel
theorem dX12_clearOf_7 : decode cX12_clearOf 7 = .ok (.if_icmp .ge 28, 3) := by decide +kernel
theorem dX12_clearOf_10 : decode cX12_clearOf 10 = .ok (.iload_n 2, 1) := by decide +kernel
theorem dX12_clearOf_11 : decode cX12_clearOf 11 = .ok (.aload_n 0, 1) := by decide +kernel
theorem dX12_clearOf_12 : decode cX12_clearOf 12 = .ok (.iload_n 1, 1) := by decide +kernel
theorem dX12_clearOf_13 : decode cX12_clearOf 13 = .ok (.iload_n 3, 1) := by decide +kernel
theorem dX12_clearOf_14 : decode cX12_clearOf 14 = .ok (.invokevirtual 314, 3) := by decide +kernel
theorem dX12_clearOf_17 : decode cX12_clearOf 17 = .ok (.ifCond .eq 9, 3) := by decide +kernel
theorem dX12_clearOf_20 : decode cX12_clearOf 20 = .ok (.iconst 1, 1) := by decide +kernel
theorem dX12_clearOf_21 : decode cX12_clearOf 21 = .ok (.iload_n 3, 1) := by decide +kernel
theorem dX12_clearOf_22 : decode cX12_clearOf 22 = .ok (.ishl, 1) := by decide +kernel
theorem dX12_clearOf_23 : decode cX12_clearOf 23 = .ok (.goto 4, 3) := by decide +kernel
theorem dX12_clearOf_26 : decode cX12_clearOf 26 = .ok (.iconst 0, 1) := by decide +kernel
theorem dX12_clearOf_27 : decode cX12_clearOf 27 = .ok (.ior, 1) := by decide +kernel
theorem dX12_clearOf_28 : decode cX12_clearOf 28 = .ok (.istore_n 2, 1) := by decide +kernel
theorem dX12_clearOf_29 : decode cX12_clearOf 29 = .ok (.iinc 3 1, 3) := by decide +kernel
theorem dX12_clearOf_32 : decode cX12_clearOf 32 = .ok (.goto (-28), 3) := by decide +kernel
theorem dX12_clearOf_35 : decode cX12_clearOf 35 = .ok (.iload_n 2, 1) := by decide +kernel
theorem dX12_clearOf_36 : decode cX12_clearOf 36 = .ok (.ireturn, 1) := by decide +kernel
set_option maxHeartbeats 4000000 in
set_option maxRecDepth 100000 in
theorem c_X12_clearOf (l : Launch) (D : va_G) (tys : List (ClassId × FieldType)) (base : Nat) (G : iv_G) (h0 : Nat) (g_h0 : Nat → Int32) (r_h0 : Nat → Nat) (a_h0 : G h0 = some (12, g_h0, r_h0)) (x_0 : Int32) (i_x_0 : iv_R 0 9 x_0) : Met l yX12_clearOf (Cond.code yX12_clearOf cX12_clearOf 4 (some .int) :: iv_W0) ({ frames := 7, cells := 0, slots := 0, locals := 165 }) (iv_Pc iv_sh D classes tys base G [.ref h0, .int x_0]) (iv_Qi iv_sh D classes tys base (fun v G' => iv_Md [67, 68] G G' ∧ iv_R 0 16777215 v)) 0 0 (iv_A base) := by
  refine iv_head (by decide) (Nat.le_of_ble_eq_true rfl) ?_
  intro p e s m args below meth c ls X hr hlocks hname hB hl
  have X := X
  have hx := X.1.1
  have hb := X.1.2.1
  have hM : iv_Md [67, 68] G G := iv_Md.rf
  have hl : lv_has ls 4 [(0, .ref h0), (1, .int x_0)] := hl
  refine lv_iconst (v := 0) hx hb dX12_clearOf_0 (by decide) ?_
  refine lv_istore_n (lv' := [(2, .int 0), (0, .ref h0), (1, .int x_0)]) hx hb dX12_clearOf_1 rfl hl (by decide) rfl (fun ls hl => ?_)
  refine lv_iconst (v := 0) hx hb dX12_clearOf_2 (by decide) ?_
  refine lv_istore_n (lv' := [(3, .int 0), (2, .int 0), (0, .ref h0), (1, .int x_0)]) hx hb dX12_clearOf_3 rfl hl (by decide) rfl (fun ls hl => ?_)
  have L_4 : ∀ (n_4 : Nat) (G3 : iv_G) (hM : iv_Md [67, 68] G G3) (H : Heap) (locs : List Loc) (hB : iv_B iv_sh D classes tys base G3 s.heap H locs) (a_h0 : G3 h0 = some (12, g_h0, r_h0)) (x1 : Int32) (i_x1 : iv_R 0 16777215 x1) (x2 : Int32) (i_x2 : iv_R 0 24 x2) (hn_4 : (25 - x2.toInt).toNat < n_4) (ls : Array Slot) (hl : lv_has ls 4 [(3, .int x2), (2, .int x1), (0, .ref h0), (1, .int x_0)]), W p l e ({ frames := 7, cells := 0, slots := 0, locals := 165 } : Room) s m args below meth c H locs 0 0 (MQ below (iv_Qi iv_sh D classes tys base (fun v G' => iv_Md [67, 68] G G' ∧ iv_R 0 16777215 v)) args s 0 0 (iv_A base)) (F0 m 4 ls []) := by
    intro n_4
    induction n_4 with
    | zero => intro G3 hM H locs hB a_h0 x1 i_x1 x2 i_x2 hn_4 ls hl; exact absurd hn_4 (Nat.not_lt_zero _)
    | succ n_4 ih_4 =>
      intro G3 hM H locs hB a_h0 x1 i_x1 x2 i_x2 hn_4 ls hl
      refine lv_iload_n hx hb dX12_clearOf_4 rfl (lv_at hl 0 rfl) ?_
      refine lv_bipush (v := 24) hx hb dX12_clearOf_5 (by decide) ?_
      refine lv_icmp_ge (tgt := 35) hx hb dX12_clearOf_7 (by decide) (fun c4 => ?_) (fun c4 => ?_)
      · skip
        have i4_x2 : iv_R 24 24 x2 := (i_x2.cutLo (n := 24) (iv_le_l c4 q_24))
        refine lv_iload_n hx hb dX12_clearOf_35 rfl (lv_at hl 1 rfl) ?_
        exact iv_iret X hr hlocks hB ⟨hM, i_x1⟩ dX12_clearOf_36
      · skip
        have i5_x2 : iv_R 0 23 x2 := (i_x2.cutHi (n := 23) (iv_lt_r (iv_nle c4) q_24 (by decide)))
        refine lv_iload_n hx hb dX12_clearOf_10 rfl (lv_at hl 1 rfl) ?_
        refine lv_aload_n hx hb dX12_clearOf_11 rfl (lv_at hl 2 rfl) ?_
        refine lv_iload_n hx hb dX12_clearOf_12 rfl (lv_at hl 3 rfl) ?_
        refine lv_iload_n hx hb dX12_clearOf_13 rfl (lv_at hl 0 rfl) ?_
        refine iv_cVi X k_good k_mf_X12_isClear k_im_X12_isClear k_sel_X12_isClear k_ml_X12_314 ft_X12 hB a_h0 sh_12 (As := [.int x_0, .int x2]) (c_X12_isClear l D tys base G3 h0 g_h0 r_h0 a_h0 x_0 i_x_0 x2 i5_x2) ⟨rfl, rfl⟩ ⟨Nat.le_of_ble_eq_true rfl, Nat.le_of_ble_eq_true rfl⟩ ⟨Nat.le_of_ble_eq_true rfl, Nat.le_of_ble_eq_true rfl⟩ rfl rfl hl.1 (Nat.le_of_ble_eq_true rfl) dX12_clearOf_14 (fun x7 G9 H locs hq hB => ?_)
        obtain ⟨hm, i_x7⟩ := hq
        obtain ⟨G8, hG9⟩ : ∃ g, g = G9 := ⟨_, rfl⟩
        rw [← hG9] at hm hB
        have hM := hM.stp hm (by decide)
        have a_h0 := hm.at a_h0 (by decide)
        refine lv_if_eq (tgt := 26) hx hb dX12_clearOf_17 (by decide) (fun c9 => ?_) (fun c9 => ?_)
        · skip
          have i9_x7 : iv_R 0 0 x7 := (i_x7.cutHi (n := 0) (iv_eq_r c9 q_0).2)
          refine lv_iconst (v := 0) hx hb dX12_clearOf_26 (by decide) ?_
          refine iv_ior hx hb i_x1 q_0 (k := 24) (hi := 16777215) (by decide) dX12_clearOf_27 (fun x11 e_x11 i_x11 => ?_)
          refine lv_istore_n (lv' := [(2, .int x11), (3, .int x2), (0, .ref h0), (1, .int x_0)]) hx hb dX12_clearOf_28 rfl hl (by decide) rfl (fun ls hl => ?_)
          refine iv_iinc hx hb i5_x2 (lo := 1) (hi := 24) (by decide) dX12_clearOf_29 hl (k := 1) rfl (by decide) (fun x12 ls e_x12 i_x12 hl => ?_)
          have hl : lv_has ls 4 [(3, .int x12), (2, .int x11), (0, .ref h0), (1, .int x_0)] := hl
          refine lv_goto (tgt := 4) hx hb dX12_clearOf_32 (by decide) ?_
          exact ih_4 G8 hM _ _ hB a_h0 x11 i_x11 x12 (i_x12.wk (by decide)) (iv_mup (c := 1) i_x2 (by decide) (by decide) (by omega) hn_4) _ (lv_sub hl [0, 1, 2, 3] rfl)
        · skip
          have i12_x7 : iv_R 1 1 x7 := iv_ne_lo c9 i_x7 q_0 (by decide)
          refine lv_iconst (v := 1) hx hb dX12_clearOf_20 (by decide) ?_
          refine lv_iload_n hx hb dX12_clearOf_21 rfl (lv_at hl 0 rfl) ?_
          refine iv_shl1 hx hb i5_x2 (lo := 1) (hi := 8388608) (by decide) dX12_clearOf_22 (fun x14 e_x14 i_x14 => ?_)
          refine lv_goto (tgt := 27) hx hb dX12_clearOf_23 (by decide) ?_
          refine iv_ior hx hb i_x1 i_x14 (k := 24) (hi := 16777215) (by decide) dX12_clearOf_27 (fun x15 e_x15 i_x15 => ?_)
          refine lv_istore_n (lv' := [(2, .int x15), (3, .int x2), (0, .ref h0), (1, .int x_0)]) hx hb dX12_clearOf_28 rfl hl (by decide) rfl (fun ls hl => ?_)
          refine iv_iinc hx hb i5_x2 (lo := 1) (hi := 24) (by decide) dX12_clearOf_29 hl (k := 1) rfl (by decide) (fun x16 ls e_x16 i_x16 hl => ?_)
          have hl : lv_has ls 4 [(3, .int x16), (2, .int x15), (0, .ref h0), (1, .int x_0)] := hl
          refine lv_goto (tgt := 4) hx hb dX12_clearOf_32 (by decide) ?_
          exact ih_4 G8 hM _ _ hB a_h0 x15 i_x15 x16 (i_x16.wk (by decide)) (iv_mup (c := 1) i_x2 (by decide) (by decide) (by omega) hn_4) _ (lv_sub hl [0, 1, 2, 3] rfl)
  exact L_4 _ G hM _ _ hB a_h0 0 (q_0.wk (by decide)) 0 (q_0.wk (by decide)) (Nat.lt_succ_self _) _ (lv_sub hl [0, 1, 2, 3] rfl)
theorem dX12_comingSays_0 : decode cX12_comingSays 0 = .ok (.aload_n 0, 1) := by decide +kernel
theorem dX12_comingSays_1 : decode cX12_comingSays 1 = .ok (.iload_n 1, 1) := by decide +kernel
theorem dX12_comingSays_2 : decode cX12_comingSays 2 = .ok (.invokevirtual 317, 3) := by decide +kernel
theorem dX12_comingSays_5 : decode cX12_comingSays 5 = .ok (.invokestatic 320, 3) := by decide +kernel
theorem dX12_comingSays_8 : decode cX12_comingSays 8 = .ok (.istore_n 3, 1) := by decide +kernel
theorem dX12_comingSays_9 : decode cX12_comingSays 9 = .ok (.aload_n 0, 1) := by decide +kernel
theorem dX12_comingSays_10 : decode cX12_comingSays 10 = .ok (.iload_n 1, 1) := by decide +kernel
theorem dX12_comingSays_11 : decode cX12_comingSays 11 = .ok (.invokevirtual 285, 3) := by decide +kernel
theorem dX12_comingSays_14 : decode cX12_comingSays 14 = .ok (.aload_n 0, 1) := by decide +kernel
theorem dX12_comingSays_15 : decode cX12_comingSays 15 = .ok (.getfield 34, 3) := by decide +kernel
theorem dX12_comingSays_18 : decode cX12_comingSays 18 = .ok (.bipush 9, 2) := by decide +kernel
theorem dX12_comingSays_20 : decode cX12_comingSays 20 = .ok (.iload_n 3, 1) := by decide +kernel
theorem dX12_comingSays_21 : decode cX12_comingSays 21 = .ok (.iastore, 1) := by decide +kernel
theorem dX12_comingSays_22 : decode cX12_comingSays 22 = .ok (.aload_n 0, 1) := by decide +kernel
theorem dX12_comingSays_23 : decode cX12_comingSays 23 = .ok (.getfield 34, 3) := by decide +kernel
theorem dX12_comingSays_26 : decode cX12_comingSays 26 = .ok (.bipush 10, 2) := by decide +kernel
theorem dX12_comingSays_28 : decode cX12_comingSays 28 = .ok (.aload_n 0, 1) := by decide +kernel
theorem dX12_comingSays_29 : decode cX12_comingSays 29 = .ok (.iload_n 1, 1) := by decide +kernel
theorem dX12_comingSays_30 : decode cX12_comingSays 30 = .ok (.bipush 7, 2) := by decide +kernel
theorem dX12_comingSays_32 : decode cX12_comingSays 32 = .ok (.invokevirtual 282, 3) := by decide +kernel
theorem dX12_comingSays_35 : decode cX12_comingSays 35 = .ok (.iastore, 1) := by decide +kernel
theorem dX12_comingSays_36 : decode cX12_comingSays 36 = .ok (.aload_n 0, 1) := by decide +kernel
theorem dX12_comingSays_37 : decode cX12_comingSays 37 = .ok (.getfield 34, 3) := by decide +kernel
theorem dX12_comingSays_40 : decode cX12_comingSays 40 = .ok (.bipush 11, 2) := by decide +kernel
theorem dX12_comingSays_42 : decode cX12_comingSays 42 = .ok (.aload_n 0, 1) := by decide +kernel
theorem dX12_comingSays_43 : decode cX12_comingSays 43 = .ok (.getfield 7, 3) := by decide +kernel
theorem dX12_comingSays_46 : decode cX12_comingSays 46 = .ok (.iconst 0, 1) := by decide +kernel
theorem dX12_comingSays_47 : decode cX12_comingSays 47 = .ok (.iaload, 1) := by decide +kernel
theorem dX12_comingSays_48 : decode cX12_comingSays 48 = .ok (.iastore, 1) := by decide +kernel
theorem dX12_comingSays_49 : decode cX12_comingSays 49 = .ok (.iload_n 2, 1) := by decide +kernel
theorem dX12_comingSays_50 : decode cX12_comingSays 50 = .ok (.bipush 21, 2) := by decide +kernel
theorem dX12_comingSays_52 : decode cX12_comingSays 52 = .ok (.if_icmp .ne 20, 3) := by decide +kernel
theorem dX12_comingSays_55 : decode cX12_comingSays 55 = .ok (.aload_n 0, 1) := by decide +kernel
theorem dX12_comingSays_56 : decode cX12_comingSays 56 = .ok (.iconst 1, 1) := by decide +kernel
theorem dX12_comingSays_57 : decode cX12_comingSays 57 = .ok (.bipush 21, 2) := by decide +kernel
theorem dX12_comingSays_59 : decode cX12_comingSays 59 = .ok (.bipush 10, 2) := by decide +kernel
theorem dX12_comingSays_61 : decode cX12_comingSays 61 = .ok (.iload_n 3, 1) := by decide +kernel
theorem dX12_comingSays_62 : decode cX12_comingSays 62 = .ok (.imul, 1) := by decide +kernel
theorem dX12_comingSays_63 : decode cX12_comingSays 63 = .ok (.sipush 1000, 3) := by decide +kernel
theorem dX12_comingSays_66 : decode cX12_comingSays 66 = .ok (.invokevirtual 292, 3) := by decide +kernel
theorem dX12_comingSays_69 : decode cX12_comingSays 69 = .ok (.goto 13, 3) := by decide +kernel
theorem dX12_comingSays_72 : decode cX12_comingSays 72 = .ok (.aload_n 0, 1) := by decide +kernel
theorem dX12_comingSays_73 : decode cX12_comingSays 73 = .ok (.iconst 1, 1) := by decide +kernel
theorem dX12_comingSays_74 : decode cX12_comingSays 74 = .ok (.bipush 22, 2) := by decide +kernel
theorem dX12_comingSays_76 : decode cX12_comingSays 76 = .ok (.iconst 0, 1) := by decide +kernel
theorem dX12_comingSays_77 : decode cX12_comingSays 77 = .ok (.bipush 99, 2) := by decide +kernel
theorem dX12_comingSays_79 : decode cX12_comingSays 79 = .ok (.invokevirtual 292, 3) := by decide +kernel
theorem dX12_comingSays_82 : decode cX12_comingSays 82 = .ok (.ireturn, 1) := by decide +kernel
set_option maxHeartbeats 4000000 in
set_option maxRecDepth 100000 in
theorem c_X12_comingSays (l : Launch) (D : va_G) (tys : List (ClassId × FieldType)) (base : Nat) (G : iv_G) (h0 : Nat) (g_h0 : Nat → Int32) (r_h0 : Nat → Nat) (a_h0 : G h0 = some (12, g_h0, r_h0)) (x_0 : Int32) (i_x_0 : iv_R 0 9 x_0) (x_1 : Int32) (i_x_1 : iv_R 21 22 x_1) : Met l yX12_comingSays (Cond.code yX12_comingSays cX12_comingSays 4 (some .int) :: iv_W0) ({ frames := 8, cells := 0, slots := 0, locals := 188 }) (iv_Pc iv_sh D classes tys base G [.ref h0, .int x_0, .int x_1]) (iv_Qi iv_sh D classes tys base (fun v G' => iv_Md [67, 68] G G' ∧ iv_R (-2147483648) 2147483647 v)) 0 0 (iv_A base) := by
  refine iv_head (by decide) (Nat.le_of_ble_eq_true rfl) ?_
  intro p e s m args below meth c ls X hr hlocks hname hB hl
  have X := X
  have hx := X.1.1
  have hb := X.1.2.1
  have hM : iv_Md [67, 68] G G := iv_Md.rf
  have hl : lv_has ls 4 [(0, .ref h0), (1, .int x_0), (2, .int x_1)] := hl
  refine lv_aload_n hx hb dX12_comingSays_0 rfl (lv_at hl 0 rfl) ?_
  refine lv_iload_n hx hb dX12_comingSays_1 rfl (lv_at hl 1 rfl) ?_
  refine iv_cVi X k_good k_mf_X12_clearOf k_im_X12_clearOf k_sel_X12_clearOf k_ml_X12_317 ft_X12 hB a_h0 sh_12 (As := [.int x_0]) (c_X12_clearOf l D tys base G h0 g_h0 r_h0 a_h0 x_0 i_x_0) ⟨rfl, rfl⟩ ⟨Nat.le_of_ble_eq_true rfl, Nat.le_of_ble_eq_true rfl⟩ ⟨Nat.le_of_ble_eq_true rfl, Nat.le_of_ble_eq_true rfl⟩ rfl rfl hl.1 (Nat.le_of_ble_eq_true rfl) dX12_comingSays_2 (fun x1 G9 H locs hq hB => ?_)
  obtain ⟨hm, i_x1⟩ := hq
  obtain ⟨G2, hG9⟩ : ∃ g, g = G9 := ⟨_, rfl⟩
  rw [← hG9] at hm hB
  have hM := hM.stp hm (by decide)
  have a_h0 := hm.at a_h0 (by decide)
  refine iv_cSi X k_good k_mf_X12_count k_st_X12_count k_ml_X12_320 hB (As := [.int x1]) (c_X12_count l D tys base G2 x1 (i_x1.wk (by decide))) ⟨rfl, rfl⟩ ⟨Nat.le_of_ble_eq_true rfl, Nat.le_of_ble_eq_true rfl⟩ ⟨Nat.le_of_ble_eq_true rfl, Nat.le_of_ble_eq_true rfl⟩ rfl rfl hl.1 (Nat.le_of_ble_eq_true rfl) dX12_comingSays_5 (fun x3 G9 H locs hq hB => ?_)
  obtain ⟨rfl, i_x3⟩ := hq
  refine lv_istore_n (lv' := [(3, .int x3), (0, .ref h0), (1, .int x_0), (2, .int x_1)]) hx hb dX12_comingSays_8 rfl hl (by decide) rfl (fun ls hl => ?_)
  refine lv_aload_n hx hb dX12_comingSays_9 rfl (lv_at hl 1 rfl) ?_
  refine lv_iload_n hx hb dX12_comingSays_10 rfl (lv_at hl 2 rfl) ?_
  refine iv_cVv X k_good k_mf_X12_lays k_im_X12_lays k_sel_X12_lays k_ml_X12_285 ft_X12 hB a_h0 sh_12 (As := [.int x_0]) (c_X12_lays l D tys base G2 h0 g_h0 r_h0 a_h0 x_0 i_x_0) ⟨rfl, rfl⟩ ⟨Nat.le_of_ble_eq_true rfl, Nat.le_of_ble_eq_true rfl⟩ ⟨Nat.le_of_ble_eq_true rfl, Nat.le_of_ble_eq_true rfl⟩ rfl rfl hl.1 (Nat.le_of_ble_eq_true rfl) dX12_comingSays_11 (fun G9 H locs hq hB => ?_)
  have hm := hq
  obtain ⟨G4, hG9⟩ : ∃ g, g = G9 := ⟨_, rfl⟩
  rw [← hG9] at hm hB
  have hM := hM.stp hm (by decide)
  have a_h0 := hm.at a_h0 (by decide)
  refine lv_aload_n hx hb dX12_comingSays_14 rfl (lv_at hl 1 rfl) ?_
  refine iv_getr X ft_X12 hB a_h0 sh_12 10 (by decide) rfl k_fl_X12_34 dX12_comingSays_15 (fun b5 g_b5 r_b5 e_b5 a_b5 => ?_)
  refine lv_bipush (v := 9) hx hb dX12_comingSays_18 (by decide) ?_
  refine lv_iload_n hx hb dX12_comingSays_20 rfl (lv_at hl 0 rfl) ?_
  refine iv_ast X hB a_b5 sh_68 (iv_in q_9 (by decide)) i_x3 dX12_comingSays_21 (fun H locs hB => ?_)
  have hm := iv_Md.ast (j := (9 : Int32).toNatClampNeg) (x := x3) a_b5 rfl (by decide)
  have h9 := iv_up_eq (G := G4) (a := b5) (k := (68, upd g_b5 (9 : Int32).toNatClampNeg x3, r_b5))
  generalize iv_up G4 b5 _ = G6 at hB hm h9
  have hM := hM.stp hm (by decide)
  have a_h0 := hm.at a_h0 (by decide)
  refine lv_aload_n hx hb dX12_comingSays_22 rfl (lv_at hl 1 rfl) ?_
  refine iv_getr X ft_X12 hB a_h0 sh_12 10 (by decide) rfl k_fl_X12_34 dX12_comingSays_23 (fun b8 g_b8 r_b8 e_b8 a_b8 => ?_)
  refine lv_bipush (v := 10) hx hb dX12_comingSays_26 (by decide) ?_
  refine lv_aload_n hx hb dX12_comingSays_28 rfl (lv_at hl 1 rfl) ?_
  refine lv_iload_n hx hb dX12_comingSays_29 rfl (lv_at hl 2 rfl) ?_
  refine lv_bipush (v := 7) hx hb dX12_comingSays_30 (by decide) ?_
  refine iv_cVi X k_good k_mf_X12_ofBell k_im_X12_ofBell k_sel_X12_ofBell k_ml_X12_282 ft_X12 hB a_h0 sh_12 (As := [.int x_0, .int 7]) (c_X12_ofBell l D tys base G6 h0 g_h0 r_h0 a_h0 x_0 i_x_0 7 (q_7.wk (by decide))) ⟨rfl, rfl⟩ ⟨Nat.le_of_ble_eq_true rfl, Nat.le_of_ble_eq_true rfl⟩ ⟨Nat.le_of_ble_eq_true rfl, Nat.le_of_ble_eq_true rfl⟩ rfl rfl hl.1 (Nat.le_of_ble_eq_true rfl) dX12_comingSays_32 (fun x9 G9 H locs hq hB => ?_)
  obtain ⟨rfl, i_x9, cp10, cp11⟩ := hq
  refine iv_ast X hB a_b8 sh_68 (iv_in q_10 (by decide)) i_x9 dX12_comingSays_35 (fun H locs hB => ?_)
  have hm := iv_Md.ast (j := (10 : Int32).toNatClampNeg) (x := x9) a_b8 rfl (by decide)
  have h9 := iv_up_eq (G := G6) (a := b8) (k := (68, upd g_b8 (10 : Int32).toNatClampNeg x9, r_b8))
  generalize iv_up G6 b8 _ = G12 at hB hm h9
  have hM := hM.stp hm (by decide)
  have a_h0 := hm.at a_h0 (by decide)
  refine lv_aload_n hx hb dX12_comingSays_36 rfl (lv_at hl 1 rfl) ?_
  refine iv_getr X ft_X12 hB a_h0 sh_12 10 (by decide) rfl k_fl_X12_34 dX12_comingSays_37 (fun b14 g_b14 r_b14 e_b14 a_b14 => ?_)
  refine lv_bipush (v := 11) hx hb dX12_comingSays_40 (by decide) ?_
  refine lv_aload_n hx hb dX12_comingSays_42 rfl (lv_at hl 1 rfl) ?_
  refine iv_getr X ft_X12 hB a_h0 sh_12 0 (by decide) rfl k_fl_X12_7 dX12_comingSays_43 (fun b15 g_b15 r_b15 e_b15 a_b15 => ?_)
  refine lv_iconst (v := 0) hx hb dX12_comingSays_46 (by decide) ?_
  refine iv_wald_c X hB a_b15 q_0 (by decide) (lo := (-2147483648)) (hi' := 2147483647) (by decide) dX12_comingSays_47 (fun x16 e_x16 i_x16 => ?_)
  refine iv_ast X hB a_b14 sh_68 (iv_in q_11 (by decide)) i_x16 dX12_comingSays_48 (fun H locs hB => ?_)
  have hm := iv_Md.ast (j := (11 : Int32).toNatClampNeg) (x := x16) a_b14 rfl (by decide)
  have h9 := iv_up_eq (G := G12) (a := b14) (k := (68, upd g_b14 (11 : Int32).toNatClampNeg x16, r_b14))
  generalize iv_up G12 b14 _ = G17 at hB hm h9
  have hM := hM.stp hm (by decide)
  have a_h0 := hm.at a_h0 (by decide)
  have a_b15 := hm.at a_b15 (by decide)
  refine lv_iload_n hx hb dX12_comingSays_49 rfl (lv_at hl 3 rfl) ?_
  refine lv_bipush (v := 21) hx hb dX12_comingSays_50 (by decide) ?_
  refine lv_icmp_ne (tgt := 72) hx hb dX12_comingSays_52 (by decide) (fun c19 => ?_) (fun c19 => ?_)
  · skip
    have i19_x_1 : iv_R 22 22 x_1 := iv_ne_lo c19 i_x_1 q_21 (by decide)
    refine lv_aload_n hx hb dX12_comingSays_72 rfl (lv_at hl 1 rfl) ?_
    refine lv_iconst (v := 1) hx hb dX12_comingSays_73 (by decide) ?_
    refine lv_bipush (v := 22) hx hb dX12_comingSays_74 (by decide) ?_
    refine lv_iconst (v := 0) hx hb dX12_comingSays_76 (by decide) ?_
    refine lv_bipush (v := 99) hx hb dX12_comingSays_77 (by decide) ?_
    obtain ⟨gv1, rv1, hv1⟩ := iv_getw hB a_h0
    refine iv_cVi X k_good k_mf_X12_says k_im_X12_says k_sel_X12_says k_ml_X12_292 ft_X12 hB a_h0 sh_12 (As := [.int 1, .int 22, .int 0, .int 99]) (c_X12_says l D tys base G17 h0 g_h0 r_h0 a_h0 1 (q_1.wk (by decide)) 22 (q_22.wk (by decide)) 0 (q_0.wk (by decide)) 99 (q_99.wk (by decide)) gv1 rv1 hv1) ⟨rfl, rfl⟩ ⟨Nat.le_of_ble_eq_true rfl, Nat.le_of_ble_eq_true rfl⟩ ⟨Nat.le_of_ble_eq_true rfl, Nat.le_of_ble_eq_true rfl⟩ rfl rfl hl.1 (Nat.le_of_ble_eq_true rfl) dX12_comingSays_79 (fun x21 G9 H locs hq hB => ?_)
    obtain ⟨hm, i_x21⟩ := hq
    obtain ⟨G22, hG9⟩ : ∃ g, g = G9 := ⟨_, rfl⟩
    rw [← hG9] at hm hB
    have hM := hM.stp hm (by decide)
    have a_h0 := hm.at a_h0 (by decide)
    have a_b15 := hm.at a_b15 (by decide)
    exact iv_iret X hr hlocks hB ⟨hM, i_x21⟩ dX12_comingSays_82
  · skip
    have i22_x_1 : iv_R 21 21 x_1 := (i_x_1.cutHi (n := 21) (iv_eq_r c19 q_21).2)
    refine lv_aload_n hx hb dX12_comingSays_55 rfl (lv_at hl 1 rfl) ?_
    refine lv_iconst (v := 1) hx hb dX12_comingSays_56 (by decide) ?_
    refine lv_bipush (v := 21) hx hb dX12_comingSays_57 (by decide) ?_
    refine lv_bipush (v := 10) hx hb dX12_comingSays_59 (by decide) ?_
    refine lv_iload_n hx hb dX12_comingSays_61 rfl (lv_at hl 0 rfl) ?_
    refine lv_imul hx hb dX12_comingSays_62 ?_
    refine lv_topi (fun x24 e_x24 => ?_)
    have i_x24 := iv_R.all x24
    refine lv_sipush (v := 1000) hx hb dX12_comingSays_63 (by decide) ?_
    obtain ⟨gv2, rv2, hv2⟩ := iv_getw hB a_h0
    refine iv_cVi X k_good k_mf_X12_says k_im_X12_says k_sel_X12_says k_ml_X12_292 ft_X12 hB a_h0 sh_12 (As := [.int 1, .int 21, .int x24, .int 1000]) (c_X12_says l D tys base G17 h0 g_h0 r_h0 a_h0 1 (q_1.wk (by decide)) 21 (q_21.wk (by decide)) x24 i_x24 1000 (q_1000.wk (by decide)) gv2 rv2 hv2) ⟨rfl, rfl⟩ ⟨Nat.le_of_ble_eq_true rfl, Nat.le_of_ble_eq_true rfl⟩ ⟨Nat.le_of_ble_eq_true rfl, Nat.le_of_ble_eq_true rfl⟩ rfl rfl hl.1 (Nat.le_of_ble_eq_true rfl) dX12_comingSays_66 (fun x25 G9 H locs hq hB => ?_)
    obtain ⟨hm, i_x25⟩ := hq
    obtain ⟨G26, hG9⟩ : ∃ g, g = G9 := ⟨_, rfl⟩
    rw [← hG9] at hm hB
    have hM := hM.stp hm (by decide)
    have a_h0 := hm.at a_h0 (by decide)
    have a_b15 := hm.at a_b15 (by decide)
    refine lv_goto (tgt := 82) hx hb dX12_comingSays_69 (by decide) ?_
    exact iv_iret X hr hlocks hB ⟨hM, i_x25⟩ dX12_comingSays_82
theorem dX12_comeOf_0 : decode cX12_comeOf 0 = .ok (.aload_n 0, 1) := by decide +kernel
theorem dX12_comeOf_1 : decode cX12_comeOf 1 = .ok (.iload_n 1, 1) := by decide +kernel
theorem dX12_comeOf_2 : decode cX12_comeOf 2 = .ok (.bipush 21, 2) := by decide +kernel
theorem dX12_comeOf_4 : decode cX12_comeOf 4 = .ok (.invokevirtual 323, 3) := by decide +kernel
theorem dX12_comeOf_7 : decode cX12_comeOf 7 = .ok (.ireturn, 1) := by decide +kernel
set_option maxHeartbeats 4000000 in
set_option maxRecDepth 100000 in
theorem c_X12_comeOf (l : Launch) (D : va_G) (tys : List (ClassId × FieldType)) (base : Nat) (G : iv_G) (h0 : Nat) (g_h0 : Nat → Int32) (r_h0 : Nat → Nat) (a_h0 : G h0 = some (12, g_h0, r_h0)) (x_0 : Int32) (i_x_0 : iv_R 0 9 x_0) : Met l yX12_comeOf (Cond.code yX12_comeOf cX12_comeOf 2 (some .int) :: iv_W0) ({ frames := 9, cells := 0, slots := 0, locals := 211 }) (iv_Pc iv_sh D classes tys base G [.ref h0, .int x_0]) (iv_Qi iv_sh D classes tys base (fun v G' => iv_Md [67, 68] G G' ∧ iv_R (-2147483648) 2147483647 v)) 0 0 (iv_A base) := by
  refine iv_head (by decide) (Nat.le_of_ble_eq_true rfl) ?_
  intro p e s m args below meth c ls X hr hlocks hname hB hl
  have X := X
  have hx := X.1.1
  have hb := X.1.2.1
  have hM : iv_Md [67, 68] G G := iv_Md.rf
  have hl : lv_has ls 2 [(0, .ref h0), (1, .int x_0)] := hl
  refine lv_aload_n hx hb dX12_comeOf_0 rfl (lv_at hl 0 rfl) ?_
  refine lv_iload_n hx hb dX12_comeOf_1 rfl (lv_at hl 1 rfl) ?_
  refine lv_bipush (v := 21) hx hb dX12_comeOf_2 (by decide) ?_
  refine iv_cVi X k_good k_mf_X12_comingSays k_im_X12_comingSays k_sel_X12_comingSays k_ml_X12_323 ft_X12 hB a_h0 sh_12 (As := [.int x_0, .int 21]) (c_X12_comingSays l D tys base G h0 g_h0 r_h0 a_h0 x_0 i_x_0 21 (q_21.wk (by decide))) ⟨rfl, rfl⟩ ⟨Nat.le_of_ble_eq_true rfl, Nat.le_of_ble_eq_true rfl⟩ ⟨Nat.le_of_ble_eq_true rfl, Nat.le_of_ble_eq_true rfl⟩ rfl rfl hl.1 (Nat.le_of_ble_eq_true rfl) dX12_comeOf_4 (fun x1 G9 H locs hq hB => ?_)
  obtain ⟨hm, i_x1⟩ := hq
  obtain ⟨G2, hG9⟩ : ∃ g, g = G9 := ⟨_, rfl⟩
  rw [← hG9] at hm hB
  have hM := hM.stp hm (by decide)
  have a_h0 := hm.at a_h0 (by decide)
  exact iv_iret X hr hlocks hB ⟨hM, i_x1⟩ dX12_comeOf_7
theorem dX12_comingWord_0 : decode cX12_comingWord 0 = .ok (.aload_n 0, 1) := by decide +kernel
theorem dX12_comingWord_1 : decode cX12_comingWord 1 = .ok (.ldc 131, 2) := by decide +kernel
theorem dX12_comingWord_3 : decode cX12_comingWord 3 = .ok (.invokevirtual 103, 3) := by decide +kernel
theorem dX12_comingWord_6 : decode cX12_comingWord 6 = .ok (.ifCond .eq 6, 3) := by decide +kernel
theorem dX12_comingWord_9 : decode cX12_comingWord 9 = .ok (.bipush 21, 2) := by decide +kernel
theorem dX12_comingWord_11 : decode cX12_comingWord 11 = .ok (.ireturn, 1) := by decide +kernel
theorem dX12_comingWord_12 : decode cX12_comingWord 12 = .ok (.aload_n 0, 1) := by decide +kernel
theorem dX12_comingWord_13 : decode cX12_comingWord 13 = .ok (.ldc 133, 2) := by decide +kernel
theorem dX12_comingWord_15 : decode cX12_comingWord 15 = .ok (.invokevirtual 103, 3) := by decide +kernel
theorem dX12_comingWord_18 : decode cX12_comingWord 18 = .ok (.ifCond .eq 6, 3) := by decide +kernel
theorem dX12_comingWord_21 : decode cX12_comingWord 21 = .ok (.bipush 22, 2) := by decide +kernel
theorem dX12_comingWord_23 : decode cX12_comingWord 23 = .ok (.ireturn, 1) := by decide +kernel
theorem dX12_comingWord_24 : decode cX12_comingWord 24 = .ok (.aload_n 0, 1) := by decide +kernel
theorem dX12_comingWord_25 : decode cX12_comingWord 25 = .ok (.ldc 135, 2) := by decide +kernel
theorem dX12_comingWord_27 : decode cX12_comingWord 27 = .ok (.invokevirtual 103, 3) := by decide +kernel
theorem dX12_comingWord_30 : decode cX12_comingWord 30 = .ok (.ifCond .eq 6, 3) := by decide +kernel
theorem dX12_comingWord_33 : decode cX12_comingWord 33 = .ok (.bipush 49, 2) := by decide +kernel
theorem dX12_comingWord_35 : decode cX12_comingWord 35 = .ok (.ireturn, 1) := by decide +kernel
theorem dX12_comingWord_36 : decode cX12_comingWord 36 = .ok (.aload_n 0, 1) := by decide +kernel
theorem dX12_comingWord_37 : decode cX12_comingWord 37 = .ok (.ldc 137, 2) := by decide +kernel
theorem dX12_comingWord_39 : decode cX12_comingWord 39 = .ok (.invokevirtual 103, 3) := by decide +kernel
theorem dX12_comingWord_42 : decode cX12_comingWord 42 = .ok (.ifCond .eq 6, 3) := by decide +kernel
theorem dX12_comingWord_45 : decode cX12_comingWord 45 = .ok (.bipush 50, 2) := by decide +kernel
theorem dX12_comingWord_47 : decode cX12_comingWord 47 = .ok (.ireturn, 1) := by decide +kernel
theorem dX12_comingWord_48 : decode cX12_comingWord 48 = .ok (.aload_n 0, 1) := by decide +kernel
theorem dX12_comingWord_49 : decode cX12_comingWord 49 = .ok (.ldc 139, 2) := by decide +kernel
theorem dX12_comingWord_51 : decode cX12_comingWord 51 = .ok (.invokevirtual 103, 3) := by decide +kernel
theorem dX12_comingWord_54 : decode cX12_comingWord 54 = .ok (.ifCond .eq 8, 3) := by decide +kernel
theorem dX12_comingWord_57 : decode cX12_comingWord 57 = .ok (.bipush 51, 2) := by decide +kernel
theorem dX12_comingWord_59 : decode cX12_comingWord 59 = .ok (.goto 7, 3) := by decide +kernel
theorem dX12_comingWord_62 : decode cX12_comingWord 62 = .ok (.aload_n 0, 1) := by decide +kernel
theorem dX12_comingWord_63 : decode cX12_comingWord 63 = .ok (.invokevirtual 128, 3) := by decide +kernel
theorem dX12_comingWord_66 : decode cX12_comingWord 66 = .ok (.ireturn, 1) := by decide +kernel
set_option maxHeartbeats 4000000 in
set_option maxRecDepth 100000 in
theorem c_X12_comingWord (l : Launch) (D : va_G) (tys : List (ClassId × FieldType)) (base : Nat) (G : iv_G) (h0 : Nat) (g_h0 : Nat → Int32) (r_h0 : Nat → Nat) (a_h0 : G h0 = some (12, g_h0, r_h0)) : Met l yX12_comingWord (Cond.code yX12_comingWord cX12_comingWord 1 (some .int) :: iv_W0) ({ frames := 6, cells := 0, slots := 0, locals := 128 }) (iv_Pc iv_sh D classes tys base G [.ref h0]) (iv_Qi iv_sh D classes tys base (fun v G' => G = G' ∧ iv_R 1 51 v)) 0 0 (iv_A base) := by
  refine iv_head (by decide) (Nat.le_of_ble_eq_true rfl) ?_
  intro p e s m args below meth c ls X hr hlocks hname hB hl
  have X := X
  have hx := X.1.1
  have hb := X.1.2.1
  have hl : lv_has ls 1 [(0, .ref h0)] := hl
  refine lv_aload_n hx hb dX12_comingWord_0 rfl (lv_at hl 0 rfl) ?_
  refine iv_sldc X (i := 18) rfl dX12_comingWord_1 ?_
  refine iv_cVi X k_good k_mf_X12_is k_im_X12_is k_sel_X12_is k_ml_X12_103 ft_X12 hB a_h0 sh_12 (As := [.ref (D.2 100 18)]) (c_X12_is l D tys base G h0 g_h0 r_h0 a_h0 18 (by decide)) ⟨rfl, rfl⟩ ⟨Nat.le_of_ble_eq_true rfl, Nat.le_of_ble_eq_true rfl⟩ ⟨Nat.le_of_ble_eq_true rfl, Nat.le_of_ble_eq_true rfl⟩ rfl rfl hl.1 (Nat.le_of_ble_eq_true rfl) dX12_comingWord_3 (fun x1 G9 H locs hq hB => ?_)
  obtain ⟨rfl, i_x1⟩ := hq
  refine lv_if_eq (tgt := 12) hx hb dX12_comingWord_6 (by decide) (fun c2 => ?_) (fun c2 => ?_)
  · skip
    have i2_x1 : iv_R 0 0 x1 := (i_x1.cutHi (n := 0) (iv_eq_r c2 q_0).2)
    refine lv_aload_n hx hb dX12_comingWord_12 rfl (lv_at hl 0 rfl) ?_
    refine iv_sldc X (i := 19) rfl dX12_comingWord_13 ?_
    refine iv_cVi X k_good k_mf_X12_is k_im_X12_is k_sel_X12_is k_ml_X12_103 ft_X12 hB a_h0 sh_12 (As := [.ref (D.2 100 19)]) (c_X12_is l D tys base G h0 g_h0 r_h0 a_h0 19 (by decide)) ⟨rfl, rfl⟩ ⟨Nat.le_of_ble_eq_true rfl, Nat.le_of_ble_eq_true rfl⟩ ⟨Nat.le_of_ble_eq_true rfl, Nat.le_of_ble_eq_true rfl⟩ rfl rfl hl.1 (Nat.le_of_ble_eq_true rfl) dX12_comingWord_15 (fun x4 G9 H locs hq hB => ?_)
    obtain ⟨rfl, i_x4⟩ := hq
    refine lv_if_eq (tgt := 24) hx hb dX12_comingWord_18 (by decide) (fun c5 => ?_) (fun c5 => ?_)
    · skip
      have i5_x4 : iv_R 0 0 x4 := (i_x4.cutHi (n := 0) (iv_eq_r c5 q_0).2)
      refine lv_aload_n hx hb dX12_comingWord_24 rfl (lv_at hl 0 rfl) ?_
      refine iv_sldc X (i := 20) rfl dX12_comingWord_25 ?_
      refine iv_cVi X k_good k_mf_X12_is k_im_X12_is k_sel_X12_is k_ml_X12_103 ft_X12 hB a_h0 sh_12 (As := [.ref (D.2 100 20)]) (c_X12_is l D tys base G h0 g_h0 r_h0 a_h0 20 (by decide)) ⟨rfl, rfl⟩ ⟨Nat.le_of_ble_eq_true rfl, Nat.le_of_ble_eq_true rfl⟩ ⟨Nat.le_of_ble_eq_true rfl, Nat.le_of_ble_eq_true rfl⟩ rfl rfl hl.1 (Nat.le_of_ble_eq_true rfl) dX12_comingWord_27 (fun x7 G9 H locs hq hB => ?_)
      obtain ⟨rfl, i_x7⟩ := hq
      refine lv_if_eq (tgt := 36) hx hb dX12_comingWord_30 (by decide) (fun c8 => ?_) (fun c8 => ?_)
      · skip
        have i8_x7 : iv_R 0 0 x7 := (i_x7.cutHi (n := 0) (iv_eq_r c8 q_0).2)
        refine lv_aload_n hx hb dX12_comingWord_36 rfl (lv_at hl 0 rfl) ?_
        refine iv_sldc X (i := 21) rfl dX12_comingWord_37 ?_
        refine iv_cVi X k_good k_mf_X12_is k_im_X12_is k_sel_X12_is k_ml_X12_103 ft_X12 hB a_h0 sh_12 (As := [.ref (D.2 100 21)]) (c_X12_is l D tys base G h0 g_h0 r_h0 a_h0 21 (by decide)) ⟨rfl, rfl⟩ ⟨Nat.le_of_ble_eq_true rfl, Nat.le_of_ble_eq_true rfl⟩ ⟨Nat.le_of_ble_eq_true rfl, Nat.le_of_ble_eq_true rfl⟩ rfl rfl hl.1 (Nat.le_of_ble_eq_true rfl) dX12_comingWord_39 (fun x10 G9 H locs hq hB => ?_)
        obtain ⟨rfl, i_x10⟩ := hq
        refine lv_if_eq (tgt := 48) hx hb dX12_comingWord_42 (by decide) (fun c11 => ?_) (fun c11 => ?_)
        · skip
          have i11_x10 : iv_R 0 0 x10 := (i_x10.cutHi (n := 0) (iv_eq_r c11 q_0).2)
          refine lv_aload_n hx hb dX12_comingWord_48 rfl (lv_at hl 0 rfl) ?_
          refine iv_sldc X (i := 22) rfl dX12_comingWord_49 ?_
          refine iv_cVi X k_good k_mf_X12_is k_im_X12_is k_sel_X12_is k_ml_X12_103 ft_X12 hB a_h0 sh_12 (As := [.ref (D.2 100 22)]) (c_X12_is l D tys base G h0 g_h0 r_h0 a_h0 22 (by decide)) ⟨rfl, rfl⟩ ⟨Nat.le_of_ble_eq_true rfl, Nat.le_of_ble_eq_true rfl⟩ ⟨Nat.le_of_ble_eq_true rfl, Nat.le_of_ble_eq_true rfl⟩ rfl rfl hl.1 (Nat.le_of_ble_eq_true rfl) dX12_comingWord_51 (fun x13 G9 H locs hq hB => ?_)
          obtain ⟨rfl, i_x13⟩ := hq
          refine lv_if_eq (tgt := 62) hx hb dX12_comingWord_54 (by decide) (fun c14 => ?_) (fun c14 => ?_)
          · skip
            have i14_x13 : iv_R 0 0 x13 := (i_x13.cutHi (n := 0) (iv_eq_r c14 q_0).2)
            refine lv_aload_n hx hb dX12_comingWord_62 rfl (lv_at hl 0 rfl) ?_
            refine iv_cVi X k_good k_mf_X12_asked k_im_X12_asked k_sel_X12_asked k_ml_X12_128 ft_X12 hB a_h0 sh_12 (As := []) (c_X12_asked l D tys base G h0 g_h0 r_h0 a_h0) ⟨rfl, rfl⟩ ⟨Nat.le_of_ble_eq_true rfl, Nat.le_of_ble_eq_true rfl⟩ ⟨Nat.le_of_ble_eq_true rfl, Nat.le_of_ble_eq_true rfl⟩ rfl rfl hl.1 (Nat.le_of_ble_eq_true rfl) dX12_comingWord_63 (fun x16 G9 H locs hq hB => ?_)
            obtain ⟨rfl, i_x16⟩ := hq
            exact iv_iret X hr hlocks hB ⟨rfl, (i_x16.wk (by decide))⟩ dX12_comingWord_66
          · skip
            have i16_x13 : iv_R 1 1 x13 := iv_ne_lo c14 i_x13 q_0 (by decide)
            refine lv_bipush (v := 51) hx hb dX12_comingWord_57 (by decide) ?_
            refine lv_goto (tgt := 66) hx hb dX12_comingWord_59 (by decide) ?_
            exact iv_iret X hr hlocks hB ⟨rfl, (q_51.wk (by decide))⟩ dX12_comingWord_66
        · skip
          have i17_x10 : iv_R 1 1 x10 := iv_ne_lo c11 i_x10 q_0 (by decide)
          refine lv_bipush (v := 50) hx hb dX12_comingWord_45 (by decide) ?_
          exact iv_iret X hr hlocks hB ⟨rfl, (q_50.wk (by decide))⟩ dX12_comingWord_47
      · skip
        have i18_x7 : iv_R 1 1 x7 := iv_ne_lo c8 i_x7 q_0 (by decide)
        refine lv_bipush (v := 49) hx hb dX12_comingWord_33 (by decide) ?_
        exact iv_iret X hr hlocks hB ⟨rfl, (q_49.wk (by decide))⟩ dX12_comingWord_35
    · skip
      have i19_x4 : iv_R 1 1 x4 := iv_ne_lo c5 i_x4 q_0 (by decide)
      refine lv_bipush (v := 22) hx hb dX12_comingWord_21 (by decide) ?_
      exact iv_iret X hr hlocks hB ⟨rfl, (q_22.wk (by decide))⟩ dX12_comingWord_23
  · skip
    have i20_x1 : iv_R 1 1 x1 := iv_ne_lo c2 i_x1 q_0 (by decide)
    refine lv_bipush (v := 21) hx hb dX12_comingWord_9 (by decide) ?_
    exact iv_iret X hr hlocks hB ⟨rfl, (q_21.wk (by decide))⟩ dX12_comingWord_11
theorem dX12_doQuarrel_0 : decode cX12_doQuarrel 0 = .ok (.iconst 0, 1) := by decide +kernel
theorem dX12_doQuarrel_1 : decode cX12_doQuarrel 1 = .ok (.istore_n 3, 1) := by decide +kernel
theorem dX12_doQuarrel_2 : decode cX12_doQuarrel 2 = .ok (.iload_n 3, 1) := by decide +kernel
theorem dX12_doQuarrel_3 : decode cX12_doQuarrel 3 = .ok (.bipush 24, 2) := by decide +kernel
theorem dX12_doQuarrel_5 : decode cX12_doQuarrel 5 = .ok (.if_icmp .ge 49, 3) := by decide +kernel
theorem dX12_doQuarrel_8 : decode cX12_doQuarrel 8 = .ok (.aload_n 0, 1) := by decide +kernel
theorem dX12_doQuarrel_9 : decode cX12_doQuarrel 9 = .ok (.iload_n 1, 1) := by decide +kernel
theorem dX12_doQuarrel_10 : decode cX12_doQuarrel 10 = .ok (.iload_n 3, 1) := by decide +kernel
theorem dX12_doQuarrel_11 : decode cX12_doQuarrel 11 = .ok (.invokevirtual 302, 3) := by decide +kernel
theorem dX12_doQuarrel_14 : decode cX12_doQuarrel 14 = .ok (.ifCond .eq 34, 3) := by decide +kernel
theorem dX12_doQuarrel_17 : decode cX12_doQuarrel 17 = .ok (.aload_n 0, 1) := by decide +kernel
theorem dX12_doQuarrel_18 : decode cX12_doQuarrel 18 = .ok (.iload_n 2, 1) := by decide +kernel
theorem dX12_doQuarrel_19 : decode cX12_doQuarrel 19 = .ok (.iload_n 3, 1) := by decide +kernel
theorem dX12_doQuarrel_20 : decode cX12_doQuarrel 20 = .ok (.invokevirtual 302, 3) := by decide +kernel
theorem dX12_doQuarrel_23 : decode cX12_doQuarrel 23 = .ok (.ifCond .eq 25, 3) := by decide +kernel
theorem dX12_doQuarrel_26 : decode cX12_doQuarrel 26 = .ok (.aload_n 0, 1) := by decide +kernel
theorem dX12_doQuarrel_27 : decode cX12_doQuarrel 27 = .ok (.iload_n 1, 1) := by decide +kernel
theorem dX12_doQuarrel_28 : decode cX12_doQuarrel 28 = .ok (.iload_n 2, 1) := by decide +kernel
theorem dX12_doQuarrel_29 : decode cX12_doQuarrel 29 = .ok (.iload_n 3, 1) := by decide +kernel
theorem dX12_doQuarrel_30 : decode cX12_doQuarrel 30 = .ok (.invokevirtual 311, 3) := by decide +kernel
theorem dX12_doQuarrel_33 : decode cX12_doQuarrel 33 = .ok (.ifCond .eq 15, 3) := by decide +kernel
theorem dX12_doQuarrel_36 : decode cX12_doQuarrel 36 = .ok (.aload_n 0, 1) := by decide +kernel
theorem dX12_doQuarrel_37 : decode cX12_doQuarrel 37 = .ok (.iload_n 2, 1) := by decide +kernel
theorem dX12_doQuarrel_38 : decode cX12_doQuarrel 38 = .ok (.iload_n 1, 1) := by decide +kernel
theorem dX12_doQuarrel_39 : decode cX12_doQuarrel 39 = .ok (.iload_n 3, 1) := by decide +kernel
theorem dX12_doQuarrel_40 : decode cX12_doQuarrel 40 = .ok (.invokevirtual 311, 3) := by decide +kernel
theorem dX12_doQuarrel_43 : decode cX12_doQuarrel 43 = .ok (.ifCond .eq 5, 3) := by decide +kernel
theorem dX12_doQuarrel_46 : decode cX12_doQuarrel 46 = .ok (.iconst 1, 1) := by decide +kernel
theorem dX12_doQuarrel_47 : decode cX12_doQuarrel 47 = .ok (.ireturn, 1) := by decide +kernel
theorem dX12_doQuarrel_48 : decode cX12_doQuarrel 48 = .ok (.iinc 3 1, 3) := by decide +kernel
theorem dX12_doQuarrel_51 : decode cX12_doQuarrel 51 = .ok (.goto (-49), 3) := by decide +kernel
theorem dX12_doQuarrel_54 : decode cX12_doQuarrel 54 = .ok (.iconst 0, 1) := by decide +kernel
theorem dX12_doQuarrel_55 : decode cX12_doQuarrel 55 = .ok (.ireturn, 1) := by decide +kernel
set_option maxHeartbeats 4000000 in
set_option maxRecDepth 100000 in
theorem c_X12_doQuarrel (l : Launch) (D : va_G) (tys : List (ClassId × FieldType)) (base : Nat) (G : iv_G) (h0 : Nat) (g_h0 : Nat → Int32) (r_h0 : Nat → Nat) (a_h0 : G h0 = some (12, g_h0, r_h0)) (x_0 : Int32) (i_x_0 : iv_R 0 9 x_0) (x_1 : Int32) (i_x_1 : iv_R 1 9 x_1) : Met l yX12_doQuarrel (Cond.code yX12_doQuarrel cX12_doQuarrel 4 (some .boolean) :: iv_W0) ({ frames := 6, cells := 0, slots := 0, locals := 142 }) (iv_Pc iv_sh D classes tys base G [.ref h0, .int x_0, .int x_1]) (iv_Qi iv_sh D classes tys base (fun v G' => iv_Md [67, 68] G G' ∧ iv_R 0 1 v)) 0 0 (iv_A base) := by
  refine iv_head (by decide) (Nat.le_of_ble_eq_true rfl) ?_
  intro p e s m args below meth c ls X hr hlocks hname hB hl
  have X := X
  have hx := X.1.1
  have hb := X.1.2.1
  have hM : iv_Md [67, 68] G G := iv_Md.rf
  have hl : lv_has ls 4 [(0, .ref h0), (1, .int x_0), (2, .int x_1)] := hl
  refine lv_iconst (v := 0) hx hb dX12_doQuarrel_0 (by decide) ?_
  refine lv_istore_n (lv' := [(3, .int 0), (0, .ref h0), (1, .int x_0), (2, .int x_1)]) hx hb dX12_doQuarrel_1 rfl hl (by decide) rfl (fun ls hl => ?_)
  have L_2 : ∀ (n_2 : Nat) (G2 : iv_G) (hM : iv_Md [67, 68] G G2) (H : Heap) (locs : List Loc) (hB : iv_B iv_sh D classes tys base G2 s.heap H locs) (a_h0 : G2 h0 = some (12, g_h0, r_h0)) (x1 : Int32) (i_x1 : iv_R 0 24 x1) (hn_2 : (25 - x1.toInt).toNat < n_2) (ls : Array Slot) (hl : lv_has ls 4 [(3, .int x1), (0, .ref h0), (1, .int x_0), (2, .int x_1)]), W p l e ({ frames := 6, cells := 0, slots := 0, locals := 142 } : Room) s m args below meth c H locs 0 0 (MQ below (iv_Qi iv_sh D classes tys base (fun v G' => iv_Md [67, 68] G G' ∧ iv_R 0 1 v)) args s 0 0 (iv_A base)) (F0 m 2 ls []) := by
    intro n_2
    induction n_2 with
    | zero => intro G2 hM H locs hB a_h0 x1 i_x1 hn_2 ls hl; exact absurd hn_2 (Nat.not_lt_zero _)
    | succ n_2 ih_2 =>
      intro G2 hM H locs hB a_h0 x1 i_x1 hn_2 ls hl
      refine lv_iload_n hx hb dX12_doQuarrel_2 rfl (lv_at hl 0 rfl) ?_
      refine lv_bipush (v := 24) hx hb dX12_doQuarrel_3 (by decide) ?_
      refine lv_icmp_ge (tgt := 54) hx hb dX12_doQuarrel_5 (by decide) (fun c3 => ?_) (fun c3 => ?_)
      · skip
        have i3_x1 : iv_R 24 24 x1 := (i_x1.cutLo (n := 24) (iv_le_l c3 q_24))
        refine lv_iconst (v := 0) hx hb dX12_doQuarrel_54 (by decide) ?_
        exact iv_zret X hr hlocks hB (q_0.wk (by decide)) ⟨hM, (q_0.wk (by decide))⟩ dX12_doQuarrel_55
      · skip
        have i4_x1 : iv_R 0 23 x1 := (i_x1.cutHi (n := 23) (iv_lt_r (iv_nle c3) q_24 (by decide)))
        refine lv_aload_n hx hb dX12_doQuarrel_8 rfl (lv_at hl 1 rfl) ?_
        refine lv_iload_n hx hb dX12_doQuarrel_9 rfl (lv_at hl 2 rfl) ?_
        refine lv_iload_n hx hb dX12_doQuarrel_10 rfl (lv_at hl 0 rfl) ?_
        refine iv_cVi X k_good k_mf_X12_sounds k_im_X12_sounds k_sel_X12_sounds k_ml_X12_302 ft_X12 hB a_h0 sh_12 (As := [.int x_0, .int x1]) (c_X12_sounds l D tys base G2 h0 g_h0 r_h0 a_h0 x_0 i_x_0 x1 i4_x1) ⟨rfl, rfl⟩ ⟨Nat.le_of_ble_eq_true rfl, Nat.le_of_ble_eq_true rfl⟩ ⟨Nat.le_of_ble_eq_true rfl, Nat.le_of_ble_eq_true rfl⟩ rfl rfl hl.1 (Nat.le_of_ble_eq_true rfl) dX12_doQuarrel_11 (fun x6 G9 H locs hq hB => ?_)
        obtain ⟨rfl, i_x6⟩ := hq
        refine lv_if_eq (tgt := 48) hx hb dX12_doQuarrel_14 (by decide) (fun c7 => ?_) (fun c7 => ?_)
        · skip
          have i7_x6 : iv_R 0 0 x6 := (i_x6.cutHi (n := 0) (iv_eq_r c7 q_0).2)
          refine iv_iinc hx hb i4_x1 (lo := 1) (hi := 24) (by decide) dX12_doQuarrel_48 hl (k := 0) rfl (by decide) (fun x9 ls e_x9 i_x9 hl => ?_)
          have hl : lv_has ls 4 [(3, .int x9), (0, .ref h0), (1, .int x_0), (2, .int x_1)] := hl
          refine lv_goto (tgt := 2) hx hb dX12_doQuarrel_51 (by decide) ?_
          exact ih_2 G2 hM _ _ hB a_h0 x9 (i_x9.wk (by decide)) (iv_mup (c := 1) i_x1 (by decide) (by decide) (by omega) hn_2) _ (lv_sub hl [0, 1, 2, 3] rfl)
        · skip
          have i9_x6 : iv_R 1 1 x6 := iv_ne_lo c7 i_x6 q_0 (by decide)
          refine lv_aload_n hx hb dX12_doQuarrel_17 rfl (lv_at hl 1 rfl) ?_
          refine lv_iload_n hx hb dX12_doQuarrel_18 rfl (lv_at hl 3 rfl) ?_
          refine lv_iload_n hx hb dX12_doQuarrel_19 rfl (lv_at hl 0 rfl) ?_
          refine iv_cVi X k_good k_mf_X12_sounds k_im_X12_sounds k_sel_X12_sounds k_ml_X12_302 ft_X12 hB a_h0 sh_12 (As := [.int x_1, .int x1]) (c_X12_sounds l D tys base G2 h0 g_h0 r_h0 a_h0 x_1 (i_x_1.wk (by decide)) x1 i4_x1) ⟨rfl, rfl⟩ ⟨Nat.le_of_ble_eq_true rfl, Nat.le_of_ble_eq_true rfl⟩ ⟨Nat.le_of_ble_eq_true rfl, Nat.le_of_ble_eq_true rfl⟩ rfl rfl hl.1 (Nat.le_of_ble_eq_true rfl) dX12_doQuarrel_20 (fun x11 G9 H locs hq hB => ?_)
          obtain ⟨rfl, i_x11⟩ := hq
          refine lv_if_eq (tgt := 48) hx hb dX12_doQuarrel_23 (by decide) (fun c12 => ?_) (fun c12 => ?_)
          · skip
            have i12_x11 : iv_R 0 0 x11 := (i_x11.cutHi (n := 0) (iv_eq_r c12 q_0).2)
            refine iv_iinc hx hb i4_x1 (lo := 1) (hi := 24) (by decide) dX12_doQuarrel_48 hl (k := 0) rfl (by decide) (fun x14 ls e_x14 i_x14 hl => ?_)
            have hl : lv_has ls 4 [(3, .int x14), (0, .ref h0), (1, .int x_0), (2, .int x_1)] := hl
            refine lv_goto (tgt := 2) hx hb dX12_doQuarrel_51 (by decide) ?_
            exact ih_2 G2 hM _ _ hB a_h0 x14 (i_x14.wk (by decide)) (iv_mup (c := 1) i_x1 (by decide) (by decide) (by omega) hn_2) _ (lv_sub hl [0, 1, 2, 3] rfl)
          · skip
            have i14_x11 : iv_R 1 1 x11 := iv_ne_lo c12 i_x11 q_0 (by decide)
            refine lv_aload_n hx hb dX12_doQuarrel_26 rfl (lv_at hl 1 rfl) ?_
            refine lv_iload_n hx hb dX12_doQuarrel_27 rfl (lv_at hl 2 rfl) ?_
            refine lv_iload_n hx hb dX12_doQuarrel_28 rfl (lv_at hl 3 rfl) ?_
            refine lv_iload_n hx hb dX12_doQuarrel_29 rfl (lv_at hl 0 rfl) ?_
            refine iv_cVi X k_good k_mf_X12_drowns k_im_X12_drowns k_sel_X12_drowns k_ml_X12_311 ft_X12 hB a_h0 sh_12 (As := [.int x_0, .int x_1, .int x1]) (c_X12_drowns l D tys base G2 h0 g_h0 r_h0 a_h0 x_0 i_x_0 x_1 (i_x_1.wk (by decide)) x1 i4_x1) ⟨rfl, rfl⟩ ⟨Nat.le_of_ble_eq_true rfl, Nat.le_of_ble_eq_true rfl⟩ ⟨Nat.le_of_ble_eq_true rfl, Nat.le_of_ble_eq_true rfl⟩ rfl rfl hl.1 (Nat.le_of_ble_eq_true rfl) dX12_doQuarrel_30 (fun x16 G9 H locs hq hB => ?_)
            obtain ⟨hm, i_x16⟩ := hq
            obtain ⟨G17, hG9⟩ : ∃ g, g = G9 := ⟨_, rfl⟩
            rw [← hG9] at hm hB
            have hM := hM.stp hm (by decide)
            have a_h0 := hm.at a_h0 (by decide)
            refine lv_if_eq (tgt := 48) hx hb dX12_doQuarrel_33 (by decide) (fun c18 => ?_) (fun c18 => ?_)
            · skip
              have i18_x16 : iv_R 0 0 x16 := (i_x16.cutHi (n := 0) (iv_eq_r c18 q_0).2)
              refine iv_iinc hx hb i4_x1 (lo := 1) (hi := 24) (by decide) dX12_doQuarrel_48 hl (k := 0) rfl (by decide) (fun x20 ls e_x20 i_x20 hl => ?_)
              have hl : lv_has ls 4 [(3, .int x20), (0, .ref h0), (1, .int x_0), (2, .int x_1)] := hl
              refine lv_goto (tgt := 2) hx hb dX12_doQuarrel_51 (by decide) ?_
              exact ih_2 G17 hM _ _ hB a_h0 x20 (i_x20.wk (by decide)) (iv_mup (c := 1) i_x1 (by decide) (by decide) (by omega) hn_2) _ (lv_sub hl [0, 1, 2, 3] rfl)
            · skip
              have i20_x16 : iv_R 1 1 x16 := iv_ne_lo c18 i_x16 q_0 (by decide)
              refine lv_aload_n hx hb dX12_doQuarrel_36 rfl (lv_at hl 1 rfl) ?_
              refine lv_iload_n hx hb dX12_doQuarrel_37 rfl (lv_at hl 3 rfl) ?_
              refine lv_iload_n hx hb dX12_doQuarrel_38 rfl (lv_at hl 2 rfl) ?_
              refine lv_iload_n hx hb dX12_doQuarrel_39 rfl (lv_at hl 0 rfl) ?_
              refine iv_cVi X k_good k_mf_X12_drowns k_im_X12_drowns k_sel_X12_drowns k_ml_X12_311 ft_X12 hB a_h0 sh_12 (As := [.int x_1, .int x_0, .int x1]) (c_X12_drowns l D tys base G17 h0 g_h0 r_h0 a_h0 x_1 (i_x_1.wk (by decide)) x_0 i_x_0 x1 i4_x1) ⟨rfl, rfl⟩ ⟨Nat.le_of_ble_eq_true rfl, Nat.le_of_ble_eq_true rfl⟩ ⟨Nat.le_of_ble_eq_true rfl, Nat.le_of_ble_eq_true rfl⟩ rfl rfl hl.1 (Nat.le_of_ble_eq_true rfl) dX12_doQuarrel_40 (fun x22 G9 H locs hq hB => ?_)
              obtain ⟨hm, i_x22⟩ := hq
              obtain ⟨G23, hG9⟩ : ∃ g, g = G9 := ⟨_, rfl⟩
              rw [← hG9] at hm hB
              have hM := hM.stp hm (by decide)
              have a_h0 := hm.at a_h0 (by decide)
              refine lv_if_eq (tgt := 48) hx hb dX12_doQuarrel_43 (by decide) (fun c24 => ?_) (fun c24 => ?_)
              · skip
                have i24_x22 : iv_R 0 0 x22 := (i_x22.cutHi (n := 0) (iv_eq_r c24 q_0).2)
                refine iv_iinc hx hb i4_x1 (lo := 1) (hi := 24) (by decide) dX12_doQuarrel_48 hl (k := 0) rfl (by decide) (fun x26 ls e_x26 i_x26 hl => ?_)
                have hl : lv_has ls 4 [(3, .int x26), (0, .ref h0), (1, .int x_0), (2, .int x_1)] := hl
                refine lv_goto (tgt := 2) hx hb dX12_doQuarrel_51 (by decide) ?_
                exact ih_2 G23 hM _ _ hB a_h0 x26 (i_x26.wk (by decide)) (iv_mup (c := 1) i_x1 (by decide) (by decide) (by omega) hn_2) _ (lv_sub hl [0, 1, 2, 3] rfl)
              · skip
                have i26_x22 : iv_R 1 1 x22 := iv_ne_lo c24 i_x22 q_0 (by decide)
                refine lv_iconst (v := 1) hx hb dX12_doQuarrel_46 (by decide) ?_
                exact iv_zret X hr hlocks hB (q_1.wk (by decide)) ⟨hM, (q_1.wk (by decide))⟩ dX12_doQuarrel_47
  exact L_2 _ G hM _ _ hB a_h0 0 (q_0.wk (by decide)) (Nat.lt_succ_self _) _ (lv_sub hl [0, 1, 2, 3] rfl)
