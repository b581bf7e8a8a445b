theorem dX11_loud_0 : decode cX11_loud 0 = .ok (.aload_n 0, 1) := by decide +kernel
theorem dX11_loud_1 : decode cX11_loud 1 = .ok (.getfield 12, 3) := by decide +kernel
theorem dX11_loud_4 : decode cX11_loud 4 = .ok (.iload_n 1, 1) := by decide +kernel
theorem dX11_loud_5 : decode cX11_loud 5 = .ok (.invokevirtual 119, 3) := by decide +kernel
theorem dX11_loud_8 : decode cX11_loud 8 = .ok (.ifCond .eq 17, 3) := by decide +kernel
theorem dX11_loud_11 : decode cX11_loud 11 = .ok (.iload_n 2, 1) := by decide +kernel
theorem dX11_loud_12 : decode cX11_loud 12 = .ok (.invokestatic 79, 3) := by decide +kernel
theorem dX11_loud_15 : decode cX11_loud 15 = .ok (.ifCond .eq 10, 3) := by decide +kernel
theorem dX11_loud_18 : decode cX11_loud 18 = .ok (.iload_n 3, 1) := by decide +kernel
theorem dX11_loud_19 : decode cX11_loud 19 = .ok (.invokestatic 264, 3) := by decide +kernel
theorem dX11_loud_22 : decode cX11_loud 22 = .ok (.ifCond .ne 5, 3) := by decide +kernel
theorem dX11_loud_25 : decode cX11_loud 25 = .ok (.iconst (-1), 1) := by decide +kernel
theorem dX11_loud_26 : decode cX11_loud 26 = .ok (.ireturn, 1) := by decide +kernel
theorem dX11_loud_27 : decode cX11_loud 27 = .ok (.aload_n 0, 1) := by decide +kernel
theorem dX11_loud_28 : decode cX11_loud 28 = .ok (.getfield 42, 3) := by decide +kernel
theorem dX11_loud_31 : decode cX11_loud 31 = .ok (.iload_n 1, 1) := by decide +kernel
theorem dX11_loud_32 : decode cX11_loud 32 = .ok (.iload_n 2, 1) := by decide +kernel
theorem dX11_loud_33 : decode cX11_loud 33 = .ok (.iload_n 3, 1) := by decide +kernel
theorem dX11_loud_34 : decode cX11_loud 34 = .ok (.invokevirtual 267, 3) := by decide +kernel
theorem dX11_loud_37 : decode cX11_loud 37 = .ok (.ireturn, 1) := by decide +kernel
set_option maxHeartbeats 4000000 in
set_option maxRecDepth 100000 in
theorem c_X11_loud (l : Launch) (D : va_G) (tys : List (ClassId × FieldType)) (base : Nat) (G : iv_G) (h0 : Nat) (g_h0 : Nat → Int32) (r_h0 : Nat → Nat) (a_h0 : G h0 = some (11, g_h0, r_h0)) (x_0 : Int32) (i_x_0 : iv_R (-2147483648) 2147483647 x_0) (x_1 : Int32) (i_x_1 : iv_R (-2147483648) 2147483647 x_1) (x_2 : Int32) (i_x_2 : iv_R (-2147483648) 2147483647 x_2) : Met l yX11_loud (Cond.code yX11_loud cX11_loud 4 (some .int) :: iv_W0) ({ frames := 4, cells := 0, slots := 0, locals := 100 }) (iv_Pc iv_sh D classes tys base G [.ref h0, .int x_0, .int x_1, .int x_2]) (iv_Qi iv_sh D classes tys base (fun v G' => iv_Md [28, 30] G G' ∧ iv_R (-1) 999 v)) 0 0 (iv_A base) := by
  refine iv_head (by decide) (Nat.le_of_ble_eq_true rfl) ?_
  intro p e s m args below meth c ls X hr hlocks hname hB hl
  have X := X
  have hx := X.1.1
  have hb := X.1.2.1
  have hM : iv_Md [28, 30] G G := iv_Md.rf
  have hl : lv_has ls 4 [(0, .ref h0), (1, .int x_0), (2, .int x_1), (3, .int x_2)] := hl
  refine lv_aload_n hx hb dX11_loud_0 rfl (lv_at hl 0 rfl) ?_
  refine iv_getr X ft_X11 hB a_h0 sh_11 0 (by decide) rfl k_fl_X11_12 dX11_loud_1 (fun b1 g_b1 r_b1 e_b1 a_b1 => ?_)
  refine lv_iload_n hx hb dX11_loud_4 rfl (lv_at hl 1 rfl) ?_
  refine iv_cVi X k_good k_mf_X5_hasBell k_im_X5_hasBell k_sel_X5_hasBell k_ml_X11_119 ft_X5 hB a_b1 sh_5 (As := [.int x_0]) (c_X5_hasBell l D tys base G b1 g_b1 r_b1 a_b1 x_0 i_x_0) ⟨rfl, rfl⟩ ⟨Nat.le_of_ble_eq_true rfl, Nat.le_of_ble_eq_true rfl⟩ ⟨Nat.le_of_ble_eq_true rfl, Nat.le_of_ble_eq_true rfl⟩ rfl rfl hl.1 (Nat.le_of_ble_eq_true rfl) dX11_loud_5 (fun x2 G9 H locs hq hB => ?_)
  obtain ⟨rfl, i_x2, hp3⟩ := hq
  refine lv_if_eq (tgt := 25) hx hb dX11_loud_8 (by decide) (fun c4 => ?_) (fun c4 => ?_)
  · skip
    have i4_x2 : iv_R 0 0 x2 := (i_x2.cutHi (n := 0) (iv_eq_r c4 q_0).2)
    refine lv_iconst (v := (-1)) hx hb dX11_loud_25 (by decide) ?_
    exact iv_iret X hr hlocks hB ⟨hM, (q_n1.wk (by decide))⟩ dX11_loud_26
  · skip
    have i5_x2 : iv_R 1 1 x2 := iv_ne_lo c4 i_x2 q_0 (by decide)
    have i6_x_0 : iv_R 0 9 x_0 := ((i_x_0.cutLo (n := 0) (hp3 c4).1).cutHi (n := 9) (hp3 c4).2)
    refine lv_iload_n hx hb dX11_loud_11 rfl (lv_at hl 2 rfl) ?_
    refine iv_cSi X k_good k_mf_X11_isTower k_st_X11_isTower k_ml_X11_79 hB (As := [.int x_1]) (c_X11_isTower l D tys base G x_1 i_x_1) ⟨rfl, rfl⟩ ⟨Nat.le_of_ble_eq_true rfl, Nat.le_of_ble_eq_true rfl⟩ ⟨Nat.le_of_ble_eq_true rfl, Nat.le_of_ble_eq_true rfl⟩ rfl rfl hl.1 (Nat.le_of_ble_eq_true rfl) dX11_loud_12 (fun x8 G9 H locs hq hB => ?_)
    obtain ⟨rfl, i_x8, hp9⟩ := hq
    refine lv_if_eq (tgt := 25) hx hb dX11_loud_15 (by decide) (fun c10 => ?_) (fun c10 => ?_)
    · skip
      have i10_x8 : iv_R 0 0 x8 := (i_x8.cutHi (n := 0) (iv_eq_r c10 q_0).2)
      refine lv_iconst (v := (-1)) hx hb dX11_loud_25 (by decide) ?_
      exact iv_iret X hr hlocks hB ⟨hM, (q_n1.wk (by decide))⟩ dX11_loud_26
    · skip
      have i11_x8 : iv_R 1 1 x8 := iv_ne_lo c10 i_x8 q_0 (by decide)
      have i12_x_1 : iv_R 0 3 x_1 := ((i_x_1.cutLo (n := 0) (hp9 c10).1).cutHi (n := 3) (hp9 c10).2)
      refine lv_iload_n hx hb dX11_loud_18 rfl (lv_at hl 3 rfl) ?_
      refine iv_cSi X k_good k_mf_X11_isHour k_st_X11_isHour k_ml_X11_264 hB (As := [.int x_2]) (c_X11_isHour l D tys base G x_2 i_x_2) ⟨rfl, rfl⟩ ⟨Nat.le_of_ble_eq_true rfl, Nat.le_of_ble_eq_true rfl⟩ ⟨Nat.le_of_ble_eq_true rfl, Nat.le_of_ble_eq_true rfl⟩ rfl rfl hl.1 (Nat.le_of_ble_eq_true rfl) dX11_loud_19 (fun x14 G9 H locs hq hB => ?_)
      obtain ⟨rfl, i_x14, hp15⟩ := hq
      refine lv_if_ne (tgt := 27) hx hb dX11_loud_22 (by decide) (fun c16 => ?_) (fun c16 => ?_)
      · skip
        have i16_x14 : iv_R 1 1 x14 := iv_ne_lo c16 i_x14 q_0 (by decide)
        have i17_x_2 : iv_R 0 23 x_2 := ((i_x_2.cutLo (n := 0) (hp15 c16).1).cutHi (n := 23) (hp15 c16).2)
        refine lv_aload_n hx hb dX11_loud_27 rfl (lv_at hl 0 rfl) ?_
        refine iv_getr X ft_X11 hB a_h0 sh_11 7 (by decide) rfl k_fl_X11_42 dX11_loud_28 (fun b19 g_b19 r_b19 e_b19 a_b19 => ?_)
        refine lv_iload_n hx hb dX11_loud_31 rfl (lv_at hl 1 rfl) ?_
        refine lv_iload_n hx hb dX11_loud_32 rfl (lv_at hl 2 rfl) ?_
        refine lv_iload_n hx hb dX11_loud_33 rfl (lv_at hl 3 rfl) ?_
        refine iv_cVi X k_good k_mf_X2_loudAt k_im_X2_loudAt k_sel_X2_loudAt k_ml_X11_267 ft_X2 hB a_b19 sh_2 (As := [.int x_0, .int x_1, .int x_2]) (c_X2_loudAt l D tys base G b19 g_b19 r_b19 a_b19 x_0 i6_x_0 x_1 (i12_x_1.wk (by decide)) x_2 i17_x_2) ⟨rfl, rfl⟩ ⟨Nat.le_of_ble_eq_true rfl, Nat.le_of_ble_eq_true rfl⟩ ⟨Nat.le_of_ble_eq_true rfl, Nat.le_of_ble_eq_true rfl⟩ rfl rfl hl.1 (Nat.le_of_ble_eq_true rfl) dX11_loud_34 (fun x20 G9 H locs hq hB => ?_)
        obtain ⟨hm, i_x20⟩ := hq
        obtain ⟨G21, hG9⟩ : ∃ g, g = G9 := ⟨_, rfl⟩
        rw [← hG9] at hm hB
        have hM := hM.stp hm (by decide)
        have a_h0 := hm.at a_h0 (by decide)
        exact iv_iret X hr hlocks hB ⟨hM, (i_x20.wk (by decide))⟩ dX11_loud_37
      · skip
        have i21_x14 : iv_R 0 0 x14 := (i_x14.cutHi (n := 0) (iv_eq_r c16 q_0).2)
        refine lv_iconst (v := (-1)) hx hb dX11_loud_25 (by decide) ?_
        exact iv_iret X hr hlocks hB ⟨hM, (q_n1.wk (by decide))⟩ dX11_loud_26
theorem dX11_louder_0 : decode cX11_louder 0 = .ok (.iload_n 1, 1) := by decide +kernel
theorem dX11_louder_1 : decode cX11_louder 1 = .ok (.iconst 0, 1) := by decide +kernel
theorem dX11_louder_2 : decode cX11_louder 2 = .ok (.sipush 999, 3) := by decide +kernel
theorem dX11_louder_5 : decode cX11_louder 5 = .ok (.invokestatic 83, 3) := by decide +kernel
theorem dX11_louder_8 : decode cX11_louder 8 = .ok (.ifCond .eq 40, 3) := by decide +kernel
theorem dX11_louder_11 : decode cX11_louder 11 = .ok (.iload_n 2, 1) := by decide +kernel
theorem dX11_louder_12 : decode cX11_louder 12 = .ok (.iconst 0, 1) := by decide +kernel
theorem dX11_louder_13 : decode cX11_louder 13 = .ok (.sipush 999, 3) := by decide +kernel
theorem dX11_louder_16 : decode cX11_louder 16 = .ok (.invokestatic 83, 3) := by decide +kernel
theorem dX11_louder_19 : decode cX11_louder 19 = .ok (.ifCond .eq 29, 3) := by decide +kernel
theorem dX11_louder_22 : decode cX11_louder 22 = .ok (.iload_n 3, 1) := by decide +kernel
theorem dX11_louder_23 : decode cX11_louder 23 = .ok (.iconst 0, 1) := by decide +kernel
theorem dX11_louder_24 : decode cX11_louder 24 = .ok (.bipush 9, 2) := by decide +kernel
theorem dX11_louder_26 : decode cX11_louder 26 = .ok (.invokestatic 83, 3) := by decide +kernel
theorem dX11_louder_29 : decode cX11_louder 29 = .ok (.ifCond .eq 19, 3) := by decide +kernel
theorem dX11_louder_32 : decode cX11_louder 32 = .ok (.iload 4, 2) := by decide +kernel
theorem dX11_louder_34 : decode cX11_louder 34 = .ok (.iconst 0, 1) := by decide +kernel
theorem dX11_louder_35 : decode cX11_louder 35 = .ok (.sipush 999, 3) := by decide +kernel
theorem dX11_louder_38 : decode cX11_louder 38 = .ok (.invokestatic 83, 3) := by decide +kernel
theorem dX11_louder_41 : decode cX11_louder 41 = .ok (.ifCond .eq 7, 3) := by decide +kernel
theorem dX11_louder_44 : decode cX11_louder 44 = .ok (.iconst 1, 1) := by decide +kernel
theorem dX11_louder_45 : decode cX11_louder 45 = .ok (.goto 4, 3) := by decide +kernel
theorem dX11_louder_48 : decode cX11_louder 48 = .ok (.iconst 0, 1) := by decide +kernel
theorem dX11_louder_49 : decode cX11_louder 49 = .ok (.istore 7, 2) := by decide +kernel
theorem dX11_louder_51 : decode cX11_louder 51 = .ok (.iload 7, 2) := by decide +kernel
theorem dX11_louder_53 : decode cX11_louder 53 = .ok (.ifCond .eq 30, 3) := by decide +kernel
theorem dX11_louder_56 : decode cX11_louder 56 = .ok (.iload 6, 2) := by decide +kernel
theorem dX11_louder_58 : decode cX11_louder 58 = .ok (.iconst 0, 1) := by decide +kernel
theorem dX11_louder_59 : decode cX11_louder 59 = .ok (.iconst 2, 1) := by decide +kernel
theorem dX11_louder_60 : decode cX11_louder 60 = .ok (.invokestatic 83, 3) := by decide +kernel
theorem dX11_louder_63 : decode cX11_louder 63 = .ok (.ifCond .eq 20, 3) := by decide +kernel
theorem dX11_louder_66 : decode cX11_louder 66 = .ok (.iload 6, 2) := by decide +kernel
theorem dX11_louder_68 : decode cX11_louder 68 = .ok (.iconst 2, 1) := by decide +kernel
theorem dX11_louder_69 : decode cX11_louder 69 = .ok (.if_icmp .eq 16, 3) := by decide +kernel
theorem dX11_louder_72 : decode cX11_louder 72 = .ok (.iload 5, 2) := by decide +kernel
theorem dX11_louder_74 : decode cX11_louder 74 = .ok (.iconst 0, 1) := by decide +kernel
theorem dX11_louder_75 : decode cX11_louder 75 = .ok (.bipush 60, 2) := by decide +kernel
theorem dX11_louder_77 : decode cX11_louder 77 = .ok (.invokestatic 83, 3) := by decide +kernel
theorem dX11_louder_80 : decode cX11_louder 80 = .ok (.ifCond .ne 5, 3) := by decide +kernel
theorem dX11_louder_83 : decode cX11_louder 83 = .ok (.iconst (-1), 1) := by decide +kernel
theorem dX11_louder_84 : decode cX11_louder 84 = .ok (.ireturn, 1) := by decide +kernel
theorem dX11_louder_85 : decode cX11_louder 85 = .ok (.iload 6, 2) := by decide +kernel
theorem dX11_louder_87 : decode cX11_louder 87 = .ok (.iconst 2, 1) := by decide +kernel
theorem dX11_louder_88 : decode cX11_louder 88 = .ok (.if_icmp .ne 8, 3) := by decide +kernel
theorem dX11_louder_91 : decode cX11_louder 91 = .ok (.bipush 60, 2) := by decide +kernel
theorem dX11_louder_93 : decode cX11_louder 93 = .ok (.goto 5, 3) := by decide +kernel
theorem dX11_louder_96 : decode cX11_louder 96 = .ok (.iload 5, 2) := by decide +kernel
theorem dX11_louder_98 : decode cX11_louder 98 = .ok (.istore 8, 2) := by decide +kernel
theorem dX11_louder_100 : decode cX11_louder 100 = .ok (.iload_n 1, 1) := by decide +kernel
theorem dX11_louder_101 : decode cX11_louder 101 = .ok (.istore 9, 2) := by decide +kernel
theorem dX11_louder_103 : decode cX11_louder 103 = .ok (.iload_n 2, 1) := by decide +kernel
theorem dX11_louder_104 : decode cX11_louder 104 = .ok (.istore 10, 2) := by decide +kernel
theorem dX11_louder_106 : decode cX11_louder 106 = .ok (.iconst 1, 1) := by decide +kernel
theorem dX11_louder_107 : decode cX11_louder 107 = .ok (.istore 11, 2) := by decide +kernel
theorem dX11_louder_109 : decode cX11_louder 109 = .ok (.iload 11, 2) := by decide +kernel
theorem dX11_louder_111 : decode cX11_louder 111 = .ok (.iload 8, 2) := by decide +kernel
theorem dX11_louder_113 : decode cX11_louder 113 = .ok (.if_icmp .gt 74, 3) := by decide +kernel
theorem dX11_louder_116 : decode cX11_louder 116 = .ok (.sipush 999, 3) := by decide +kernel
theorem dX11_louder_119 : decode cX11_louder 119 = .ok (.iload 4, 2) := by decide +kernel
theorem dX11_louder_121 : decode cX11_louder 121 = .ok (.iload_n 3, 1) := by decide +kernel
theorem dX11_louder_122 : decode cX11_louder 122 = .ok (.iload 10, 2) := by decide +kernel
theorem dX11_louder_124 : decode cX11_louder 124 = .ok (.imul, 1) := by decide +kernel
theorem dX11_louder_125 : decode cX11_louder 125 = .ok (.iconst 4, 1) := by decide +kernel
theorem dX11_louder_126 : decode cX11_louder 126 = .ok (.idiv, 1) := by decide +kernel
theorem dX11_louder_127 : decode cX11_louder 127 = .ok (.iadd, 1) := by decide +kernel
theorem dX11_louder_128 : decode cX11_louder 128 = .ok (.invokestatic 362, 3) := by decide +kernel
theorem dX11_louder_131 : decode cX11_louder 131 = .ok (.istore 12, 2) := by decide +kernel
theorem dX11_louder_133 : decode cX11_louder 133 = .ok (.sipush 999, 3) := by decide +kernel
theorem dX11_louder_136 : decode cX11_louder 136 = .ok (.iload 4, 2) := by decide +kernel
theorem dX11_louder_138 : decode cX11_louder 138 = .ok (.iload_n 3, 1) := by decide +kernel
theorem dX11_louder_139 : decode cX11_louder 139 = .ok (.iload 9, 2) := by decide +kernel
theorem dX11_louder_141 : decode cX11_louder 141 = .ok (.imul, 1) := by decide +kernel
theorem dX11_louder_142 : decode cX11_louder 142 = .ok (.iconst 4, 1) := by decide +kernel
theorem dX11_louder_143 : decode cX11_louder 143 = .ok (.idiv, 1) := by decide +kernel
theorem dX11_louder_144 : decode cX11_louder 144 = .ok (.iadd, 1) := by decide +kernel
theorem dX11_louder_145 : decode cX11_louder 145 = .ok (.invokestatic 362, 3) := by decide +kernel
theorem dX11_louder_148 : decode cX11_louder 148 = .ok (.istore 13, 2) := by decide +kernel
theorem dX11_louder_150 : decode cX11_louder 150 = .ok (.iload 6, 2) := by decide +kernel
theorem dX11_louder_152 : decode cX11_louder 152 = .ok (.iconst 2, 1) := by decide +kernel
theorem dX11_louder_153 : decode cX11_louder 153 = .ok (.if_icmp .ne 20, 3) := by decide +kernel
theorem dX11_louder_156 : decode cX11_louder 156 = .ok (.iload 12, 2) := by decide +kernel
theorem dX11_louder_158 : decode cX11_louder 158 = .ok (.iload 9, 2) := by decide +kernel
theorem dX11_louder_160 : decode cX11_louder 160 = .ok (.if_icmp .ne 13, 3) := by decide +kernel
theorem dX11_louder_163 : decode cX11_louder 163 = .ok (.iload 13, 2) := by decide +kernel
theorem dX11_louder_165 : decode cX11_louder 165 = .ok (.iload 10, 2) := by decide +kernel
theorem dX11_louder_167 : decode cX11_louder 167 = .ok (.if_icmp .ne 6, 3) := by decide +kernel
theorem dX11_louder_170 : decode cX11_louder 170 = .ok (.iload 11, 2) := by decide +kernel
theorem dX11_louder_172 : decode cX11_louder 172 = .ok (.ireturn, 1) := by decide +kernel
theorem dX11_louder_173 : decode cX11_louder 173 = .ok (.iload 12, 2) := by decide +kernel
theorem dX11_louder_175 : decode cX11_louder 175 = .ok (.istore 9, 2) := by decide +kernel
theorem dX11_louder_177 : decode cX11_louder 177 = .ok (.iload 13, 2) := by decide +kernel
theorem dX11_louder_179 : decode cX11_louder 179 = .ok (.istore 10, 2) := by decide +kernel
theorem dX11_louder_181 : decode cX11_louder 181 = .ok (.iinc 11 1, 3) := by decide +kernel
theorem dX11_louder_184 : decode cX11_louder 184 = .ok (.goto (-75), 3) := by decide +kernel
theorem dX11_louder_187 : decode cX11_louder 187 = .ok (.iload 6, 2) := by decide +kernel
theorem dX11_louder_189 : decode cX11_louder 189 = .ok (.iconst 2, 1) := by decide +kernel
theorem dX11_louder_190 : decode cX11_louder 190 = .ok (.if_icmp .ne 7, 3) := by decide +kernel
theorem dX11_louder_193 : decode cX11_louder 193 = .ok (.iconst (-1), 1) := by decide +kernel
theorem dX11_louder_194 : decode cX11_louder 194 = .ok (.goto 12, 3) := by decide +kernel
theorem dX11_louder_197 : decode cX11_louder 197 = .ok (.iload 6, 2) := by decide +kernel
theorem dX11_louder_199 : decode cX11_louder 199 = .ok (.iload 9, 2) := by decide +kernel
theorem dX11_louder_201 : decode cX11_louder 201 = .ok (.iload 10, 2) := by decide +kernel
theorem dX11_louder_203 : decode cX11_louder 203 = .ok (.invokestatic 282, 3) := by decide +kernel
theorem dX11_louder_206 : decode cX11_louder 206 = .ok (.ireturn, 1) := by decide +kernel
set_option maxHeartbeats 4000000 in
set_option maxRecDepth 100000 in
theorem c_X11_louder (l : Launch) (D : va_G) (tys : List (ClassId × FieldType)) (base : Nat) (G : iv_G) (h0 : Nat) (g_h0 : Nat → Int32) (r_h0 : Nat → Nat) (a_h0 : G h0 = some (11, g_h0, r_h0)) (x_0 : Int32) (i_x_0 : iv_R (-2147483648) 2147483647 x_0) (x_1 : Int32) (i_x_1 : iv_R (-2147483648) 2147483647 x_1) (x_2 : Int32) (i_x_2 : iv_R (-2147483648) 2147483647 x_2) (x_3 : Int32) (i_x_3 : iv_R (-2147483648) 2147483647 x_3) (x_4 : Int32) (i_x_4 : iv_R (-2147483648) 2147483647 x_4) (x_5 : Int32) (i_x_5 : iv_R (-2147483648) 2147483647 x_5) : Met l yX11_louder (Cond.code yX11_louder cX11_louder 14 (some .int) :: iv_W0) ({ frames := 1, cells := 0, slots := 0, locals := 22 }) (iv_Pc iv_sh D classes tys base G [.ref h0, .int x_0, .int x_1, .int x_2, .int x_3, .int x_4, .int x_5]) (iv_Qi iv_sh D classes tys base (fun v G' => G = G' ∧ iv_R (-2147483648) 2147483647 v)) 0 0 (iv_A base) := by
  refine iv_head (by decide) (Nat.le_of_ble_eq_true rfl) ?_
  intro p e s m args below meth c ls X hr hlocks hname hB hl
  have X := X
  have hx := X.1.1
  have hb := X.1.2.1
  have hl : lv_has ls 14 [(0, .ref h0), (1, .int x_0), (2, .int x_1), (3, .int x_2), (4, .int x_3), (5, .int x_4), (6, .int x_5)] := hl
  refine lv_iload_n hx hb dX11_louder_0 rfl (lv_at hl 1 rfl) ?_
  refine lv_iconst (v := 0) hx hb dX11_louder_1 (by decide) ?_
  refine lv_sipush (v := 999) hx hb dX11_louder_2 (by decide) ?_
  refine iv_cSi X k_good k_mf_X11_isWithin k_st_X11_isWithin k_ml_X11_83 hB (As := [.int x_0, .int 0, .int 999]) (c_X11_isWithin l D tys base G x_0 i_x_0 0 (q_0.wk (by decide)) 999 (q_999.wk (by decide))) ⟨rfl, rfl⟩ ⟨Nat.le_of_ble_eq_true rfl, Nat.le_of_ble_eq_true rfl⟩ ⟨Nat.le_of_ble_eq_true rfl, Nat.le_of_ble_eq_true rfl⟩ rfl rfl hl.1 (Nat.le_of_ble_eq_true rfl) dX11_louder_5 (fun x1 G9 H locs hq hB => ?_)
  obtain ⟨rfl, i_x1, hp2⟩ := hq
  have k3 : ¬ x1 = 0 → iv_R 0 999 x_0 := fun h => ⟨iv_max i_x_0.1 (Int.le_trans q_0.1 (hp2.1 h).1) (by decide), iv_min i_x_0.2 (Int.le_trans (hp2.1 h).2 q_999.2) (by decide)⟩
  refine lv_if_eq (tgt := 48) hx hb dX11_louder_8 (by decide) (fun c4 => ?_) (fun c4 => ?_)
  · skip
    have i4_x1 : iv_R 0 0 x1 := (i_x1.cutHi (n := 0) (iv_eq_r c4 q_0).2)
    refine lv_iconst (v := 0) hx hb dX11_louder_48 (by decide) ?_
    refine lv_istore (lv' := [(7, .int 0), (0, .ref h0), (1, .int x_0), (2, .int x_1), (3, .int x_2), (4, .int x_3), (5, .int x_4), (6, .int x_5)]) hx hb dX11_louder_49 hl (by decide) rfl (fun ls hl => ?_)
    refine lv_iload hx hb dX11_louder_51 (lv_at hl 0 rfl) ?_
    refine lv_if_eq (tgt := 83) hx hb dX11_louder_53 (by decide) (fun c6 => ?_) (fun c6 => ?_)
    · skip
      refine lv_iconst (v := (-1)) hx hb dX11_louder_83 (by decide) ?_
      exact iv_iret X hr hlocks hB ⟨rfl, (q_n1.wk (by decide))⟩ dX11_louder_84
    · skip
      exact absurd rfl c6
  · skip
    have i6_x1 : iv_R 1 1 x1 := iv_ne_lo c4 i_x1 q_0 (by decide)
    have i7_x_0 : iv_R 0 999 x_0 := ((i_x_0.cutLo (n := 0) (k3 c4).1).cutHi (n := 999) (k3 c4).2)
    refine lv_iload_n hx hb dX11_louder_11 rfl (lv_at hl 2 rfl) ?_
    refine lv_iconst (v := 0) hx hb dX11_louder_12 (by decide) ?_
    refine lv_sipush (v := 999) hx hb dX11_louder_13 (by decide) ?_
    refine iv_cSi X k_good k_mf_X11_isWithin k_st_X11_isWithin k_ml_X11_83 hB (As := [.int x_1, .int 0, .int 999]) (c_X11_isWithin l D tys base G x_1 i_x_1 0 (q_0.wk (by decide)) 999 (q_999.wk (by decide))) ⟨rfl, rfl⟩ ⟨Nat.le_of_ble_eq_true rfl, Nat.le_of_ble_eq_true rfl⟩ ⟨Nat.le_of_ble_eq_true rfl, Nat.le_of_ble_eq_true rfl⟩ rfl rfl hl.1 (Nat.le_of_ble_eq_true rfl) dX11_louder_16 (fun x9 G9 H locs hq hB => ?_)
    obtain ⟨rfl, i_x9, hp10⟩ := hq
    have k11 : ¬ x9 = 0 → iv_R 0 999 x_1 := fun h => ⟨iv_max i_x_1.1 (Int.le_trans q_0.1 (hp10.1 h).1) (by decide), iv_min i_x_1.2 (Int.le_trans (hp10.1 h).2 q_999.2) (by decide)⟩
    refine lv_if_eq (tgt := 48) hx hb dX11_louder_19 (by decide) (fun c12 => ?_) (fun c12 => ?_)
    · skip
      have i12_x9 : iv_R 0 0 x9 := (i_x9.cutHi (n := 0) (iv_eq_r c12 q_0).2)
      refine lv_iconst (v := 0) hx hb dX11_louder_48 (by decide) ?_
      refine lv_istore (lv' := [(7, .int 0), (0, .ref h0), (1, .int x_0), (2, .int x_1), (3, .int x_2), (4, .int x_3), (5, .int x_4), (6, .int x_5)]) hx hb dX11_louder_49 hl (by decide) rfl (fun ls hl => ?_)
      refine lv_iload hx hb dX11_louder_51 (lv_at hl 0 rfl) ?_
      refine lv_if_eq (tgt := 83) hx hb dX11_louder_53 (by decide) (fun c14 => ?_) (fun c14 => ?_)
      · skip
        refine lv_iconst (v := (-1)) hx hb dX11_louder_83 (by decide) ?_
        exact iv_iret X hr hlocks hB ⟨rfl, (q_n1.wk (by decide))⟩ dX11_louder_84
      · skip
        exact absurd rfl c14
    · skip
      have i14_x9 : iv_R 1 1 x9 := iv_ne_lo c12 i_x9 q_0 (by decide)
      have i15_x_1 : iv_R 0 999 x_1 := ((i_x_1.cutLo (n := 0) (k11 c12).1).cutHi (n := 999) (k11 c12).2)
      refine lv_iload_n hx hb dX11_louder_22 rfl (lv_at hl 3 rfl) ?_
      refine lv_iconst (v := 0) hx hb dX11_louder_23 (by decide) ?_
      refine lv_bipush (v := 9) hx hb dX11_louder_24 (by decide) ?_
      refine iv_cSi X k_good k_mf_X11_isWithin k_st_X11_isWithin k_ml_X11_83 hB (As := [.int x_2, .int 0, .int 9]) (c_X11_isWithin l D tys base G x_2 i_x_2 0 (q_0.wk (by decide)) 9 (q_9.wk (by decide))) ⟨rfl, rfl⟩ ⟨Nat.le_of_ble_eq_true rfl, Nat.le_of_ble_eq_true rfl⟩ ⟨Nat.le_of_ble_eq_true rfl, Nat.le_of_ble_eq_true rfl⟩ rfl rfl hl.1 (Nat.le_of_ble_eq_true rfl) dX11_louder_26 (fun x17 G9 H locs hq hB => ?_)
      obtain ⟨rfl, i_x17, hp18⟩ := hq
      have k19 : ¬ x17 = 0 → iv_R 0 9 x_2 := fun h => ⟨iv_max i_x_2.1 (Int.le_trans q_0.1 (hp18.1 h).1) (by decide), iv_min i_x_2.2 (Int.le_trans (hp18.1 h).2 q_9.2) (by decide)⟩
      refine lv_if_eq (tgt := 48) hx hb dX11_louder_29 (by decide) (fun c20 => ?_) (fun c20 => ?_)
      · skip
        have i20_x17 : iv_R 0 0 x17 := (i_x17.cutHi (n := 0) (iv_eq_r c20 q_0).2)
        refine lv_iconst (v := 0) hx hb dX11_louder_48 (by decide) ?_
        refine lv_istore (lv' := [(7, .int 0), (0, .ref h0), (1, .int x_0), (2, .int x_1), (3, .int x_2), (4, .int x_3), (5, .int x_4), (6, .int x_5)]) hx hb dX11_louder_49 hl (by decide) rfl (fun ls hl => ?_)
        refine lv_iload hx hb dX11_louder_51 (lv_at hl 0 rfl) ?_
        refine lv_if_eq (tgt := 83) hx hb dX11_louder_53 (by decide) (fun c22 => ?_) (fun c22 => ?_)
        · skip
          refine lv_iconst (v := (-1)) hx hb dX11_louder_83 (by decide) ?_
          exact iv_iret X hr hlocks hB ⟨rfl, (q_n1.wk (by decide))⟩ dX11_louder_84
        · skip
          exact absurd rfl c22
      · skip
        have i22_x17 : iv_R 1 1 x17 := iv_ne_lo c20 i_x17 q_0 (by decide)
        have i23_x_2 : iv_R 0 9 x_2 := ((i_x_2.cutLo (n := 0) (k19 c20).1).cutHi (n := 9) (k19 c20).2)
        refine lv_iload hx hb dX11_louder_32 (lv_at hl 4 rfl) ?_
        refine lv_iconst (v := 0) hx hb dX11_louder_34 (by decide) ?_
        refine lv_sipush (v := 999) hx hb dX11_louder_35 (by decide) ?_
        refine iv_cSi X k_good k_mf_X11_isWithin k_st_X11_isWithin k_ml_X11_83 hB (As := [.int x_3, .int 0, .int 999]) (c_X11_isWithin l D tys base G x_3 i_x_3 0 (q_0.wk (by decide)) 999 (q_999.wk (by decide))) ⟨rfl, rfl⟩ ⟨Nat.le_of_ble_eq_true rfl, Nat.le_of_ble_eq_true rfl⟩ ⟨Nat.le_of_ble_eq_true rfl, Nat.le_of_ble_eq_true rfl⟩ rfl rfl hl.1 (Nat.le_of_ble_eq_true rfl) dX11_louder_38 (fun x25 G9 H locs hq hB => ?_)
        obtain ⟨rfl, i_x25, hp26⟩ := hq
        have k27 : ¬ x25 = 0 → iv_R 0 999 x_3 := fun h => ⟨iv_max i_x_3.1 (Int.le_trans q_0.1 (hp26.1 h).1) (by decide), iv_min i_x_3.2 (Int.le_trans (hp26.1 h).2 q_999.2) (by decide)⟩
        refine lv_if_eq (tgt := 48) hx hb dX11_louder_41 (by decide) (fun c28 => ?_) (fun c28 => ?_)
        · skip
          have i28_x25 : iv_R 0 0 x25 := (i_x25.cutHi (n := 0) (iv_eq_r c28 q_0).2)
          refine lv_iconst (v := 0) hx hb dX11_louder_48 (by decide) ?_
          refine lv_istore (lv' := [(7, .int 0), (0, .ref h0), (1, .int x_0), (2, .int x_1), (3, .int x_2), (4, .int x_3), (5, .int x_4), (6, .int x_5)]) hx hb dX11_louder_49 hl (by decide) rfl (fun ls hl => ?_)
          refine lv_iload hx hb dX11_louder_51 (lv_at hl 0 rfl) ?_
          refine lv_if_eq (tgt := 83) hx hb dX11_louder_53 (by decide) (fun c30 => ?_) (fun c30 => ?_)
          · skip
            refine lv_iconst (v := (-1)) hx hb dX11_louder_83 (by decide) ?_
            exact iv_iret X hr hlocks hB ⟨rfl, (q_n1.wk (by decide))⟩ dX11_louder_84
          · skip
            exact absurd rfl c30
        · skip
          have i30_x25 : iv_R 1 1 x25 := iv_ne_lo c28 i_x25 q_0 (by decide)
          have i31_x_3 : iv_R 0 999 x_3 := ((i_x_3.cutLo (n := 0) (k27 c28).1).cutHi (n := 999) (k27 c28).2)
          refine lv_iconst (v := 1) hx hb dX11_louder_44 (by decide) ?_
          refine lv_goto (tgt := 49) hx hb dX11_louder_45 (by decide) ?_
          refine lv_istore (lv' := [(7, .int 1), (0, .ref h0), (1, .int x_0), (2, .int x_1), (3, .int x_2), (4, .int x_3), (5, .int x_4), (6, .int x_5)]) hx hb dX11_louder_49 hl (by decide) rfl (fun ls hl => ?_)
          refine lv_iload hx hb dX11_louder_51 (lv_at hl 0 rfl) ?_
          refine lv_if_eq (tgt := 83) hx hb dX11_louder_53 (by decide) (fun c33 => ?_) (fun c33 => ?_)
          · skip
            exact (q_1.cutHi (n := 0) (iv_eq_r c33 q_0).2).no (by decide)
          · skip
            refine lv_iload hx hb dX11_louder_56 (lv_at hl 7 rfl) ?_
            refine lv_iconst (v := 0) hx hb dX11_louder_58 (by decide) ?_
            refine lv_iconst (v := 2) hx hb dX11_louder_59 (by decide) ?_
            refine iv_cSi X k_good k_mf_X11_isWithin k_st_X11_isWithin k_ml_X11_83 hB (As := [.int x_5, .int 0, .int 2]) (c_X11_isWithin l D tys base G x_5 i_x_5 0 (q_0.wk (by decide)) 2 (q_2.wk (by decide))) ⟨rfl, rfl⟩ ⟨Nat.le_of_ble_eq_true rfl, Nat.le_of_ble_eq_true rfl⟩ ⟨Nat.le_of_ble_eq_true rfl, Nat.le_of_ble_eq_true rfl⟩ rfl rfl hl.1 (Nat.le_of_ble_eq_true rfl) dX11_louder_60 (fun x34 G9 H locs hq hB => ?_)
            obtain ⟨rfl, i_x34, hp35⟩ := hq
            have k36 : ¬ x34 = 0 → iv_R 0 2 x_5 := fun h => ⟨iv_max i_x_5.1 (Int.le_trans q_0.1 (hp35.1 h).1) (by decide), iv_min i_x_5.2 (Int.le_trans (hp35.1 h).2 q_2.2) (by decide)⟩
            refine lv_if_eq (tgt := 83) hx hb dX11_louder_63 (by decide) (fun c37 => ?_) (fun c37 => ?_)
            · skip
              have i37_x34 : iv_R 0 0 x34 := (i_x34.cutHi (n := 0) (iv_eq_r c37 q_0).2)
              refine lv_iconst (v := (-1)) hx hb dX11_louder_83 (by decide) ?_
              exact iv_iret X hr hlocks hB ⟨rfl, (q_n1.wk (by decide))⟩ dX11_louder_84
            · skip
              have i38_x34 : iv_R 1 1 x34 := iv_ne_lo c37 i_x34 q_0 (by decide)
              have i39_x_5 : iv_R 0 2 x_5 := ((i_x_5.cutLo (n := 0) (k36 c37).1).cutHi (n := 2) (k36 c37).2)
              refine lv_iload hx hb dX11_louder_66 (lv_at hl 7 rfl) ?_
              refine lv_iconst (v := 2) hx hb dX11_louder_68 (by decide) ?_
              refine lv_icmp_eq (tgt := 85) hx hb dX11_louder_69 (by decide) (fun c41 => ?_) (fun c41 => ?_)
              · skip
                have i41_x_5 : iv_R 2 2 x_5 := (i39_x_5.cutLo (n := 2) (iv_eq_r c41 q_2).1)
                refine lv_iload hx hb dX11_louder_85 (lv_at hl 7 rfl) ?_
                refine lv_iconst (v := 2) hx hb dX11_louder_87 (by decide) ?_
                refine lv_icmp_ne (tgt := 96) hx hb dX11_louder_88 (by decide) (fun c43 => ?_) (fun c43 => ?_)
                · skip
                  exact (iv_ne_lo c43 i41_x_5 q_2 (a' := 3) (by decide)).no (by decide)
                · skip
                  refine lv_bipush (v := 60) hx hb dX11_louder_91 (by decide) ?_
                  refine lv_goto (tgt := 98) hx hb dX11_louder_93 (by decide) ?_
                  refine lv_istore (lv' := [(8, .int 60), (7, .int 1), (0, .ref h0), (1, .int x_0), (2, .int x_1), (3, .int x_2), (4, .int x_3), (5, .int x_4), (6, .int x_5)]) hx hb dX11_louder_98 hl (by decide) rfl (fun ls hl => ?_)
                  refine lv_iload_n hx hb dX11_louder_100 rfl (lv_at hl 3 rfl) ?_
                  refine lv_istore (lv' := [(9, .int x_0), (8, .int 60), (7, .int 1), (0, .ref h0), (1, .int x_0), (2, .int x_1), (3, .int x_2), (4, .int x_3), (5, .int x_4), (6, .int x_5)]) hx hb dX11_louder_101 hl (by decide) rfl (fun ls hl => ?_)
                  refine lv_iload_n hx hb dX11_louder_103 rfl (lv_at hl 5 rfl) ?_
                  refine lv_istore (lv' := [(10, .int x_1), (9, .int x_0), (8, .int 60), (7, .int 1), (0, .ref h0), (1, .int x_0), (2, .int x_1), (3, .int x_2), (4, .int x_3), (5, .int x_4), (6, .int x_5)]) hx hb dX11_louder_104 hl (by decide) rfl (fun ls hl => ?_)
                  refine lv_iconst (v := 1) hx hb dX11_louder_106 (by decide) ?_
                  refine lv_istore (lv' := [(11, .int 1), (10, .int x_1), (9, .int x_0), (8, .int 60), (7, .int 1), (0, .ref h0), (1, .int x_0), (2, .int x_1), (3, .int x_2), (4, .int x_3), (5, .int x_4), (6, .int x_5)]) hx hb dX11_louder_107 hl (by decide) rfl (fun ls hl => ?_)
                  have L_109 : ∀ (n_109 : Nat) (H : Heap) (locs : List Loc) (hB : iv_B iv_sh D classes tys base G s.heap H locs) (x44 : Int32) (i_x44 : iv_R 0 999 x44) (x45 : Int32) (i_x45 : iv_R 0 999 x45) (x46 : Int32) (i_x46 : iv_R 1 61 x46) (hn_109 : (62 - x46.toInt).toNat < n_109) (ls : Array Slot) (hl : lv_has ls 14 [(11, .int x46), (10, .int x45), (9, .int x44), (8, .int 60), (3, .int x_2), (4, .int x_3), (6, .int x_5)]), W p l e ({ frames := 1, cells := 0, slots := 0, locals := 22 } : Room) s m args below meth c H locs 0 0 (MQ below (iv_Qi iv_sh D classes tys base (fun v G' => G = G' ∧ iv_R (-2147483648) 2147483647 v)) args s 0 0 (iv_A base)) (F0 m 109 ls []) := by
                    intro n_109
                    induction n_109 with
                    | zero => intro H locs hB x44 i_x44 x45 i_x45 x46 i_x46 hn_109 ls hl; exact absurd hn_109 (Nat.not_lt_zero _)
                    | succ n_109 ih_109 =>
                      intro H locs hB x44 i_x44 x45 i_x45 x46 i_x46 hn_109 ls hl
                      refine lv_iload hx hb dX11_louder_109 (lv_at hl 0 rfl) ?_
                      refine lv_iload hx hb dX11_louder_111 (lv_at hl 3 rfl) ?_
                      refine lv_icmp_gt (tgt := 187) hx hb dX11_louder_113 (by decide) (fun c47 => ?_) (fun c47 => ?_)
                      · skip
                        have i47_x46 : iv_R 61 61 x46 := (i_x46.cutLo (n := 61) (iv_lt_l c47 q_60 (by decide)))
                        refine lv_iload hx hb dX11_louder_187 (lv_at hl 6 rfl) ?_
                        refine lv_iconst (v := 2) hx hb dX11_louder_189 (by decide) ?_
                        refine lv_icmp_ne (tgt := 197) hx hb dX11_louder_190 (by decide) (fun c49 => ?_) (fun c49 => ?_)
                        · skip
                          exact (iv_ne_lo c49 i41_x_5 q_2 (a' := 3) (by decide)).no (by decide)
                        · skip
                          refine lv_iconst (v := (-1)) hx hb dX11_louder_193 (by decide) ?_
                          refine lv_goto (tgt := 206) hx hb dX11_louder_194 (by decide) ?_
                          exact iv_iret X hr hlocks hB ⟨rfl, (q_n1.wk (by decide))⟩ dX11_louder_206
                      · skip
                        have i49_x46 : iv_R 1 60 x46 := (i_x46.cutHi (n := 60) (iv_le_r (iv_nlt c47) q_60))
                        refine lv_sipush (v := 999) hx hb dX11_louder_116 (by decide) ?_
                        refine lv_iload hx hb dX11_louder_119 (lv_at hl 5 rfl) ?_
                        refine lv_iload_n hx hb dX11_louder_121 rfl (lv_at hl 4 rfl) ?_
                        refine lv_iload hx hb dX11_louder_122 (lv_at hl 1 rfl) ?_
                        refine iv_imul hx hb i23_x_2 i_x45 (lo := 0) (hi := 8991) (by decide) dX11_louder_124 (fun x51 e_x51 i_x51 => ?_)
                        refine lv_iconst (v := 4) hx hb dX11_louder_125 (by decide) ?_
                        refine iv_idivp hx hb i_x51 q_4 (lo := 0) (hi := 2247) (by decide) dX11_louder_126 (fun x52 e_x52 i_x52 => ?_)
                        refine iv_iadd hx hb i31_x_3 i_x52 (lo := 0) (hi := 3246) (by decide) dX11_louder_127 (fun x53 e_x53 i_x53 => ?_)
                        refine iv_mmin X hl.1 k_mm_X11_362 ⟨Nat.le_of_ble_eq_true rfl, Nat.le_of_ble_eq_true rfl⟩ ⟨Nat.le_of_ble_eq_true rfl, Nat.le_of_ble_eq_true rfl⟩ q_999 i_x53 (lo := 0) (hi := 999) (by decide) dX11_louder_128 (fun x54 e_x54 i_x54 => ?_)
                        refine lv_istore (lv' := [(12, .int x54), (11, .int x46), (10, .int x45), (9, .int x44), (8, .int 60), (3, .int x_2), (4, .int x_3), (6, .int x_5)]) hx hb dX11_louder_131 hl (by decide) rfl (fun ls hl => ?_)
                        refine lv_sipush (v := 999) hx hb dX11_louder_133 (by decide) ?_
                        refine lv_iload hx hb dX11_louder_136 (lv_at hl 6 rfl) ?_
                        refine lv_iload_n hx hb dX11_louder_138 rfl (lv_at hl 5 rfl) ?_
                        refine lv_iload hx hb dX11_louder_139 (lv_at hl 3 rfl) ?_
                        refine iv_imul hx hb i23_x_2 i_x44 (lo := 0) (hi := 8991) (by decide) dX11_louder_141 (fun x55 e_x55 i_x55 => ?_)
                        refine lv_iconst (v := 4) hx hb dX11_louder_142 (by decide) ?_
                        refine iv_idivp hx hb i_x55 q_4 (lo := 0) (hi := 2247) (by decide) dX11_louder_143 (fun x56 e_x56 i_x56 => ?_)
                        refine iv_iadd hx hb i31_x_3 i_x56 (lo := 0) (hi := 3246) (by decide) dX11_louder_144 (fun x57 e_x57 i_x57 => ?_)
                        refine iv_mmin X hl.1 k_mm_X11_362 ⟨Nat.le_of_ble_eq_true rfl, Nat.le_of_ble_eq_true rfl⟩ ⟨Nat.le_of_ble_eq_true rfl, Nat.le_of_ble_eq_true rfl⟩ q_999 i_x57 (lo := 0) (hi := 999) (by decide) dX11_louder_145 (fun x58 e_x58 i_x58 => ?_)
                        refine lv_istore (lv' := [(13, .int x58), (12, .int x54), (11, .int x46), (10, .int x45), (9, .int x44), (8, .int 60), (3, .int x_2), (4, .int x_3), (6, .int x_5)]) hx hb dX11_louder_148 hl (by decide) rfl (fun ls hl => ?_)
                        refine lv_iload hx hb dX11_louder_150 (lv_at hl 8 rfl) ?_
                        refine lv_iconst (v := 2) hx hb dX11_louder_152 (by decide) ?_
                        refine lv_icmp_ne (tgt := 173) hx hb dX11_louder_153 (by decide) (fun c59 => ?_) (fun c59 => ?_)
                        · skip
                          exact (iv_ne_lo c59 i41_x_5 q_2 (a' := 3) (by decide)).no (by decide)
                        · skip
                          refine lv_iload hx hb dX11_louder_156 (lv_at hl 1 rfl) ?_
                          refine lv_iload hx hb dX11_louder_158 (lv_at hl 4 rfl) ?_
                          refine lv_icmp_ne (tgt := 173) hx hb dX11_louder_160 (by decide) (fun c60 => ?_) (fun c60 => ?_)
                          · skip
                            refine lv_iload hx hb dX11_louder_173 (lv_at hl 1 rfl) ?_
                            refine lv_istore (lv' := [(9, .int x54), (13, .int x58), (12, .int x54), (11, .int x46), (10, .int x45), (8, .int 60), (3, .int x_2), (4, .int x_3), (6, .int x_5)]) hx hb dX11_louder_175 hl (by decide) rfl (fun ls hl => ?_)
                            refine lv_iload hx hb dX11_louder_177 (lv_at hl 1 rfl) ?_
                            refine lv_istore (lv' := [(10, .int x58), (9, .int x54), (13, .int x58), (12, .int x54), (11, .int x46), (8, .int 60), (3, .int x_2), (4, .int x_3), (6, .int x_5)]) hx hb dX11_louder_179 hl (by decide) rfl (fun ls hl => ?_)
                            refine iv_iinc hx hb i49_x46 (lo := 2) (hi := 61) (by decide) dX11_louder_181 hl (k := 4) rfl (by decide) (fun x61 ls e_x61 i_x61 hl => ?_)
                            have hl : lv_has ls 14 [(11, .int x61), (10, .int x58), (9, .int x54), (13, .int x58), (12, .int x54), (8, .int 60), (3, .int x_2), (4, .int x_3), (6, .int x_5)] := hl
                            refine lv_goto (tgt := 109) hx hb dX11_louder_184 (by decide) ?_
                            exact ih_109 _ _ hB x54 i_x54 x58 i_x58 x61 (i_x61.wk (by decide)) (iv_mup (c := 1) i_x46 (by decide) (by decide) (by omega) hn_109) _ (lv_sub hl [0, 1, 2, 5, 6, 7, 8] rfl)
                          · skip
                            refine lv_iload hx hb dX11_louder_163 (lv_at hl 0 rfl) ?_
                            refine lv_iload hx hb dX11_louder_165 (lv_at hl 3 rfl) ?_
                            refine lv_icmp_ne (tgt := 173) hx hb dX11_louder_167 (by decide) (fun c62 => ?_) (fun c62 => ?_)
                            · skip
                              refine lv_iload hx hb dX11_louder_173 (lv_at hl 1 rfl) ?_
                              refine lv_istore (lv' := [(9, .int x54), (13, .int x58), (12, .int x54), (11, .int x46), (10, .int x45), (8, .int 60), (3, .int x_2), (4, .int x_3), (6, .int x_5)]) hx hb dX11_louder_175 hl (by decide) rfl (fun ls hl => ?_)
                              refine lv_iload hx hb dX11_louder_177 (lv_at hl 1 rfl) ?_
                              refine lv_istore (lv' := [(10, .int x58), (9, .int x54), (13, .int x58), (12, .int x54), (11, .int x46), (8, .int 60), (3, .int x_2), (4, .int x_3), (6, .int x_5)]) hx hb dX11_louder_179 hl (by decide) rfl (fun ls hl => ?_)
                              refine iv_iinc hx hb i49_x46 (lo := 2) (hi := 61) (by decide) dX11_louder_181 hl (k := 4) rfl (by decide) (fun x63 ls e_x63 i_x63 hl => ?_)
                              have hl : lv_has ls 14 [(11, .int x63), (10, .int x58), (9, .int x54), (13, .int x58), (12, .int x54), (8, .int 60), (3, .int x_2), (4, .int x_3), (6, .int x_5)] := hl
                              refine lv_goto (tgt := 109) hx hb dX11_louder_184 (by decide) ?_
                              exact ih_109 _ _ hB x54 i_x54 x58 i_x58 x63 (i_x63.wk (by decide)) (iv_mup (c := 1) i_x46 (by decide) (by decide) (by omega) hn_109) _ (lv_sub hl [0, 1, 2, 5, 6, 7, 8] rfl)
                            · skip
                              refine lv_iload hx hb dX11_louder_170 (lv_at hl 2 rfl) ?_
                              exact iv_iret X hr hlocks hB ⟨rfl, (i49_x46.wk (by decide))⟩ dX11_louder_172
                  exact L_109 _ _ _ hB x_0 i7_x_0 x_1 i15_x_1 1 (q_1.wk (by decide)) (Nat.lt_succ_self _) _ (lv_sub hl [0, 1, 2, 3, 8, 9, 11] rfl)
              · skip
                have i63_x_5 : iv_R 0 1 x_5 := iv_ne_hi c41 i39_x_5 q_2 (by decide)
                refine lv_iload hx hb dX11_louder_72 (lv_at hl 6 rfl) ?_
                refine lv_iconst (v := 0) hx hb dX11_louder_74 (by decide) ?_
                refine lv_bipush (v := 60) hx hb dX11_louder_75 (by decide) ?_
                refine iv_cSi X k_good k_mf_X11_isWithin k_st_X11_isWithin k_ml_X11_83 hB (As := [.int x_4, .int 0, .int 60]) (c_X11_isWithin l D tys base G x_4 i_x_4 0 (q_0.wk (by decide)) 60 (q_60.wk (by decide))) ⟨rfl, rfl⟩ ⟨Nat.le_of_ble_eq_true rfl, Nat.le_of_ble_eq_true rfl⟩ ⟨Nat.le_of_ble_eq_true rfl, Nat.le_of_ble_eq_true rfl⟩ rfl rfl hl.1 (Nat.le_of_ble_eq_true rfl) dX11_louder_77 (fun x65 G9 H locs hq hB => ?_)
                obtain ⟨rfl, i_x65, hp66⟩ := hq
                have k67 : ¬ x65 = 0 → iv_R 0 60 x_4 := fun h => ⟨iv_max i_x_4.1 (Int.le_trans q_0.1 (hp66.1 h).1) (by decide), iv_min i_x_4.2 (Int.le_trans (hp66.1 h).2 q_60.2) (by decide)⟩
                refine lv_if_ne (tgt := 85) hx hb dX11_louder_80 (by decide) (fun c68 => ?_) (fun c68 => ?_)
                · skip
                  have i68_x65 : iv_R 1 1 x65 := iv_ne_lo c68 i_x65 q_0 (by decide)
                  have i69_x_4 : iv_R 0 60 x_4 := ((i_x_4.cutLo (n := 0) (k67 c68).1).cutHi (n := 60) (k67 c68).2)
                  refine lv_iload hx hb dX11_louder_85 (lv_at hl 7 rfl) ?_
                  refine lv_iconst (v := 2) hx hb dX11_louder_87 (by decide) ?_
                  refine lv_icmp_ne (tgt := 96) hx hb dX11_louder_88 (by decide) (fun c71 => ?_) (fun c71 => ?_)
                  · skip
                    refine lv_iload hx hb dX11_louder_96 (lv_at hl 6 rfl) ?_
                    refine lv_istore (lv' := [(8, .int x_4), (7, .int 1), (0, .ref h0), (1, .int x_0), (2, .int x_1), (3, .int x_2), (4, .int x_3), (5, .int x_4), (6, .int x_5)]) hx hb dX11_louder_98 hl (by decide) rfl (fun ls hl => ?_)
                    refine lv_iload_n hx hb dX11_louder_100 rfl (lv_at hl 3 rfl) ?_
                    refine lv_istore (lv' := [(9, .int x_0), (8, .int x_4), (7, .int 1), (0, .ref h0), (1, .int x_0), (2, .int x_1), (3, .int x_2), (4, .int x_3), (5, .int x_4), (6, .int x_5)]) hx hb dX11_louder_101 hl (by decide) rfl (fun ls hl => ?_)
                    refine lv_iload_n hx hb dX11_louder_103 rfl (lv_at hl 5 rfl) ?_
                    refine lv_istore (lv' := [(10, .int x_1), (9, .int x_0), (8, .int x_4), (7, .int 1), (0, .ref h0), (1, .int x_0), (2, .int x_1), (3, .int x_2), (4, .int x_3), (5, .int x_4), (6, .int x_5)]) hx hb dX11_louder_104 hl (by decide) rfl (fun ls hl => ?_)
                    refine lv_iconst (v := 1) hx hb dX11_louder_106 (by decide) ?_
                    refine lv_istore (lv' := [(11, .int 1), (10, .int x_1), (9, .int x_0), (8, .int x_4), (7, .int 1), (0, .ref h0), (1, .int x_0), (2, .int x_1), (3, .int x_2), (4, .int x_3), (5, .int x_4), (6, .int x_5)]) hx hb dX11_louder_107 hl (by decide) rfl (fun ls hl => ?_)
                    have L_109 : ∀ (n_109 : Nat) (H : Heap) (locs : List Loc) (hB : iv_B iv_sh D classes tys base G s.heap H locs) (x72 : Int32) (i_x72 : iv_R 0 999 x72) (x73 : Int32) (i_x73 : iv_R 0 999 x73) (x74 : Int32) (i_x74 : iv_R 1 61 x74) (hn_109 : (62 - x74.toInt).toNat < n_109) (ls : Array Slot) (hl : lv_has ls 14 [(11, .int x74), (10, .int x73), (9, .int x72), (8, .int x_4), (3, .int x_2), (4, .int x_3), (6, .int x_5)]), W p l e ({ frames := 1, cells := 0, slots := 0, locals := 22 } : Room) s m args below meth c H locs 0 0 (MQ below (iv_Qi iv_sh D classes tys base (fun v G' => G = G' ∧ iv_R (-2147483648) 2147483647 v)) args s 0 0 (iv_A base)) (F0 m 109 ls []) := by
                      intro n_109
                      induction n_109 with
                      | zero => intro H locs hB x72 i_x72 x73 i_x73 x74 i_x74 hn_109 ls hl; exact absurd hn_109 (Nat.not_lt_zero _)
                      | succ n_109 ih_109 =>
                        intro H locs hB x72 i_x72 x73 i_x73 x74 i_x74 hn_109 ls hl
                        refine lv_iload hx hb dX11_louder_109 (lv_at hl 0 rfl) ?_
                        refine lv_iload hx hb dX11_louder_111 (lv_at hl 3 rfl) ?_
                        refine lv_icmp_gt (tgt := 187) hx hb dX11_louder_113 (by decide) (fun c75 => ?_) (fun c75 => ?_)
                        · skip
                          refine lv_iload hx hb dX11_louder_187 (lv_at hl 6 rfl) ?_
                          refine lv_iconst (v := 2) hx hb dX11_louder_189 (by decide) ?_
                          refine lv_icmp_ne (tgt := 197) hx hb dX11_louder_190 (by decide) (fun c76 => ?_) (fun c76 => ?_)
                          · skip
                            refine lv_iload hx hb dX11_louder_197 (lv_at hl 6 rfl) ?_
                            refine lv_iload hx hb dX11_louder_199 (lv_at hl 2 rfl) ?_
                            refine lv_iload hx hb dX11_louder_201 (lv_at hl 1 rfl) ?_
                            refine iv_cSi X k_good k_mf_X11_chosen k_st_X11_chosen k_ml_X11_282 hB (As := [.int x_5, .int x72, .int x73]) (c_X11_chosen l D tys base G x_5 (i63_x_5.wk (by decide)) x72 (i_x72.wk (by decide)) x73 (i_x73.wk (by decide))) ⟨rfl, rfl⟩ ⟨Nat.le_of_ble_eq_true rfl, Nat.le_of_ble_eq_true rfl⟩ ⟨Nat.le_of_ble_eq_true rfl, Nat.le_of_ble_eq_true rfl⟩ rfl rfl hl.1 (Nat.le_of_ble_eq_true rfl) dX11_louder_203 (fun x77 G9 H locs hq hB => ?_)
                            obtain ⟨rfl, i_x77⟩ := hq
                            exact iv_iret X hr hlocks hB ⟨rfl, i_x77⟩ dX11_louder_206
                          · skip
                            exact absurd c76 c71
                        · skip
                          have i77_x74 : iv_R 1 60 x74 := (i_x74.cutHi (n := 60) (iv_le_r (iv_nlt c75) i69_x_4))
                          have i78_x_4 : iv_R 1 60 x_4 := (i69_x_4.cutLo (n := 1) (iv_le_l (iv_nlt c75) i_x74))
                          refine lv_sipush (v := 999) hx hb dX11_louder_116 (by decide) ?_
                          refine lv_iload hx hb dX11_louder_119 (lv_at hl 5 rfl) ?_
                          refine lv_iload_n hx hb dX11_louder_121 rfl (lv_at hl 4 rfl) ?_
                          refine lv_iload hx hb dX11_louder_122 (lv_at hl 1 rfl) ?_
                          refine iv_imul hx hb i23_x_2 i_x73 (lo := 0) (hi := 8991) (by decide) dX11_louder_124 (fun x80 e_x80 i_x80 => ?_)
                          refine lv_iconst (v := 4) hx hb dX11_louder_125 (by decide) ?_
                          refine iv_idivp hx hb i_x80 q_4 (lo := 0) (hi := 2247) (by decide) dX11_louder_126 (fun x81 e_x81 i_x81 => ?_)
                          refine iv_iadd hx hb i31_x_3 i_x81 (lo := 0) (hi := 3246) (by decide) dX11_louder_127 (fun x82 e_x82 i_x82 => ?_)
                          refine iv_mmin X hl.1 k_mm_X11_362 ⟨Nat.le_of_ble_eq_true rfl, Nat.le_of_ble_eq_true rfl⟩ ⟨Nat.le_of_ble_eq_true rfl, Nat.le_of_ble_eq_true rfl⟩ q_999 i_x82 (lo := 0) (hi := 999) (by decide) dX11_louder_128 (fun x83 e_x83 i_x83 => ?_)
                          refine lv_istore (lv' := [(12, .int x83), (11, .int x74), (10, .int x73), (9, .int x72), (8, .int x_4), (3, .int x_2), (4, .int x_3), (6, .int x_5)]) hx hb dX11_louder_131 hl (by decide) rfl (fun ls hl => ?_)
                          refine lv_sipush (v := 999) hx hb dX11_louder_133 (by decide) ?_
                          refine lv_iload hx hb dX11_louder_136 (lv_at hl 6 rfl) ?_
                          refine lv_iload_n hx hb dX11_louder_138 rfl (lv_at hl 5 rfl) ?_
                          refine lv_iload hx hb dX11_louder_139 (lv_at hl 3 rfl) ?_
                          refine iv_imul hx hb i23_x_2 i_x72 (lo := 0) (hi := 8991) (by decide) dX11_louder_141 (fun x84 e_x84 i_x84 => ?_)
                          refine lv_iconst (v := 4) hx hb dX11_louder_142 (by decide) ?_
                          refine iv_idivp hx hb i_x84 q_4 (lo := 0) (hi := 2247) (by decide) dX11_louder_143 (fun x85 e_x85 i_x85 => ?_)
                          refine iv_iadd hx hb i31_x_3 i_x85 (lo := 0) (hi := 3246) (by decide) dX11_louder_144 (fun x86 e_x86 i_x86 => ?_)
                          refine iv_mmin X hl.1 k_mm_X11_362 ⟨Nat.le_of_ble_eq_true rfl, Nat.le_of_ble_eq_true rfl⟩ ⟨Nat.le_of_ble_eq_true rfl, Nat.le_of_ble_eq_true rfl⟩ q_999 i_x86 (lo := 0) (hi := 999) (by decide) dX11_louder_145 (fun x87 e_x87 i_x87 => ?_)
                          refine lv_istore (lv' := [(13, .int x87), (12, .int x83), (11, .int x74), (10, .int x73), (9, .int x72), (8, .int x_4), (3, .int x_2), (4, .int x_3), (6, .int x_5)]) hx hb dX11_louder_148 hl (by decide) rfl (fun ls hl => ?_)
                          refine lv_iload hx hb dX11_louder_150 (lv_at hl 8 rfl) ?_
                          refine lv_iconst (v := 2) hx hb dX11_louder_152 (by decide) ?_
                          refine lv_icmp_ne (tgt := 173) hx hb dX11_louder_153 (by decide) (fun c88 => ?_) (fun c88 => ?_)
                          · skip
                            refine lv_iload hx hb dX11_louder_173 (lv_at hl 1 rfl) ?_
                            refine lv_istore (lv' := [(9, .int x83), (13, .int x87), (12, .int x83), (11, .int x74), (10, .int x73), (8, .int x_4), (3, .int x_2), (4, .int x_3), (6, .int x_5)]) hx hb dX11_louder_175 hl (by decide) rfl (fun ls hl => ?_)
                            refine lv_iload hx hb dX11_louder_177 (lv_at hl 1 rfl) ?_
                            refine lv_istore (lv' := [(10, .int x87), (9, .int x83), (13, .int x87), (12, .int x83), (11, .int x74), (8, .int x_4), (3, .int x_2), (4, .int x_3), (6, .int x_5)]) hx hb dX11_louder_179 hl (by decide) rfl (fun ls hl => ?_)
                            refine iv_iinc hx hb i77_x74 (lo := 2) (hi := 61) (by decide) dX11_louder_181 hl (k := 4) rfl (by decide) (fun x89 ls e_x89 i_x89 hl => ?_)
                            have hl : lv_has ls 14 [(11, .int x89), (10, .int x87), (9, .int x83), (13, .int x87), (12, .int x83), (8, .int x_4), (3, .int x_2), (4, .int x_3), (6, .int x_5)] := hl
                            refine lv_goto (tgt := 109) hx hb dX11_louder_184 (by decide) ?_
                            exact ih_109 _ _ hB x83 i_x83 x87 i_x87 x89 (i_x89.wk (by decide)) (iv_mup (c := 1) i_x74 (by decide) (by decide) (by omega) hn_109) _ (lv_sub hl [0, 1, 2, 5, 6, 7, 8] rfl)
                          · skip
                            exact absurd c88 c71
                    exact L_109 _ _ _ hB x_0 i7_x_0 x_1 i15_x_1 1 (q_1.wk (by decide)) (Nat.lt_succ_self _) _ (lv_sub hl [0, 1, 2, 3, 8, 9, 11] rfl)
                  · skip
                    exact absurd c71 c41
                · skip
                  have i89_x65 : iv_R 0 0 x65 := (i_x65.cutHi (n := 0) (iv_eq_r c68 q_0).2)
                  refine lv_iconst (v := (-1)) hx hb dX11_louder_83 (by decide) ?_
                  exact iv_iret X hr hlocks hB ⟨rfl, (q_n1.wk (by decide))⟩ dX11_louder_84
theorem dX11_melt_0 : decode cX11_melt 0 = .ok (.aload_n 0, 1) := by decide +kernel
theorem dX11_melt_1 : decode cX11_melt 1 = .ok (.getfield 12, 3) := by decide +kernel
theorem dX11_melt_4 : decode cX11_melt 4 = .ok (.iload_n 1, 1) := by decide +kernel
theorem dX11_melt_5 : decode cX11_melt 5 = .ok (.invokevirtual 119, 3) := by decide +kernel
theorem dX11_melt_8 : decode cX11_melt 8 = .ok (.ifCond .eq 19, 3) := by decide +kernel
theorem dX11_melt_11 : decode cX11_melt 11 = .ok (.aload_n 0, 1) := by decide +kernel
theorem dX11_melt_12 : decode cX11_melt 12 = .ok (.getfield 12, 3) := by decide +kernel
theorem dX11_melt_15 : decode cX11_melt 15 = .ok (.getfield 93, 3) := by decide +kernel
theorem dX11_melt_18 : decode cX11_melt 18 = .ok (.iload_n 1, 1) := by decide +kernel
theorem dX11_melt_19 : decode cX11_melt 19 = .ok (.aaload, 1) := by decide +kernel
theorem dX11_melt_20 : decode cX11_melt 20 = .ok (.getfield 131, 3) := by decide +kernel
theorem dX11_melt_23 : decode cX11_melt 23 = .ok (.iconst 2, 1) := by decide +kernel
theorem dX11_melt_24 : decode cX11_melt 24 = .ok (.if_icmp .ne 5, 3) := by decide +kernel
theorem dX11_melt_27 : decode cX11_melt 27 = .ok (.iconst 0, 1) := by decide +kernel
theorem dX11_melt_28 : decode cX11_melt 28 = .ok (.ireturn, 1) := by decide +kernel
theorem dX11_melt_29 : decode cX11_melt 29 = .ok (.aload_n 0, 1) := by decide +kernel
theorem dX11_melt_30 : decode cX11_melt 30 = .ok (.getfield 22, 3) := by decide +kernel
theorem dX11_melt_33 : decode cX11_melt 33 = .ok (.aload_n 0, 1) := by decide +kernel
theorem dX11_melt_34 : decode cX11_melt 34 = .ok (.getfield 12, 3) := by decide +kernel
theorem dX11_melt_37 : decode cX11_melt 37 = .ok (.invokevirtual 134, 3) := by decide +kernel
theorem dX11_melt_40 : decode cX11_melt 40 = .ok (.aload_n 0, 1) := by decide +kernel
theorem dX11_melt_41 : decode cX11_melt 41 = .ok (.getfield 12, 3) := by decide +kernel
theorem dX11_melt_44 : decode cX11_melt 44 = .ok (.getfield 93, 3) := by decide +kernel
theorem dX11_melt_47 : decode cX11_melt 47 = .ok (.iload_n 1, 1) := by decide +kernel
theorem dX11_melt_48 : decode cX11_melt 48 = .ok (.aaload, 1) := by decide +kernel
theorem dX11_melt_49 : decode cX11_melt 49 = .ok (.iconst 2, 1) := by decide +kernel
theorem dX11_melt_50 : decode cX11_melt 50 = .ok (.putfield 131, 3) := by decide +kernel
theorem dX11_melt_53 : decode cX11_melt 53 = .ok (.aload_n 0, 1) := by decide +kernel
theorem dX11_melt_54 : decode cX11_melt 54 = .ok (.getfield 12, 3) := by decide +kernel
theorem dX11_melt_57 : decode cX11_melt 57 = .ok (.getfield 137, 3) := by decide +kernel
theorem dX11_melt_60 : decode cX11_melt 60 = .ok (.aload_n 0, 1) := by decide +kernel
theorem dX11_melt_61 : decode cX11_melt 61 = .ok (.getfield 12, 3) := by decide +kernel
theorem dX11_melt_64 : decode cX11_melt 64 = .ok (.getfield 141, 3) := by decide +kernel
theorem dX11_melt_67 : decode cX11_melt 67 = .ok (.iconst 1, 1) := by decide +kernel
theorem dX11_melt_68 : decode cX11_melt 68 = .ok (.iload_n 1, 1) := by decide +kernel
theorem dX11_melt_69 : decode cX11_melt 69 = .ok (.iconst (-1), 1) := by decide +kernel
theorem dX11_melt_70 : decode cX11_melt 70 = .ok (.invokevirtual 144, 3) := by decide +kernel
theorem dX11_melt_73 : decode cX11_melt 73 = .ok (.iconst 1, 1) := by decide +kernel
theorem dX11_melt_74 : decode cX11_melt 74 = .ok (.ireturn, 1) := by decide +kernel
set_option maxHeartbeats 4000000 in
set_option maxRecDepth 100000 in
theorem c_X11_melt (l : Launch) (D : va_G) (tys : List (ClassId × FieldType)) (base : Nat) (G : iv_G) (h0 : Nat) (g_h0 : Nat → Int32) (r_h0 : Nat → Nat) (a_h0 : G h0 = some (11, g_h0, r_h0)) (x_0 : Int32) (i_x_0 : iv_R (-2147483648) 2147483647 x_0) : Met l yX11_melt (Cond.code yX11_melt cX11_melt 2 (some .boolean) :: iv_W0) ({ frames := 3, cells := 0, slots := 0, locals := 69 }) (iv_Pc iv_sh D classes tys base G [.ref h0, .int x_0]) (iv_Qi iv_sh D classes tys base (fun v G' => iv_Md [1, 6, 13, 23, 27] G G' ∧ iv_R 0 1 v ∧ (¬ v = 0 → iv_R 0 9 x_0))) 0 0 (iv_A base) := by
  refine iv_head (by decide) (Nat.le_of_ble_eq_true rfl) ?_
  intro p e s m args below meth c ls X hr hlocks hname hB hl
  have X := X
  have hx := X.1.1
  have hb := X.1.2.1
  have hM : iv_Md [1, 6, 13, 23, 27] G G := iv_Md.rf
  have hl : lv_has ls 2 [(0, .ref h0), (1, .int x_0)] := hl
  refine lv_aload_n hx hb dX11_melt_0 rfl (lv_at hl 0 rfl) ?_
  refine iv_getr X ft_X11 hB a_h0 sh_11 0 (by decide) rfl k_fl_X11_12 dX11_melt_1 (fun b1 g_b1 r_b1 e_b1 a_b1 => ?_)
  refine lv_iload_n hx hb dX11_melt_4 rfl (lv_at hl 1 rfl) ?_
  refine iv_cVi X k_good k_mf_X5_hasBell k_im_X5_hasBell k_sel_X5_hasBell k_ml_X11_119 ft_X5 hB a_b1 sh_5 (As := [.int x_0]) (c_X5_hasBell l D tys base G b1 g_b1 r_b1 a_b1 x_0 i_x_0) ⟨rfl, rfl⟩ ⟨Nat.le_of_ble_eq_true rfl, Nat.le_of_ble_eq_true rfl⟩ ⟨Nat.le_of_ble_eq_true rfl, Nat.le_of_ble_eq_true rfl⟩ rfl rfl hl.1 (Nat.le_of_ble_eq_true rfl) dX11_melt_5 (fun x2 G9 H locs hq hB => ?_)
  obtain ⟨rfl, i_x2, hp3⟩ := hq
  refine lv_if_eq (tgt := 27) hx hb dX11_melt_8 (by decide) (fun c4 => ?_) (fun c4 => ?_)
  · skip
    have i4_x2 : iv_R 0 0 x2 := (i_x2.cutHi (n := 0) (iv_eq_r c4 q_0).2)
    refine lv_iconst (v := 0) hx hb dX11_melt_27 (by decide) ?_
    exact iv_zret X hr hlocks hB (q_0.wk (by decide)) ⟨hM, (q_0.wk (by decide)), fun h => absurd (iv_z q_0) h⟩ dX11_melt_28
  · skip
    have i5_x2 : iv_R 1 1 x2 := iv_ne_lo c4 i_x2 q_0 (by decide)
    have i6_x_0 : iv_R 0 9 x_0 := ((i_x_0.cutLo (n := 0) (hp3 c4).1).cutHi (n := 9) (hp3 c4).2)
    refine lv_aload_n hx hb dX11_melt_11 rfl (lv_at hl 0 rfl) ?_
    refine iv_getr0 X ft_X11 hB a_h0 sh_11 0 (by decide) rfl k_fl_X11_12 dX11_melt_12 e_b1 ?_
    refine iv_getr X ft_X5 hB a_b1 sh_5 0 (by decide) rfl k_fl_X11_93 dX11_melt_15 (fun b8 g_b8 r_b8 e_b8 a_b8 => ?_)
    refine lv_iload_n hx hb dX11_melt_18 rfl (lv_at hl 1 rfl) ?_
    refine iv_aald X hB a_b8 sh_40 (iv_in i6_x_0 (by decide)) dX11_melt_19 (fun b9 g_b9 r_b9 e_b9 a_b9 => ?_)
    refine iv_geti X ft_X1 hB a_b9 sh_1 6 (by decide) rfl k_fl_X11_131 dX11_melt_20 (fun x10 e_x10 i_x10 => ?_)
    refine lv_iconst (v := 2) hx hb dX11_melt_23 (by decide) ?_
    refine lv_icmp_ne (tgt := 29) hx hb dX11_melt_24 (by decide) (fun c11 => ?_) (fun c11 => ?_)
    · skip
      refine lv_aload_n hx hb dX11_melt_29 rfl (lv_at hl 0 rfl) ?_
      refine iv_getr X ft_X11 hB a_h0 sh_11 3 (by decide) rfl k_fl_X11_22 dX11_melt_30 (fun b12 g_b12 r_b12 e_b12 a_b12 => ?_)
      refine lv_aload_n hx hb dX11_melt_33 rfl (lv_at hl 0 rfl) ?_
      refine iv_getr0 X ft_X11 hB a_h0 sh_11 0 (by decide) rfl k_fl_X11_12 dX11_melt_34 e_b1 ?_
      refine iv_cVv X k_good k_mf_X6_keep k_im_X6_keep k_sel_X6_keep k_ml_X11_134 ft_X6 hB a_b12 sh_6 (As := [.ref b1]) (c_X6_keep l D tys base G b12 g_b12 r_b12 a_b12 b1 g_b1 r_b1 a_b1) ⟨rfl, rfl⟩ ⟨Nat.le_of_ble_eq_true rfl, Nat.le_of_ble_eq_true rfl⟩ ⟨Nat.le_of_ble_eq_true rfl, Nat.le_of_ble_eq_true rfl⟩ rfl rfl hl.1 (Nat.le_of_ble_eq_true rfl) dX11_melt_37 (fun G9 H locs hq hB => ?_)
      have hm := hq
      obtain ⟨G13, hG9⟩ : ∃ g, g = G9 := ⟨_, rfl⟩
      rw [← hG9] at hm hB
      have hM := hM.stp hm (by decide)
      have a_h0 := hm.at a_h0 (by decide)
      refine lv_aload_n hx hb dX11_melt_40 rfl (lv_at hl 0 rfl) ?_
      refine iv_getr X ft_X11 hB a_h0 sh_11 0 (by decide) rfl k_fl_X11_12 dX11_melt_41 (fun b14 g_b14 r_b14 e_b14 a_b14 => ?_)
      refine iv_getr X ft_X5 hB a_b14 sh_5 0 (by decide) rfl k_fl_X11_93 dX11_melt_44 (fun b15 g_b15 r_b15 e_b15 a_b15 => ?_)
      refine lv_iload_n hx hb dX11_melt_47 rfl (lv_at hl 1 rfl) ?_
      refine iv_aald X hB a_b15 sh_40 (iv_in i6_x_0 (by decide)) dX11_melt_48 (fun b16 g_b16 r_b16 e_b16 a_b16 => ?_)
      refine lv_iconst (v := 2) hx hb dX11_melt_49 (by decide) ?_
      refine iv_puti X ft_X1 hB a_b16 sh_1 6 (by decide) rfl rfl k_fl_X11_131 rfl (q_2.wk (by decide)) rfl rfl dX11_melt_50 (fun H locs hB => ?_)
      have hm := iv_Md.put (x := 2) a_b16 (j := 6) (by decide) (by decide)
      have h9 := iv_up_eq (G := G13) (a := b16) (k := (1, upd g_b16 6 2, r_b16))
      generalize iv_up G13 b16 _ = G17 at hB hm h9
      have hM := hM.stp hm (by decide)
      have a_h0 := hm.at a_h0 (by decide)
      refine lv_aload_n hx hb dX11_melt_53 rfl (lv_at hl 0 rfl) ?_
      refine iv_getr X ft_X11 hB a_h0 sh_11 0 (by decide) rfl k_fl_X11_12 dX11_melt_54 (fun b19 g_b19 r_b19 e_b19 a_b19 => ?_)
      refine iv_getr X ft_X5 hB a_b19 sh_5 9 (by decide) rfl k_fl_X11_137 dX11_melt_57 (fun b20 g_b20 r_b20 e_b20 a_b20 => ?_)
      refine lv_aload_n hx hb dX11_melt_60 rfl (lv_at hl 0 rfl) ?_
      refine iv_getr0 X ft_X11 hB a_h0 sh_11 0 (by decide) rfl k_fl_X11_12 dX11_melt_61 e_b19 ?_
      refine iv_geti X ft_X5 hB a_b19 sh_5 6 (by decide) rfl k_fl_X11_141 dX11_melt_64 (fun x21 e_x21 i_x21 => ?_)
      refine lv_iconst (v := 1) hx hb dX11_melt_67 (by decide) ?_
      refine lv_iload_n hx hb dX11_melt_68 rfl (lv_at hl 1 rfl) ?_
      refine lv_iconst (v := (-1)) hx hb dX11_melt_69 (by decide) ?_
      refine iv_cVv X k_good k_mf_X8_add k_im_X8_add k_sel_X8_add k_ml_X11_144 ft_X8 hB a_b20 sh_13 (As := [.int x21, .int 1, .int x_0, .int (-1)]) (c_X8_add_13 l D tys base G17 b20 g_b20 r_b20 a_b20 x21 i_x21 1 (q_1.wk (by decide)) x_0 (i6_x_0.wk (by decide)) (-1) (q_n1.wk (by decide))) ⟨rfl, rfl⟩ ⟨Nat.le_of_ble_eq_true rfl, Nat.le_of_ble_eq_true rfl⟩ ⟨Nat.le_of_ble_eq_true rfl, Nat.le_of_ble_eq_true rfl⟩ rfl rfl hl.1 (Nat.le_of_ble_eq_true rfl) dX11_melt_70 (fun G9 H locs hq hB => ?_)
      have hm := hq
      obtain ⟨G22, hG9⟩ : ∃ g, g = G9 := ⟨_, rfl⟩
      rw [← hG9] at hm hB
      have hM := hM.stp hm (by decide)
      have a_h0 := hm.at a_h0 (by decide)
      refine lv_iconst (v := 1) hx hb dX11_melt_73 (by decide) ?_
      exact iv_zret X hr hlocks hB (q_1.wk (by decide)) ⟨hM, (q_1.wk (by decide)), fun _ => i6_x_0⟩ dX11_melt_74
    · skip
      have i22_x10 : iv_R 2 2 x10 := ((i_x10.cutLo (n := 2) (iv_eq_r c11 q_2).1).cutHi (n := 2) (iv_eq_r c11 q_2).2)
      refine lv_iconst (v := 0) hx hb dX11_melt_27 (by decide) ?_
      exact iv_zret X hr hlocks hB (q_0.wk (by decide)) ⟨hM, (q_0.wk (by decide)), fun _ => i6_x_0⟩ dX11_melt_28
theorem dX9_hopeOf_0 : decode cX9_hopeOf 0 = .ok (.iconst 0, 1) := by decide +kernel
theorem dX9_hopeOf_1 : decode cX9_hopeOf 1 = .ok (.istore_n 2, 1) := by decide +kernel
theorem dX9_hopeOf_2 : decode cX9_hopeOf 2 = .ok (.iconst 0, 1) := by decide +kernel
theorem dX9_hopeOf_3 : decode cX9_hopeOf 3 = .ok (.istore_n 3, 1) := by decide +kernel
theorem dX9_hopeOf_4 : decode cX9_hopeOf 4 = .ok (.iload_n 3, 1) := by decide +kernel
theorem dX9_hopeOf_5 : decode cX9_hopeOf 5 = .ok (.aload_n 0, 1) := by decide +kernel
theorem dX9_hopeOf_6 : decode cX9_hopeOf 6 = .ok (.getfield 15, 3) := by decide +kernel
theorem dX9_hopeOf_9 : decode cX9_hopeOf 9 = .ok (.getfield 19, 3) := by decide +kernel
theorem dX9_hopeOf_12 : decode cX9_hopeOf 12 = .ok (.if_icmp .ge 30, 3) := by decide +kernel
theorem dX9_hopeOf_15 : decode cX9_hopeOf 15 = .ok (.iload_n 2, 1) := by decide +kernel
theorem dX9_hopeOf_16 : decode cX9_hopeOf 16 = .ok (.iload_n 1, 1) := by decide +kernel
theorem dX9_hopeOf_17 : decode cX9_hopeOf 17 = .ok (.iload_n 3, 1) := by decide +kernel
theorem dX9_hopeOf_18 : decode cX9_hopeOf 18 = .ok (.iushr, 1) := by decide +kernel
theorem dX9_hopeOf_19 : decode cX9_hopeOf 19 = .ok (.iconst 1, 1) := by decide +kernel
theorem dX9_hopeOf_20 : decode cX9_hopeOf 20 = .ok (.iand, 1) := by decide +kernel
theorem dX9_hopeOf_21 : decode cX9_hopeOf 21 = .ok (.aload_n 0, 1) := by decide +kernel
theorem dX9_hopeOf_22 : decode cX9_hopeOf 22 = .ok (.getfield 15, 3) := by decide +kernel
theorem dX9_hopeOf_25 : decode cX9_hopeOf 25 = .ok (.getfield 45, 3) := by decide +kernel
theorem dX9_hopeOf_28 : decode cX9_hopeOf 28 = .ok (.iload_n 3, 1) := by decide +kernel
theorem dX9_hopeOf_29 : decode cX9_hopeOf 29 = .ok (.aaload, 1) := by decide +kernel
theorem dX9_hopeOf_30 : decode cX9_hopeOf 30 = .ok (.getfield 57, 3) := by decide +kernel
theorem dX9_hopeOf_33 : decode cX9_hopeOf 33 = .ok (.imul, 1) := by decide +kernel
theorem dX9_hopeOf_34 : decode cX9_hopeOf 34 = .ok (.iadd, 1) := by decide +kernel
theorem dX9_hopeOf_35 : decode cX9_hopeOf 35 = .ok (.istore_n 2, 1) := by decide +kernel
theorem dX9_hopeOf_36 : decode cX9_hopeOf 36 = .ok (.iinc 3 1, 3) := by decide +kernel
theorem dX9_hopeOf_39 : decode cX9_hopeOf 39 = .ok (.goto (-35), 3) := by decide +kernel
theorem dX9_hopeOf_42 : decode cX9_hopeOf 42 = .ok (.iload_n 2, 1) := by decide +kernel
theorem dX9_hopeOf_43 : decode cX9_hopeOf 43 = .ok (.ireturn, 1) := by decide +kernel
set_option maxHeartbeats 4000000 in
set_option maxRecDepth 100000 in
theorem c_X9_hopeOf (l : Launch) (D : va_G) (tys : List (ClassId × FieldType)) (base : Nat) (G : iv_G) (h0 : Nat) (g_h0 : Nat → Int32) (r_h0 : Nat → Nat) (a_h0 : G h0 = some (9, g_h0, r_h0)) (x_0 : Int32) (i_x_0 : iv_R 0 2047 x_0) : Met l yX9_hopeOf (Cond.code yX9_hopeOf cX9_hopeOf 4 (some .int) :: iv_W0) ({ frames := 0, cells := 0, slots := 0, locals := 0 }) (iv_Pc iv_sh D classes tys base G [.ref h0, .int x_0]) (iv_Qi iv_sh D classes tys base (fun v G' => G = G' ∧ iv_R (-2147483648) 2147483647 v)) 0 0 (iv_A base) := by
  refine iv_head (by decide) (Nat.le_of_ble_eq_true rfl) ?_
  intro p e s m args below meth c ls X hr hlocks hname hB hl
  have X := X
  have hx := X.1.1
  have hb := X.1.2.1
  have hl : lv_has ls 4 [(0, .ref h0), (1, .int x_0)] := hl
  refine lv_iconst (v := 0) hx hb dX9_hopeOf_0 (by decide) ?_
  refine lv_istore_n (lv' := [(2, .int 0), (0, .ref h0), (1, .int x_0)]) hx hb dX9_hopeOf_1 rfl hl (by decide) rfl (fun ls hl => ?_)
  refine lv_iconst (v := 0) hx hb dX9_hopeOf_2 (by decide) ?_
  refine lv_istore_n (lv' := [(3, .int 0), (2, .int 0), (0, .ref h0), (1, .int x_0)]) hx hb dX9_hopeOf_3 rfl hl (by decide) rfl (fun ls hl => ?_)
  have L_4 : ∀ (n_4 : Nat) (H : Heap) (locs : List Loc) (hB : iv_B iv_sh D classes tys base G s.heap H locs) (x1 : Int32) (i_x1 : iv_R (-2147483648) 2147483647 x1) (x2 : Int32) (i_x2 : iv_R 0 10 x2) (hn_4 : (11 - x2.toInt).toNat < n_4) (ls : Array Slot) (hl : lv_has ls 4 [(3, .int x2), (2, .int x1), (0, .ref h0), (1, .int x_0)]), W p l e ({ frames := 0, cells := 0, slots := 0, locals := 0 } : Room) s m args below meth c H locs 0 0 (MQ below (iv_Qi iv_sh D classes tys base (fun v G' => G = G' ∧ iv_R (-2147483648) 2147483647 v)) args s 0 0 (iv_A base)) (F0 m 4 ls []) := by
    intro n_4
    induction n_4 with
    | zero => intro H locs hB x1 i_x1 x2 i_x2 hn_4 ls hl; exact absurd hn_4 (Nat.not_lt_zero _)
    | succ n_4 ih_4 =>
      intro H locs hB x1 i_x1 x2 i_x2 hn_4 ls hl
      refine lv_iload_n hx hb dX9_hopeOf_4 rfl (lv_at hl 0 rfl) ?_
      refine lv_aload_n hx hb dX9_hopeOf_5 rfl (lv_at hl 2 rfl) ?_
      refine iv_getr X ft_X9 hB a_h0 sh_9 0 (by decide) rfl k_fl_X9_15 dX9_hopeOf_6 (fun b3 g_b3 r_b3 e_b3 a_b3 => ?_)
      refine iv_geti X ft_X5 hB a_b3 sh_5 1 (by decide) rfl k_fl_X9_19 dX9_hopeOf_9 (fun x4 e_x4 i_x4 => ?_)
      refine lv_icmp_ge (tgt := 42) hx hb dX9_hopeOf_12 (by decide) (fun c5 => ?_) (fun c5 => ?_)
      · skip
        refine lv_iload_n hx hb dX9_hopeOf_42 rfl (lv_at hl 1 rfl) ?_
        exact iv_iret X hr hlocks hB ⟨rfl, i_x1⟩ dX9_hopeOf_43
      · skip
        have i5_x2 : iv_R 0 9 x2 := (i_x2.cutHi (n := 9) (iv_lt_r (iv_nle c5) i_x4 (by decide)))
        have i6_x4 : iv_R 1 10 x4 := (i_x4.cutLo (n := 1) (iv_lt_l (iv_nle c5) i_x2 (by decide)))
        refine lv_iload_n hx hb dX9_hopeOf_15 rfl (lv_at hl 1 rfl) ?_
        refine lv_iload_n hx hb dX9_hopeOf_16 rfl (lv_at hl 3 rfl) ?_
        refine lv_iload_n hx hb dX9_hopeOf_17 rfl (lv_at hl 0 rfl) ?_
        refine lv_iushr hx hb dX9_hopeOf_18 rfl ?_
        refine lv_topi (fun x8 e_x8 => ?_)
        have i_x8 := iv_R.all x8
        refine lv_iconst (v := 1) hx hb dX9_hopeOf_19 (by decide) ?_
        refine iv_iand_r hx hb q_1 (by decide) dX9_hopeOf_20 (fun x9 e_x9 i_x9 => ?_)
        refine lv_aload_n hx hb dX9_hopeOf_21 rfl (lv_at hl 2 rfl) ?_
        refine iv_getr0 X ft_X9 hB a_h0 sh_9 0 (by decide) rfl k_fl_X9_15 dX9_hopeOf_22 e_b3 ?_
        refine iv_getr X ft_X5 hB a_b3 sh_5 0 (by decide) rfl k_fl_X9_45 dX9_hopeOf_25 (fun b10 g_b10 r_b10 e_b10 a_b10 => ?_)
        refine lv_iload_n hx hb dX9_hopeOf_28 rfl (lv_at hl 0 rfl) ?_
        refine iv_aald X hB a_b10 sh_40 (iv_in i5_x2 (by decide)) dX9_hopeOf_29 (fun b11 g_b11 r_b11 e_b11 a_b11 => ?_)
        refine iv_geti X ft_X1 hB a_b11 sh_1 3 (by decide) rfl k_fl_X9_57 dX9_hopeOf_30 (fun x12 e_x12 i_x12 => ?_)
        refine lv_imul hx hb dX9_hopeOf_33 ?_
        refine lv_topi (fun x13 e_x13 => ?_)
        have i_x13 := iv_R.all x13
        refine lv_iadd hx hb dX9_hopeOf_34 ?_
        refine lv_topi (fun x14 e_x14 => ?_)
        have i_x14 := iv_R.all x14
        refine lv_istore_n (lv' := [(2, .int x14), (3, .int x2), (0, .ref h0), (1, .int x_0)]) hx hb dX9_hopeOf_35 rfl hl (by decide) rfl (fun ls hl => ?_)
        refine iv_iinc hx hb i5_x2 (lo := 1) (hi := 10) (by decide) dX9_hopeOf_36 hl (k := 1) rfl (by decide) (fun x15 ls e_x15 i_x15 hl => ?_)
        have hl : lv_has ls 4 [(3, .int x15), (2, .int x14), (0, .ref h0), (1, .int x_0)] := hl
        refine lv_goto (tgt := 4) hx hb dX9_hopeOf_39 (by decide) ?_
        exact ih_4 _ _ hB x14 i_x14 x15 (i_x15.wk (by decide)) (iv_mup (c := 1) i_x2 (by decide) (by decide) (by omega) hn_4) _ (lv_sub hl [0, 1, 2, 3] rfl)
  exact L_4 _ _ _ hB 0 (q_0.wk (by decide)) 0 (q_0.wk (by decide)) (Nat.lt_succ_self _) _ (lv_sub hl [0, 1, 2, 3] rfl)
theorem dX9_canMelt_0 : decode cX9_canMelt 0 = .ok (.iconst 0, 1) := by decide +kernel
theorem dX9_canMelt_1 : decode cX9_canMelt 1 = .ok (.istore_n 2, 1) := by decide +kernel
theorem dX9_canMelt_2 : decode cX9_canMelt 2 = .ok (.iload_n 2, 1) := by decide +kernel
theorem dX9_canMelt_3 : decode cX9_canMelt 3 = .ok (.aload_n 0, 1) := by decide +kernel
theorem dX9_canMelt_4 : decode cX9_canMelt 4 = .ok (.getfield 15, 3) := by decide +kernel
theorem dX9_canMelt_7 : decode cX9_canMelt 7 = .ok (.getfield 19, 3) := by decide +kernel
theorem dX9_canMelt_10 : decode cX9_canMelt 10 = .ok (.if_icmp .ge 36, 3) := by decide +kernel
theorem dX9_canMelt_13 : decode cX9_canMelt 13 = .ok (.iload_n 1, 1) := by decide +kernel
theorem dX9_canMelt_14 : decode cX9_canMelt 14 = .ok (.iload_n 2, 1) := by decide +kernel
theorem dX9_canMelt_15 : decode cX9_canMelt 15 = .ok (.iushr, 1) := by decide +kernel
theorem dX9_canMelt_16 : decode cX9_canMelt 16 = .ok (.iconst 1, 1) := by decide +kernel
theorem dX9_canMelt_17 : decode cX9_canMelt 17 = .ok (.iand, 1) := by decide +kernel
theorem dX9_canMelt_18 : decode cX9_canMelt 18 = .ok (.iconst 1, 1) := by decide +kernel
theorem dX9_canMelt_19 : decode cX9_canMelt 19 = .ok (.if_icmp .ne 21, 3) := by decide +kernel
theorem dX9_canMelt_22 : decode cX9_canMelt 22 = .ok (.aload_n 0, 1) := by decide +kernel
theorem dX9_canMelt_23 : decode cX9_canMelt 23 = .ok (.getfield 15, 3) := by decide +kernel
theorem dX9_canMelt_26 : decode cX9_canMelt 26 = .ok (.getfield 45, 3) := by decide +kernel
theorem dX9_canMelt_29 : decode cX9_canMelt 29 = .ok (.iload_n 2, 1) := by decide +kernel
theorem dX9_canMelt_30 : decode cX9_canMelt 30 = .ok (.aaload, 1) := by decide +kernel
theorem dX9_canMelt_31 : decode cX9_canMelt 31 = .ok (.getfield 49, 3) := by decide +kernel
theorem dX9_canMelt_34 : decode cX9_canMelt 34 = .ok (.iconst 2, 1) := by decide +kernel
theorem dX9_canMelt_35 : decode cX9_canMelt 35 = .ok (.if_icmp .ne 5, 3) := by decide +kernel
theorem dX9_canMelt_38 : decode cX9_canMelt 38 = .ok (.iconst 0, 1) := by decide +kernel
theorem dX9_canMelt_39 : decode cX9_canMelt 39 = .ok (.ireturn, 1) := by decide +kernel
theorem dX9_canMelt_40 : decode cX9_canMelt 40 = .ok (.iinc 2 1, 3) := by decide +kernel
theorem dX9_canMelt_43 : decode cX9_canMelt 43 = .ok (.goto (-41), 3) := by decide +kernel
theorem dX9_canMelt_46 : decode cX9_canMelt 46 = .ok (.iconst 1, 1) := by decide +kernel
theorem dX9_canMelt_47 : decode cX9_canMelt 47 = .ok (.ireturn, 1) := by decide +kernel
set_option maxHeartbeats 4000000 in
set_option maxRecDepth 100000 in
theorem c_X9_canMelt (l : Launch) (D : va_G) (tys : List (ClassId × FieldType)) (base : Nat) (G : iv_G) (h0 : Nat) (g_h0 : Nat → Int32) (r_h0 : Nat → Nat) (a_h0 : G h0 = some (9, g_h0, r_h0)) (x_0 : Int32) (i_x_0 : iv_R 0 1023 x_0) : Met l yX9_canMelt (Cond.code yX9_canMelt cX9_canMelt 3 (some .boolean) :: iv_W0) ({ frames := 0, cells := 0, slots := 0, locals := 0 }) (iv_Pc iv_sh D classes tys base G [.ref h0, .int x_0]) (iv_Qi iv_sh D classes tys base (fun v G' => G = G' ∧ iv_R 0 1 v)) 0 0 (iv_A base) := by
  refine iv_head (by decide) (Nat.le_of_ble_eq_true rfl) ?_
  intro p e s m args below meth c ls X hr hlocks hname hB hl
  have X := X
  have hx := X.1.1
  have hb := X.1.2.1
  have hl : lv_has ls 3 [(0, .ref h0), (1, .int x_0)] := hl
  refine lv_iconst (v := 0) hx hb dX9_canMelt_0 (by decide) ?_
  refine lv_istore_n (lv' := [(2, .int 0), (0, .ref h0), (1, .int x_0)]) hx hb dX9_canMelt_1 rfl hl (by decide) rfl (fun ls hl => ?_)
  have L_2 : ∀ (n_2 : Nat) (H : Heap) (locs : List Loc) (hB : iv_B iv_sh D classes tys base G s.heap H locs) (x1 : Int32) (i_x1 : iv_R 0 10 x1) (hn_2 : (11 - x1.toInt).toNat < n_2) (ls : Array Slot) (hl : lv_has ls 3 [(2, .int x1), (0, .ref h0), (1, .int x_0)]), W p l e ({ frames := 0, cells := 0, slots := 0, locals := 0 } : Room) s m args below meth c H locs 0 0 (MQ below (iv_Qi iv_sh D classes tys base (fun v G' => G = G' ∧ iv_R 0 1 v)) args s 0 0 (iv_A base)) (F0 m 2 ls []) := by
    intro n_2
    induction n_2 with
    | zero => intro H locs hB x1 i_x1 hn_2 ls hl; exact absurd hn_2 (Nat.not_lt_zero _)
    | succ n_2 ih_2 =>
      intro H locs hB x1 i_x1 hn_2 ls hl
      refine lv_iload_n hx hb dX9_canMelt_2 rfl (lv_at hl 0 rfl) ?_
      refine lv_aload_n hx hb dX9_canMelt_3 rfl (lv_at hl 1 rfl) ?_
      refine iv_getr X ft_X9 hB a_h0 sh_9 0 (by decide) rfl k_fl_X9_15 dX9_canMelt_4 (fun b2 g_b2 r_b2 e_b2 a_b2 => ?_)
      refine iv_geti X ft_X5 hB a_b2 sh_5 1 (by decide) rfl k_fl_X9_19 dX9_canMelt_7 (fun x3 e_x3 i_x3 => ?_)
      refine lv_icmp_ge (tgt := 46) hx hb dX9_canMelt_10 (by decide) (fun c4 => ?_) (fun c4 => ?_)
      · skip
        refine lv_iconst (v := 1) hx hb dX9_canMelt_46 (by decide) ?_
        exact iv_zret X hr hlocks hB (q_1.wk (by decide)) ⟨rfl, (q_1.wk (by decide))⟩ dX9_canMelt_47
      · skip
        have i4_x1 : iv_R 0 9 x1 := (i_x1.cutHi (n := 9) (iv_lt_r (iv_nle c4) i_x3 (by decide)))
        have i5_x3 : iv_R 1 10 x3 := (i_x3.cutLo (n := 1) (iv_lt_l (iv_nle c4) i_x1 (by decide)))
        refine lv_iload_n hx hb dX9_canMelt_13 rfl (lv_at hl 2 rfl) ?_
        refine lv_iload_n hx hb dX9_canMelt_14 rfl (lv_at hl 0 rfl) ?_
        refine lv_iushr hx hb dX9_canMelt_15 rfl ?_
        refine lv_topi (fun x7 e_x7 => ?_)
        have i_x7 := iv_R.all x7
        refine lv_iconst (v := 1) hx hb dX9_canMelt_16 (by decide) ?_
        refine iv_iand_r hx hb q_1 (by decide) dX9_canMelt_17 (fun x8 e_x8 i_x8 => ?_)
        refine lv_iconst (v := 1) hx hb dX9_canMelt_18 (by decide) ?_
        refine lv_icmp_ne (tgt := 40) hx hb dX9_canMelt_19 (by decide) (fun c9 => ?_) (fun c9 => ?_)
        · skip
          have i9_x8 : iv_R 0 0 x8 := iv_ne_hi c9 i_x8 q_1 (by decide)
          refine iv_iinc hx hb i4_x1 (lo := 1) (hi := 10) (by decide) dX9_canMelt_40 hl (k := 0) rfl (by decide) (fun x11 ls e_x11 i_x11 hl => ?_)
          have hl : lv_has ls 3 [(2, .int x11), (0, .ref h0), (1, .int x_0)] := hl
          refine lv_goto (tgt := 2) hx hb dX9_canMelt_43 (by decide) ?_
          exact ih_2 _ _ hB x11 (i_x11.wk (by decide)) (iv_mup (c := 1) i_x1 (by decide) (by decide) (by omega) hn_2) _ (lv_sub hl [0, 1, 2] rfl)
        · skip
          have i11_x8 : iv_R 1 1 x8 := (i_x8.cutLo (n := 1) (iv_eq_r c9 q_1).1)
          refine lv_aload_n hx hb dX9_canMelt_22 rfl (lv_at hl 1 rfl) ?_
          refine iv_getr0 X ft_X9 hB a_h0 sh_9 0 (by decide) rfl k_fl_X9_15 dX9_canMelt_23 e_b2 ?_
          refine iv_getr X ft_X5 hB a_b2 sh_5 0 (by decide) rfl k_fl_X9_45 dX9_canMelt_26 (fun b13 g_b13 r_b13 e_b13 a_b13 => ?_)
          refine lv_iload_n hx hb dX9_canMelt_29 rfl (lv_at hl 0 rfl) ?_
          refine iv_aald X hB a_b13 sh_40 (iv_in i4_x1 (by decide)) dX9_canMelt_30 (fun b14 g_b14 r_b14 e_b14 a_b14 => ?_)
          refine iv_geti X ft_X1 hB a_b14 sh_1 6 (by decide) rfl k_fl_X9_49 dX9_canMelt_31 (fun x15 e_x15 i_x15 => ?_)
          refine lv_iconst (v := 2) hx hb dX9_canMelt_34 (by decide) ?_
          refine lv_icmp_ne (tgt := 40) hx hb dX9_canMelt_35 (by decide) (fun c16 => ?_) (fun c16 => ?_)
          · skip
            refine iv_iinc hx hb i4_x1 (lo := 1) (hi := 10) (by decide) dX9_canMelt_40 hl (k := 0) rfl (by decide) (fun x17 ls e_x17 i_x17 hl => ?_)
            have hl : lv_has ls 3 [(2, .int x17), (0, .ref h0), (1, .int x_0)] := hl
            refine lv_goto (tgt := 2) hx hb dX9_canMelt_43 (by decide) ?_
            exact ih_2 _ _ hB x17 (i_x17.wk (by decide)) (iv_mup (c := 1) i_x1 (by decide) (by decide) (by omega) hn_2) _ (lv_sub hl [0, 1, 2] rfl)
          · skip
            have i17_x15 : iv_R 2 2 x15 := ((i_x15.cutLo (n := 2) (iv_eq_r c16 q_2).1).cutHi (n := 2) (iv_eq_r c16 q_2).2)
            refine lv_iconst (v := 0) hx hb dX9_canMelt_38 (by decide) ?_
            exact iv_zret X hr hlocks hB (q_0.wk (by decide)) ⟨rfl, (q_0.wk (by decide))⟩ dX9_canMelt_39
  exact L_2 _ _ _ hB 0 (q_0.wk (by decide)) (Nat.lt_succ_self _) _ (lv_sub hl [0, 1, 2] rfl)
theorem dX9_isLessHarm_0 : decode cX9_isLessHarm 0 = .ok (.aload_n 0, 1) := by decide +kernel
theorem dX9_isLessHarm_1 : decode cX9_isLessHarm 1 = .ok (.iload_n 1, 1) := by decide +kernel
theorem dX9_isLessHarm_2 : decode cX9_isLessHarm 2 = .ok (.invokevirtual 37, 3) := by decide +kernel
theorem dX9_isLessHarm_5 : decode cX9_isLessHarm 5 = .ok (.istore_n 3, 1) := by decide +kernel
theorem dX9_isLessHarm_6 : decode cX9_isLessHarm 6 = .ok (.aload_n 0, 1) := by decide +kernel
theorem dX9_isLessHarm_7 : decode cX9_isLessHarm 7 = .ok (.iload_n 2, 1) := by decide +kernel
theorem dX9_isLessHarm_8 : decode cX9_isLessHarm 8 = .ok (.invokevirtual 37, 3) := by decide +kernel
theorem dX9_isLessHarm_11 : decode cX9_isLessHarm 11 = .ok (.istore 4, 2) := by decide +kernel
theorem dX9_isLessHarm_13 : decode cX9_isLessHarm 13 = .ok (.iload_n 3, 1) := by decide +kernel
theorem dX9_isLessHarm_14 : decode cX9_isLessHarm 14 = .ok (.iload 4, 2) := by decide +kernel
theorem dX9_isLessHarm_16 : decode cX9_isLessHarm 16 = .ok (.if_icmp .lt 20, 3) := by decide +kernel
theorem dX9_isLessHarm_19 : decode cX9_isLessHarm 19 = .ok (.iload_n 3, 1) := by decide +kernel
theorem dX9_isLessHarm_20 : decode cX9_isLessHarm 20 = .ok (.iload 4, 2) := by decide +kernel
theorem dX9_isLessHarm_22 : decode cX9_isLessHarm 22 = .ok (.if_icmp .ne 18, 3) := by decide +kernel
theorem dX9_isLessHarm_25 : decode cX9_isLessHarm 25 = .ok (.iload_n 1, 1) := by decide +kernel
theorem dX9_isLessHarm_26 : decode cX9_isLessHarm 26 = .ok (.invokestatic 40, 3) := by decide +kernel
theorem dX9_isLessHarm_29 : decode cX9_isLessHarm 29 = .ok (.iload_n 2, 1) := by decide +kernel
theorem dX9_isLessHarm_30 : decode cX9_isLessHarm 30 = .ok (.invokestatic 40, 3) := by decide +kernel
theorem dX9_isLessHarm_33 : decode cX9_isLessHarm 33 = .ok (.if_icmp .ge 7, 3) := by decide +kernel
theorem dX9_isLessHarm_36 : decode cX9_isLessHarm 36 = .ok (.iconst 1, 1) := by decide +kernel
theorem dX9_isLessHarm_37 : decode cX9_isLessHarm 37 = .ok (.goto 4, 3) := by decide +kernel
theorem dX9_isLessHarm_40 : decode cX9_isLessHarm 40 = .ok (.iconst 0, 1) := by decide +kernel
theorem dX9_isLessHarm_41 : decode cX9_isLessHarm 41 = .ok (.ireturn, 1) := by decide +kernel
set_option maxHeartbeats 4000000 in
set_option maxRecDepth 100000 in
theorem c_X9_isLessHarm (l : Launch) (D : va_G) (tys : List (ClassId × FieldType)) (base : Nat) (G : iv_G) (h0 : Nat) (g_h0 : Nat → Int32) (r_h0 : Nat → Nat) (a_h0 : G h0 = some (9, g_h0, r_h0)) (x_0 : Int32) (i_x_0 : iv_R 0 1023 x_0) (x_1 : Int32) (i_x_1 : iv_R 0 2047 x_1) : Met l yX9_isLessHarm (Cond.code yX9_isLessHarm cX9_isLessHarm 5 (some .boolean) :: iv_W0) ({ frames := 1, cells := 0, slots := 0, locals := 23 }) (iv_Pc iv_sh D classes tys base G [.ref h0, .int x_0, .int x_1]) (iv_Qi iv_sh D classes tys base (fun v G' => G = G' ∧ iv_R 0 1 v)) 0 0 (iv_A base) := by
  refine iv_head (by decide) (Nat.le_of_ble_eq_true rfl) ?_
  intro p e s m args below meth c ls X hr hlocks hname hB hl
  have X := X
  have hx := X.1.1
  have hb := X.1.2.1
  have hl : lv_has ls 5 [(0, .ref h0), (1, .int x_0), (2, .int x_1)] := hl
  refine lv_aload_n hx hb dX9_isLessHarm_0 rfl (lv_at hl 0 rfl) ?_
  refine lv_iload_n hx hb dX9_isLessHarm_1 rfl (lv_at hl 1 rfl) ?_
  refine iv_cVi X k_good k_mf_X9_hopeOf k_im_X9_hopeOf k_sel_X9_hopeOf k_ml_X9_37 ft_X9 hB a_h0 sh_9 (As := [.int x_0]) (c_X9_hopeOf l D tys base G h0 g_h0 r_h0 a_h0 x_0 (i_x_0.wk (by decide))) ⟨rfl, rfl⟩ ⟨Nat.le_of_ble_eq_true rfl, Nat.le_of_ble_eq_true rfl⟩ ⟨Nat.le_of_ble_eq_true rfl, Nat.le_of_ble_eq_true rfl⟩ rfl rfl hl.1 (Nat.le_of_ble_eq_true rfl) dX9_isLessHarm_2 (fun x1 G9 H locs hq hB => ?_)
  obtain ⟨rfl, i_x1⟩ := hq
  refine lv_istore_n (lv' := [(3, .int x1), (0, .ref h0), (1, .int x_0), (2, .int x_1)]) hx hb dX9_isLessHarm_5 rfl hl (by decide) rfl (fun ls hl => ?_)
  refine lv_aload_n hx hb dX9_isLessHarm_6 rfl (lv_at hl 1 rfl) ?_
  refine lv_iload_n hx hb dX9_isLessHarm_7 rfl (lv_at hl 3 rfl) ?_
  refine iv_cVi X k_good k_mf_X9_hopeOf k_im_X9_hopeOf k_sel_X9_hopeOf k_ml_X9_37 ft_X9 hB a_h0 sh_9 (As := [.int x_1]) (c_X9_hopeOf l D tys base G h0 g_h0 r_h0 a_h0 x_1 i_x_1) ⟨rfl, rfl⟩ ⟨Nat.le_of_ble_eq_true rfl, Nat.le_of_ble_eq_true rfl⟩ ⟨Nat.le_of_ble_eq_true rfl, Nat.le_of_ble_eq_true rfl⟩ rfl rfl hl.1 (Nat.le_of_ble_eq_true rfl) dX9_isLessHarm_8 (fun x2 G9 H locs hq hB => ?_)
  obtain ⟨rfl, i_x2⟩ := hq
  refine lv_istore (lv' := [(4, .int x2), (3, .int x1), (0, .ref h0), (1, .int x_0), (2, .int x_1)]) hx hb dX9_isLessHarm_11 hl (by decide) rfl (fun ls hl => ?_)
  refine lv_iload_n hx hb dX9_isLessHarm_13 rfl (lv_at hl 1 rfl) ?_
  refine lv_iload hx hb dX9_isLessHarm_14 (lv_at hl 0 rfl) ?_
  refine lv_icmp_lt (tgt := 36) hx hb dX9_isLessHarm_16 (by decide) (fun c3 => ?_) (fun c3 => ?_)
  · skip
    have i3_x1 : iv_R (-2147483648) 2147483646 x1 := (i_x1.cutHi (n := 2147483646) (iv_lt_r c3 i_x2 (by decide)))
    have i4_x2 : iv_R (-2147483647) 2147483647 x2 := (i_x2.cutLo (n := (-2147483647)) (iv_lt_l c3 i_x1 (by decide)))
    refine lv_iconst (v := 1) hx hb dX9_isLessHarm_36 (by decide) ?_
    refine lv_goto (tgt := 41) hx hb dX9_isLessHarm_37 (by decide) ?_
    exact iv_zret X hr hlocks hB (q_1.wk (by decide)) ⟨rfl, (q_1.wk (by decide))⟩ dX9_isLessHarm_41
  · skip
    refine lv_iload_n hx hb dX9_isLessHarm_19 rfl (lv_at hl 1 rfl) ?_
    refine lv_iload hx hb dX9_isLessHarm_20 (lv_at hl 0 rfl) ?_
    refine lv_icmp_ne (tgt := 40) hx hb dX9_isLessHarm_22 (by decide) (fun c6 => ?_) (fun c6 => ?_)
    · skip
      refine lv_iconst (v := 0) hx hb dX9_isLessHarm_40 (by decide) ?_
      exact iv_zret X hr hlocks hB (q_0.wk (by decide)) ⟨rfl, (q_0.wk (by decide))⟩ dX9_isLessHarm_41
    · skip
      refine lv_iload_n hx hb dX9_isLessHarm_25 rfl (lv_at hl 3 rfl) ?_
      refine iv_cSi X k_good k_mf_J6_bitCount_0f7a4 k_st_J6_bitCount_0f7a4 k_ml_X9_40 hB (As := [.int x_0]) (c_J6_bitCount_0f7a4 l D tys base G x_0 (i_x_0.wk (by decide))) ⟨rfl, rfl⟩ ⟨Nat.le_of_ble_eq_true rfl, Nat.le_of_ble_eq_true rfl⟩ ⟨Nat.le_of_ble_eq_true rfl, Nat.le_of_ble_eq_true rfl⟩ rfl rfl hl.1 (Nat.le_of_ble_eq_true rfl) dX9_isLessHarm_26 (fun x7 G9 H locs hq hB => ?_)
      obtain ⟨rfl, i_x7⟩ := hq
      refine lv_iload_n hx hb dX9_isLessHarm_29 rfl (lv_at hl 4 rfl) ?_
      refine iv_cSi X k_good k_mf_J6_bitCount_0f7a4 k_st_J6_bitCount_0f7a4 k_ml_X9_40 hB (As := [.int x_1]) (c_J6_bitCount_0f7a4 l D tys base G x_1 (i_x_1.wk (by decide))) ⟨rfl, rfl⟩ ⟨Nat.le_of_ble_eq_true rfl, Nat.le_of_ble_eq_true rfl⟩ ⟨Nat.le_of_ble_eq_true rfl, Nat.le_of_ble_eq_true rfl⟩ rfl rfl hl.1 (Nat.le_of_ble_eq_true rfl) dX9_isLessHarm_30 (fun x8 G9 H locs hq hB => ?_)
      obtain ⟨rfl, i_x8⟩ := hq
      refine lv_icmp_ge (tgt := 40) hx hb dX9_isLessHarm_33 (by decide) (fun c9 => ?_) (fun c9 => ?_)
      · skip
        refine lv_iconst (v := 0) hx hb dX9_isLessHarm_40 (by decide) ?_
        exact iv_zret X hr hlocks hB (q_0.wk (by decide)) ⟨rfl, (q_0.wk (by decide))⟩ dX9_isLessHarm_41
      · skip
        have i9_x7 : iv_R 0 62 x7 := (i_x7.cutHi (n := 62) (iv_lt_r (iv_nle c9) i_x8 (by decide)))
        have i10_x8 : iv_R 1 63 x8 := (i_x8.cutLo (n := 1) (iv_lt_l (iv_nle c9) i_x7 (by decide)))
        refine lv_iconst (v := 1) hx hb dX9_isLessHarm_36 (by decide) ?_
        refine lv_goto (tgt := 41) hx hb dX9_isLessHarm_37 (by decide) ?_
        exact iv_zret X hr hlocks hB (q_1.wk (by decide)) ⟨rfl, (q_1.wk (by decide))⟩ dX9_isLessHarm_41
theorem dX9_weightOf_0 : decode cX9_weightOf 0 = .ok (.iconst 0, 1) := by decide +kernel
theorem dX9_weightOf_1 : decode cX9_weightOf 1 = .ok (.istore_n 2, 1) := by decide +kernel
theorem dX9_weightOf_2 : decode cX9_weightOf 2 = .ok (.iconst 0, 1) := by decide +kernel
theorem dX9_weightOf_3 : decode cX9_weightOf 3 = .ok (.istore_n 3, 1) := by decide +kernel
theorem dX9_weightOf_4 : decode cX9_weightOf 4 = .ok (.iload_n 3, 1) := by decide +kernel
theorem dX9_weightOf_5 : decode cX9_weightOf 5 = .ok (.aload_n 0, 1) := by decide +kernel
theorem dX9_weightOf_6 : decode cX9_weightOf 6 = .ok (.getfield 15, 3) := by decide +kernel
theorem dX9_weightOf_9 : decode cX9_weightOf 9 = .ok (.getfield 19, 3) := by decide +kernel
theorem dX9_weightOf_12 : decode cX9_weightOf 12 = .ok (.if_icmp .ge 30, 3) := by decide +kernel
theorem dX9_weightOf_15 : decode cX9_weightOf 15 = .ok (.iload_n 2, 1) := by decide +kernel
theorem dX9_weightOf_16 : decode cX9_weightOf 16 = .ok (.iload_n 1, 1) := by decide +kernel
theorem dX9_weightOf_17 : decode cX9_weightOf 17 = .ok (.iload_n 3, 1) := by decide +kernel
theorem dX9_weightOf_18 : decode cX9_weightOf 18 = .ok (.iushr, 1) := by decide +kernel
theorem dX9_weightOf_19 : decode cX9_weightOf 19 = .ok (.iconst 1, 1) := by decide +kernel
theorem dX9_weightOf_20 : decode cX9_weightOf 20 = .ok (.iand, 1) := by decide +kernel
theorem dX9_weightOf_21 : decode cX9_weightOf 21 = .ok (.aload_n 0, 1) := by decide +kernel
theorem dX9_weightOf_22 : decode cX9_weightOf 22 = .ok (.getfield 15, 3) := by decide +kernel
theorem dX9_weightOf_25 : decode cX9_weightOf 25 = .ok (.getfield 45, 3) := by decide +kernel
theorem dX9_weightOf_28 : decode cX9_weightOf 28 = .ok (.iload_n 3, 1) := by decide +kernel
theorem dX9_weightOf_29 : decode cX9_weightOf 29 = .ok (.aaload, 1) := by decide +kernel
theorem dX9_weightOf_30 : decode cX9_weightOf 30 = .ok (.getfield 54, 3) := by decide +kernel
theorem dX9_weightOf_33 : decode cX9_weightOf 33 = .ok (.imul, 1) := by decide +kernel
theorem dX9_weightOf_34 : decode cX9_weightOf 34 = .ok (.iadd, 1) := by decide +kernel
theorem dX9_weightOf_35 : decode cX9_weightOf 35 = .ok (.istore_n 2, 1) := by decide +kernel
theorem dX9_weightOf_36 : decode cX9_weightOf 36 = .ok (.iinc 3 1, 3) := by decide +kernel
theorem dX9_weightOf_39 : decode cX9_weightOf 39 = .ok (.goto (-35), 3) := by decide +kernel
theorem dX9_weightOf_42 : decode cX9_weightOf 42 = .ok (.iload_n 2, 1) := by decide +kernel
theorem dX9_weightOf_43 : decode cX9_weightOf 43 = .ok (.ireturn, 1) := by decide +kernel
set_option maxHeartbeats 4000000 in
set_option maxRecDepth 100000 in
theorem c_X9_weightOf (l : Launch) (D : va_G) (tys : List (ClassId × FieldType)) (base : Nat) (G : iv_G) (h0 : Nat) (g_h0 : Nat → Int32) (r_h0 : Nat → Nat) (a_h0 : G h0 = some (9, g_h0, r_h0)) (x_0 : Int32) (i_x_0 : iv_R 0 1023 x_0) : Met l yX9_weightOf (Cond.code yX9_weightOf cX9_weightOf 4 (some .int) :: iv_W0) ({ frames := 0, cells := 0, slots := 0, locals := 0 }) (iv_Pc iv_sh D classes tys base G [.ref h0, .int x_0]) (iv_Qi iv_sh D classes tys base (fun v G' => G = G' ∧ iv_R (-2147483648) 2147483647 v)) 0 0 (iv_A base) := by
  refine iv_head (by decide) (Nat.le_of_ble_eq_true rfl) ?_
  intro p e s m args below meth c ls X hr hlocks hname hB hl
  have X := X
  have hx := X.1.1
  have hb := X.1.2.1
  have hl : lv_has ls 4 [(0, .ref h0), (1, .int x_0)] := hl
  refine lv_iconst (v := 0) hx hb dX9_weightOf_0 (by decide) ?_
  refine lv_istore_n (lv' := [(2, .int 0), (0, .ref h0), (1, .int x_0)]) hx hb dX9_weightOf_1 rfl hl (by decide) rfl (fun ls hl => ?_)
  refine lv_iconst (v := 0) hx hb dX9_weightOf_2 (by decide) ?_
  refine lv_istore_n (lv' := [(3, .int 0), (2, .int 0), (0, .ref h0), (1, .int x_0)]) hx hb dX9_weightOf_3 rfl hl (by decide) rfl (fun ls hl => ?_)
  have L_4 : ∀ (n_4 : Nat) (H : Heap) (locs : List Loc) (hB : iv_B iv_sh D classes tys base G s.heap H locs) (x1 : Int32) (i_x1 : iv_R (-2147483648) 2147483647 x1) (x2 : Int32) (i_x2 : iv_R 0 10 x2) (hn_4 : (11 - x2.toInt).toNat < n_4) (ls : Array Slot) (hl : lv_has ls 4 [(3, .int x2), (2, .int x1), (0, .ref h0), (1, .int x_0)]), W p l e ({ frames := 0, cells := 0, slots := 0, locals := 0 } : Room) s m args below meth c H locs 0 0 (MQ below (iv_Qi iv_sh D classes tys base (fun v G' => G = G' ∧ iv_R (-2147483648) 2147483647 v)) args s 0 0 (iv_A base)) (F0 m 4 ls []) := by
    intro n_4
    induction n_4 with
    | zero => intro H locs hB x1 i_x1 x2 i_x2 hn_4 ls hl; exact absurd hn_4 (Nat.not_lt_zero _)
    | succ n_4 ih_4 =>
      intro H locs hB x1 i_x1 x2 i_x2 hn_4 ls hl
      refine lv_iload_n hx hb dX9_weightOf_4 rfl (lv_at hl 0 rfl) ?_
      refine lv_aload_n hx hb dX9_weightOf_5 rfl (lv_at hl 2 rfl) ?_
      refine iv_getr X ft_X9 hB a_h0 sh_9 0 (by decide) rfl k_fl_X9_15 dX9_weightOf_6 (fun b3 g_b3 r_b3 e_b3 a_b3 => ?_)
      refine iv_geti X ft_X5 hB a_b3 sh_5 1 (by decide) rfl k_fl_X9_19 dX9_weightOf_9 (fun x4 e_x4 i_x4 => ?_)
      refine lv_icmp_ge (tgt := 42) hx hb dX9_weightOf_12 (by decide) (fun c5 => ?_) (fun c5 => ?_)
      · skip
        refine lv_iload_n hx hb dX9_weightOf_42 rfl (lv_at hl 1 rfl) ?_
        exact iv_iret X hr hlocks hB ⟨rfl, i_x1⟩ dX9_weightOf_43
      · skip
        have i5_x2 : iv_R 0 9 x2 := (i_x2.cutHi (n := 9) (iv_lt_r (iv_nle c5) i_x4 (by decide)))
        have i6_x4 : iv_R 1 10 x4 := (i_x4.cutLo (n := 1) (iv_lt_l (iv_nle c5) i_x2 (by decide)))
        refine lv_iload_n hx hb dX9_weightOf_15 rfl (lv_at hl 1 rfl) ?_
        refine lv_iload_n hx hb dX9_weightOf_16 rfl (lv_at hl 3 rfl) ?_
        refine lv_iload_n hx hb dX9_weightOf_17 rfl (lv_at hl 0 rfl) ?_
        refine lv_iushr hx hb dX9_weightOf_18 rfl ?_
        refine lv_topi (fun x8 e_x8 => ?_)
        have i_x8 := iv_R.all x8
        refine lv_iconst (v := 1) hx hb dX9_weightOf_19 (by decide) ?_
        refine iv_iand_r hx hb q_1 (by decide) dX9_weightOf_20 (fun x9 e_x9 i_x9 => ?_)
        refine lv_aload_n hx hb dX9_weightOf_21 rfl (lv_at hl 2 rfl) ?_
        refine iv_getr0 X ft_X9 hB a_h0 sh_9 0 (by decide) rfl k_fl_X9_15 dX9_weightOf_22 e_b3 ?_
        refine iv_getr X ft_X5 hB a_b3 sh_5 0 (by decide) rfl k_fl_X9_45 dX9_weightOf_25 (fun b10 g_b10 r_b10 e_b10 a_b10 => ?_)
        refine lv_iload_n hx hb dX9_weightOf_28 rfl (lv_at hl 0 rfl) ?_
        refine iv_aald X hB a_b10 sh_40 (iv_in i5_x2 (by decide)) dX9_weightOf_29 (fun b11 g_b11 r_b11 e_b11 a_b11 => ?_)
        refine iv_geti X ft_X1 hB a_b11 sh_1 2 (by decide) rfl k_fl_X9_54 dX9_weightOf_30 (fun x12 e_x12 i_x12 => ?_)
        refine lv_imul hx hb dX9_weightOf_33 ?_
        refine lv_topi (fun x13 e_x13 => ?_)
        have i_x13 := iv_R.all x13
        refine lv_iadd hx hb dX9_weightOf_34 ?_
        refine lv_topi (fun x14 e_x14 => ?_)
        have i_x14 := iv_R.all x14
        refine lv_istore_n (lv' := [(2, .int x14), (3, .int x2), (0, .ref h0), (1, .int x_0)]) hx hb dX9_weightOf_35 rfl hl (by decide) rfl (fun ls hl => ?_)
        refine iv_iinc hx hb i5_x2 (lo := 1) (hi := 10) (by decide) dX9_weightOf_36 hl (k := 1) rfl (by decide) (fun x15 ls e_x15 i_x15 hl => ?_)
        have hl : lv_has ls 4 [(3, .int x15), (2, .int x14), (0, .ref h0), (1, .int x_0)] := hl
        refine lv_goto (tgt := 4) hx hb dX9_weightOf_39 (by decide) ?_
        exact ih_4 _ _ hB x14 i_x14 x15 (i_x15.wk (by decide)) (iv_mup (c := 1) i_x2 (by decide) (by decide) (by omega) hn_4) _ (lv_sub hl [0, 1, 2, 3] rfl)
  exact L_4 _ _ _ hB 0 (q_0.wk (by decide)) 0 (q_0.wk (by decide)) (Nat.lt_succ_self _) _ (lv_sub hl [0, 1, 2, 3] rfl)
theorem dX9_leastHarm_0 : decode cX9_leastHarm 0 = .ok (.iconst (-1), 1) := by decide +kernel
theorem dX9_leastHarm_1 : decode cX9_leastHarm 1 = .ok (.istore_n 2, 1) := by decide +kernel
theorem dX9_leastHarm_2 : decode cX9_leastHarm 2 = .ok (.iconst 0, 1) := by decide +kernel
theorem dX9_leastHarm_3 : decode cX9_leastHarm 3 = .ok (.istore_n 3, 1) := by decide +kernel
theorem dX9_leastHarm_4 : decode cX9_leastHarm 4 = .ok (.iload_n 3, 1) := by decide +kernel
theorem dX9_leastHarm_5 : decode cX9_leastHarm 5 = .ok (.iconst 1, 1) := by decide +kernel
theorem dX9_leastHarm_6 : decode cX9_leastHarm 6 = .ok (.aload_n 0, 1) := by decide +kernel
theorem dX9_leastHarm_7 : decode cX9_leastHarm 7 = .ok (.getfield 15, 3) := by decide +kernel
theorem dX9_leastHarm_10 : decode cX9_leastHarm 10 = .ok (.getfield 19, 3) := by decide +kernel
theorem dX9_leastHarm_13 : decode cX9_leastHarm 13 = .ok (.ishl, 1) := by decide +kernel
theorem dX9_leastHarm_14 : decode cX9_leastHarm 14 = .ok (.if_icmp .ge 42, 3) := by decide +kernel
theorem dX9_leastHarm_17 : decode cX9_leastHarm 17 = .ok (.aload_n 0, 1) := by decide +kernel
theorem dX9_leastHarm_18 : decode cX9_leastHarm 18 = .ok (.iload_n 3, 1) := by decide +kernel
theorem dX9_leastHarm_19 : decode cX9_leastHarm 19 = .ok (.invokevirtual 25, 3) := by decide +kernel
theorem dX9_leastHarm_22 : decode cX9_leastHarm 22 = .ok (.ifCond .eq 28, 3) := by decide +kernel
theorem dX9_leastHarm_25 : decode cX9_leastHarm 25 = .ok (.aload_n 0, 1) := by decide +kernel
theorem dX9_leastHarm_26 : decode cX9_leastHarm 26 = .ok (.iload_n 3, 1) := by decide +kernel
theorem dX9_leastHarm_27 : decode cX9_leastHarm 27 = .ok (.invokevirtual 29, 3) := by decide +kernel
theorem dX9_leastHarm_30 : decode cX9_leastHarm 30 = .ok (.iload_n 1, 1) := by decide +kernel
theorem dX9_leastHarm_31 : decode cX9_leastHarm 31 = .ok (.if_icmp .lt 19, 3) := by decide +kernel
theorem dX9_leastHarm_34 : decode cX9_leastHarm 34 = .ok (.iload_n 2, 1) := by decide +kernel
theorem dX9_leastHarm_35 : decode cX9_leastHarm 35 = .ok (.iconst (-1), 1) := by decide +kernel
theorem dX9_leastHarm_36 : decode cX9_leastHarm 36 = .ok (.if_icmp .eq 12, 3) := by decide +kernel
theorem dX9_leastHarm_39 : decode cX9_leastHarm 39 = .ok (.aload_n 0, 1) := by decide +kernel
theorem dX9_leastHarm_40 : decode cX9_leastHarm 40 = .ok (.iload_n 3, 1) := by decide +kernel
theorem dX9_leastHarm_41 : decode cX9_leastHarm 41 = .ok (.iload_n 2, 1) := by decide +kernel
theorem dX9_leastHarm_42 : decode cX9_leastHarm 42 = .ok (.invokevirtual 33, 3) := by decide +kernel
theorem dX9_leastHarm_45 : decode cX9_leastHarm 45 = .ok (.ifCond .eq 5, 3) := by decide +kernel
theorem dX9_leastHarm_48 : decode cX9_leastHarm 48 = .ok (.iload_n 3, 1) := by decide +kernel
theorem dX9_leastHarm_49 : decode cX9_leastHarm 49 = .ok (.istore_n 2, 1) := by decide +kernel
theorem dX9_leastHarm_50 : decode cX9_leastHarm 50 = .ok (.iinc 3 1, 3) := by decide +kernel
theorem dX9_leastHarm_53 : decode cX9_leastHarm 53 = .ok (.goto (-49), 3) := by decide +kernel
theorem dX9_leastHarm_56 : decode cX9_leastHarm 56 = .ok (.iload_n 2, 1) := by decide +kernel
theorem dX9_leastHarm_57 : decode cX9_leastHarm 57 = .ok (.ireturn, 1) := by decide +kernel
set_option maxHeartbeats 4000000 in
set_option maxRecDepth 100000 in
theorem c_X9_leastHarm (l : Launch) (D : va_G) (tys : List (ClassId × FieldType)) (base : Nat) (G : iv_G) (h0 : Nat) (g_h0 : Nat → Int32) (r_h0 : Nat → Nat) (a_h0 : G h0 = some (9, g_h0, r_h0)) (x_0 : Int32) (i_x_0 : iv_R 1 999 x_0) : Met l yX9_leastHarm (Cond.code yX9_leastHarm cX9_leastHarm 4 (some .int) :: iv_W0) ({ frames := 2, cells := 0, slots := 0, locals := 47 }) (iv_Pc iv_sh D classes tys base G [.ref h0, .int x_0]) (iv_Qi iv_sh D classes tys base (fun v G' => G = G' ∧ iv_R (-1) 2047 v)) 0 0 (iv_A base) := by
  refine iv_head (by decide) (Nat.le_of_ble_eq_true rfl) ?_
  intro p e s m args below meth c ls X hr hlocks hname hB hl
  have X := X
  have hx := X.1.1
  have hb := X.1.2.1
  have hl : lv_has ls 4 [(0, .ref h0), (1, .int x_0)] := hl
  refine lv_iconst (v := (-1)) hx hb dX9_leastHarm_0 (by decide) ?_
  refine lv_istore_n (lv' := [(2, .int (-1)), (0, .ref h0), (1, .int x_0)]) hx hb dX9_leastHarm_1 rfl hl (by decide) rfl (fun ls hl => ?_)
  refine lv_iconst (v := 0) hx hb dX9_leastHarm_2 (by decide) ?_
  refine lv_istore_n (lv' := [(3, .int 0), (2, .int (-1)), (0, .ref h0), (1, .int x_0)]) hx hb dX9_leastHarm_3 rfl hl (by decide) rfl (fun ls hl => ?_)
  have L_4 : ∀ (n_4 : Nat) (H : Heap) (locs : List Loc) (hB : iv_B iv_sh D classes tys base G s.heap H locs) (x1 : Int32) (i_x1 : iv_R (-1) 2047 x1) (x2 : Int32) (i_x2 : iv_R 0 2047 x2) (hn_4 : (2048 - x2.toInt).toNat < n_4) (ls : Array Slot) (hl : lv_has ls 4 [(3, .int x2), (2, .int x1), (0, .ref h0), (1, .int x_0)]), W p l e ({ frames := 2, cells := 0, slots := 0, locals := 47 } : Room) s m args below meth c H locs 0 0 (MQ below (iv_Qi iv_sh D classes tys base (fun v G' => G = G' ∧ iv_R (-1) 2047 v)) args s 0 0 (iv_A base)) (F0 m 4 ls []) := by
    intro n_4
    induction n_4 with
    | zero => intro H locs hB x1 i_x1 x2 i_x2 hn_4 ls hl; exact absurd hn_4 (Nat.not_lt_zero _)
    | succ n_4 ih_4 =>
      intro H locs hB x1 i_x1 x2 i_x2 hn_4 ls hl
      refine lv_iload_n hx hb dX9_leastHarm_4 rfl (lv_at hl 0 rfl) ?_
      refine lv_iconst (v := 1) hx hb dX9_leastHarm_5 (by decide) ?_
      refine lv_aload_n hx hb dX9_leastHarm_6 rfl (lv_at hl 2 rfl) ?_
      refine iv_getr X ft_X9 hB a_h0 sh_9 0 (by decide) rfl k_fl_X9_15 dX9_leastHarm_7 (fun b3 g_b3 r_b3 e_b3 a_b3 => ?_)
      refine iv_geti X ft_X5 hB a_b3 sh_5 1 (by decide) rfl k_fl_X9_19 dX9_leastHarm_10 (fun x4 e_x4 i_x4 => ?_)
      refine iv_shl1 hx hb i_x4 (lo := 1) (hi := 1024) (by decide) dX9_leastHarm_13 (fun x5 e_x5 i_x5 => ?_)
      refine lv_icmp_ge (tgt := 56) hx hb dX9_leastHarm_14 (by decide) (fun c6 => ?_) (fun c6 => ?_)
      · skip
        have i6_x2 : iv_R 1 2047 x2 := (i_x2.cutLo (n := 1) (iv_le_l c6 i_x5))
        refine lv_iload_n hx hb dX9_leastHarm_56 rfl (lv_at hl 1 rfl) ?_
        exact iv_iret X hr hlocks hB ⟨rfl, i_x1⟩ dX9_leastHarm_57
      · skip
        have i7_x2 : iv_R 0 1023 x2 := (i_x2.cutHi (n := 1023) (iv_lt_r (iv_nle c6) i_x5 (by decide)))
        refine lv_aload_n hx hb dX9_leastHarm_17 rfl (lv_at hl 2 rfl) ?_
        refine lv_iload_n hx hb dX9_leastHarm_18 rfl (lv_at hl 0 rfl) ?_
        refine iv_cVi X k_good k_mf_X9_canMelt k_im_X9_canMelt k_sel_X9_canMelt k_ml_X9_25 ft_X9 hB a_h0 sh_9 (As := [.int x2]) (c_X9_canMelt l D tys base G h0 g_h0 r_h0 a_h0 x2 i7_x2) ⟨rfl, rfl⟩ ⟨Nat.le_of_ble_eq_true rfl, Nat.le_of_ble_eq_true rfl⟩ ⟨Nat.le_of_ble_eq_true rfl, Nat.le_of_ble_eq_true rfl⟩ rfl rfl hl.1 (Nat.le_of_ble_eq_true rfl) dX9_leastHarm_19 (fun x9 G9 H locs hq hB => ?_)
        obtain ⟨rfl, i_x9⟩ := hq
        refine lv_if_eq (tgt := 50) hx hb dX9_leastHarm_22 (by decide) (fun c10 => ?_) (fun c10 => ?_)
        · skip
          have i10_x9 : iv_R 0 0 x9 := (i_x9.cutHi (n := 0) (iv_eq_r c10 q_0).2)
          refine iv_iinc hx hb i7_x2 (lo := 1) (hi := 1024) (by decide) dX9_leastHarm_50 hl (k := 0) rfl (by decide) (fun x12 ls e_x12 i_x12 hl => ?_)
          have hl : lv_has ls 4 [(3, .int x12), (2, .int x1), (0, .ref h0), (1, .int x_0)] := hl
          refine lv_goto (tgt := 4) hx hb dX9_leastHarm_53 (by decide) ?_
          exact ih_4 _ _ hB x1 i_x1 x12 (i_x12.wk (by decide)) (iv_mup (c := 1) i_x2 (by decide) (by decide) (by omega) hn_4) _ (lv_sub hl [0, 1, 2, 3] rfl)
        · skip
          have i12_x9 : iv_R 1 1 x9 := iv_ne_lo c10 i_x9 q_0 (by decide)
          refine lv_aload_n hx hb dX9_leastHarm_25 rfl (lv_at hl 2 rfl) ?_
          refine lv_iload_n hx hb dX9_leastHarm_26 rfl (lv_at hl 0 rfl) ?_
          refine iv_cVi X k_good k_mf_X9_weightOf k_im_X9_weightOf k_sel_X9_weightOf k_ml_X9_29 ft_X9 hB a_h0 sh_9 (As := [.int x2]) (c_X9_weightOf l D tys base G h0 g_h0 r_h0 a_h0 x2 i7_x2) ⟨rfl, rfl⟩ ⟨Nat.le_of_ble_eq_true rfl, Nat.le_of_ble_eq_true rfl⟩ ⟨Nat.le_of_ble_eq_true rfl, Nat.le_of_ble_eq_true rfl⟩ rfl rfl hl.1 (Nat.le_of_ble_eq_true rfl) dX9_leastHarm_27 (fun x14 G9 H locs hq hB => ?_)
          obtain ⟨rfl, i_x14⟩ := hq
          refine lv_iload_n hx hb dX9_leastHarm_30 rfl (lv_at hl 3 rfl) ?_
          refine lv_icmp_lt (tgt := 50) hx hb dX9_leastHarm_31 (by decide) (fun c15 => ?_) (fun c15 => ?_)
          · skip
            have i15_x14 : iv_R (-2147483648) 998 x14 := (i_x14.cutHi (n := 998) (iv_lt_r c15 i_x_0 (by decide)))
            refine iv_iinc hx hb i7_x2 (lo := 1) (hi := 1024) (by decide) dX9_leastHarm_50 hl (k := 0) rfl (by decide) (fun x17 ls e_x17 i_x17 hl => ?_)
            have hl : lv_has ls 4 [(3, .int x17), (2, .int x1), (0, .ref h0), (1, .int x_0)] := hl
            refine lv_goto (tgt := 4) hx hb dX9_leastHarm_53 (by decide) ?_
            exact ih_4 _ _ hB x1 i_x1 x17 (i_x17.wk (by decide)) (iv_mup (c := 1) i_x2 (by decide) (by decide) (by omega) hn_4) _ (lv_sub hl [0, 1, 2, 3] rfl)
          · skip
            have i17_x14 : iv_R 1 2147483647 x14 := (i_x14.cutLo (n := 1) (iv_le_l (iv_nlt c15) i_x_0))
            refine lv_iload_n hx hb dX9_leastHarm_34 rfl (lv_at hl 1 rfl) ?_
            refine lv_iconst (v := (-1)) hx hb dX9_leastHarm_35 (by decide) ?_
            refine lv_icmp_eq (tgt := 48) hx hb dX9_leastHarm_36 (by decide) (fun c19 => ?_) (fun c19 => ?_)
            · skip
              have i19_x1 : iv_R (-1) (-1) x1 := (i_x1.cutHi (n := (-1)) (iv_eq_r c19 q_n1).2)
              refine lv_iload_n hx hb dX9_leastHarm_48 rfl (lv_at hl 0 rfl) ?_
              refine lv_istore_n (lv' := [(2, .int x2), (3, .int x2), (0, .ref h0), (1, .int x_0)]) hx hb dX9_leastHarm_49 rfl hl (by decide) rfl (fun ls hl => ?_)
              refine iv_iinc hx hb i7_x2 (lo := 1) (hi := 1024) (by decide) dX9_leastHarm_50 hl (k := 1) rfl (by decide) (fun x21 ls e_x21 i_x21 hl => ?_)
              have hl : lv_has ls 4 [(3, .int x21), (2, .int x2), (0, .ref h0), (1, .int x_0)] := hl
              refine lv_goto (tgt := 4) hx hb dX9_leastHarm_53 (by decide) ?_
              exact ih_4 _ _ hB x2 (i7_x2.wk (by decide)) x21 (i_x21.wk (by decide)) (iv_mup (c := 1) i_x2 (by decide) (by decide) (by omega) hn_4) _ (lv_sub hl [0, 1, 2, 3] rfl)
            · skip
              have i21_x1 : iv_R 0 2047 x1 := iv_ne_lo c19 i_x1 q_n1 (by decide)
              refine lv_aload_n hx hb dX9_leastHarm_39 rfl (lv_at hl 2 rfl) ?_
              refine lv_iload_n hx hb dX9_leastHarm_40 rfl (lv_at hl 0 rfl) ?_
              refine lv_iload_n hx hb dX9_leastHarm_41 rfl (lv_at hl 1 rfl) ?_
              refine iv_cVi X k_good k_mf_X9_isLessHarm k_im_X9_isLessHarm k_sel_X9_isLessHarm k_ml_X9_33 ft_X9 hB a_h0 sh_9 (As := [.int x2, .int x1]) (c_X9_isLessHarm l D tys base G h0 g_h0 r_h0 a_h0 x2 i7_x2 x1 i21_x1) ⟨rfl, rfl⟩ ⟨Nat.le_of_ble_eq_true rfl, Nat.le_of_ble_eq_true rfl⟩ ⟨Nat.le_of_ble_eq_true rfl, Nat.le_of_ble_eq_true rfl⟩ rfl rfl hl.1 (Nat.le_of_ble_eq_true rfl) dX9_leastHarm_42 (fun x23 G9 H locs hq hB => ?_)
              obtain ⟨rfl, i_x23⟩ := hq
              refine lv_if_eq (tgt := 50) hx hb dX9_leastHarm_45 (by decide) (fun c24 => ?_) (fun c24 => ?_)
              · skip
                have i24_x23 : iv_R 0 0 x23 := (i_x23.cutHi (n := 0) (iv_eq_r c24 q_0).2)
                refine iv_iinc hx hb i7_x2 (lo := 1) (hi := 1024) (by decide) dX9_leastHarm_50 hl (k := 0) rfl (by decide) (fun x26 ls e_x26 i_x26 hl => ?_)
                have hl : lv_has ls 4 [(3, .int x26), (2, .int x1), (0, .ref h0), (1, .int x_0)] := hl
                refine lv_goto (tgt := 4) hx hb dX9_leastHarm_53 (by decide) ?_
                exact ih_4 _ _ hB x1 (i21_x1.wk (by decide)) x26 (i_x26.wk (by decide)) (iv_mup (c := 1) i_x2 (by decide) (by decide) (by omega) hn_4) _ (lv_sub hl [0, 1, 2, 3] rfl)
              · skip
                have i26_x23 : iv_R 1 1 x23 := iv_ne_lo c24 i_x23 q_0 (by decide)
                refine lv_iload_n hx hb dX9_leastHarm_48 rfl (lv_at hl 0 rfl) ?_
                refine lv_istore_n (lv' := [(2, .int x2), (3, .int x2), (0, .ref h0), (1, .int x_0)]) hx hb dX9_leastHarm_49 rfl hl (by decide) rfl (fun ls hl => ?_)
                refine iv_iinc hx hb i7_x2 (lo := 1) (hi := 1024) (by decide) dX9_leastHarm_50 hl (k := 1) rfl (by decide) (fun x28 ls e_x28 i_x28 hl => ?_)
                have hl : lv_has ls 4 [(3, .int x28), (2, .int x2), (0, .ref h0), (1, .int x_0)] := hl
                refine lv_goto (tgt := 4) hx hb dX9_leastHarm_53 (by decide) ?_
                exact ih_4 _ _ hB x2 (i7_x2.wk (by decide)) x28 (i_x28.wk (by decide)) (iv_mup (c := 1) i_x2 (by decide) (by decide) (by omega) hn_4) _ (lv_sub hl [0, 1, 2, 3] rfl)
  exact L_4 _ _ _ hB (-1) (q_n1.wk (by decide)) 0 (q_0.wk (by decide)) (Nat.lt_succ_self _) _ (lv_sub hl [0, 1, 2, 3] rfl)
theorem dX11_melts_0 : decode cX11_melts 0 = .ok (.iload_n 1, 1) := by decide +kernel
theorem dX11_melts_1 : decode cX11_melts 1 = .ok (.iconst 1, 1) := by decide +kernel
theorem dX11_melts_2 : decode cX11_melts 2 = .ok (.sipush 999, 3) := by decide +kernel
theorem dX11_melts_5 : decode cX11_melts 5 = .ok (.invokestatic 83, 3) := by decide +kernel
theorem dX11_melts_8 : decode cX11_melts 8 = .ok (.ifCond .ne 5, 3) := by decide +kernel
theorem dX11_melts_11 : decode cX11_melts 11 = .ok (.iconst (-1), 1) := by decide +kernel
theorem dX11_melts_12 : decode cX11_melts 12 = .ok (.ireturn, 1) := by decide +kernel
theorem dX11_melts_13 : decode cX11_melts 13 = .ok (.aload_n 0, 1) := by decide +kernel
theorem dX11_melts_14 : decode cX11_melts 14 = .ok (.getfield 58, 3) := by decide +kernel
theorem dX11_melts_17 : decode cX11_melts 17 = .ok (.iload_n 1, 1) := by decide +kernel
theorem dX11_melts_18 : decode cX11_melts 18 = .ok (.invokevirtual 313, 3) := by decide +kernel
theorem dX11_melts_21 : decode cX11_melts 21 = .ok (.istore_n 3, 1) := by decide +kernel
theorem dX11_melts_22 : decode cX11_melts 22 = .ok (.iload_n 3, 1) := by decide +kernel
theorem dX11_melts_23 : decode cX11_melts 23 = .ok (.iconst (-1), 1) := by decide +kernel
theorem dX11_melts_24 : decode cX11_melts 24 = .ok (.if_icmp .ne 7, 3) := by decide +kernel
theorem dX11_melts_27 : decode cX11_melts 27 = .ok (.iconst (-1), 1) := by decide +kernel
theorem dX11_melts_28 : decode cX11_melts 28 = .ok (.goto 16, 3) := by decide +kernel
theorem dX11_melts_31 : decode cX11_melts 31 = .ok (.iload_n 2, 1) := by decide +kernel
theorem dX11_melts_32 : decode cX11_melts 32 = .ok (.aload_n 0, 1) := by decide +kernel
theorem dX11_melts_33 : decode cX11_melts 33 = .ok (.getfield 58, 3) := by decide +kernel
theorem dX11_melts_36 : decode cX11_melts 36 = .ok (.iload_n 3, 1) := by decide +kernel
theorem dX11_melts_37 : decode cX11_melts 37 = .ok (.invokevirtual 316, 3) := by decide +kernel
theorem dX11_melts_40 : decode cX11_melts 40 = .ok (.iload_n 3, 1) := by decide +kernel
theorem dX11_melts_41 : decode cX11_melts 41 = .ok (.invokestatic 282, 3) := by decide +kernel
theorem dX11_melts_44 : decode cX11_melts 44 = .ok (.ireturn, 1) := by decide +kernel
set_option maxHeartbeats 4000000 in
set_option maxRecDepth 100000 in
theorem c_X11_melts (l : Launch) (D : va_G) (tys : List (ClassId × FieldType)) (base : Nat) (G : iv_G) (h0 : Nat) (g_h0 : Nat → Int32) (r_h0 : Nat → Nat) (a_h0 : G h0 = some (11, g_h0, r_h0)) (x_0 : Int32) (i_x_0 : iv_R (-2147483648) 2147483647 x_0) (x_1 : Int32) (i_x_1 : iv_R (-2147483648) 2147483647 x_1) : Met l yX11_melts (Cond.code yX11_melts cX11_melts 4 (some .int) :: iv_W0) ({ frames := 3, cells := 0, slots := 0, locals := 70 }) (iv_Pc iv_sh D classes tys base G [.ref h0, .int x_0, .int x_1]) (iv_Qi iv_sh D classes tys base (fun v G' => G = G' ∧ iv_R (-2147483648) 2147483647 v)) 0 0 (iv_A base) := by
  refine iv_head (by decide) (Nat.le_of_ble_eq_true rfl) ?_
  intro p e s m args below meth c ls X hr hlocks hname hB hl
  have X := X
  have hx := X.1.1
  have hb := X.1.2.1
  have hl : lv_has ls 4 [(0, .ref h0), (1, .int x_0), (2, .int x_1)] := hl
  refine lv_iload_n hx hb dX11_melts_0 rfl (lv_at hl 1 rfl) ?_
  refine lv_iconst (v := 1) hx hb dX11_melts_1 (by decide) ?_
  refine lv_sipush (v := 999) hx hb dX11_melts_2 (by decide) ?_
  refine iv_cSi X k_good k_mf_X11_isWithin k_st_X11_isWithin k_ml_X11_83 hB (As := [.int x_0, .int 1, .int 999]) (c_X11_isWithin l D tys base G x_0 i_x_0 1 (q_1.wk (by decide)) 999 (q_999.wk (by decide))) ⟨rfl, rfl⟩ ⟨Nat.le_of_ble_eq_true rfl, Nat.le_of_ble_eq_true rfl⟩ ⟨Nat.le_of_ble_eq_true rfl, Nat.le_of_ble_eq_true rfl⟩ rfl rfl hl.1 (Nat.le_of_ble_eq_true rfl) dX11_melts_5 (fun x1 G9 H locs hq hB => ?_)
  obtain ⟨rfl, i_x1, hp2⟩ := hq
  have k3 : ¬ x1 = 0 → iv_R 1 999 x_0 := fun h => ⟨iv_max i_x_0.1 (Int.le_trans q_1.1 (hp2.1 h).1) (by decide), iv_min i_x_0.2 (Int.le_trans (hp2.1 h).2 q_999.2) (by decide)⟩
  refine lv_if_ne (tgt := 13) hx hb dX11_melts_8 (by decide) (fun c4 => ?_) (fun c4 => ?_)
  · skip
    have i4_x1 : iv_R 1 1 x1 := iv_ne_lo c4 i_x1 q_0 (by decide)
    have i5_x_0 : iv_R 1 999 x_0 := ((i_x_0.cutLo (n := 1) (k3 c4).1).cutHi (n := 999) (k3 c4).2)
    refine lv_aload_n hx hb dX11_melts_13 rfl (lv_at hl 0 rfl) ?_
    refine iv_getr X ft_X11 hB a_h0 sh_11 9 (by decide) rfl k_fl_X11_58 dX11_melts_14 (fun b7 g_b7 r_b7 e_b7 a_b7 => ?_)
    refine lv_iload_n hx hb dX11_melts_17 rfl (lv_at hl 1 rfl) ?_
    refine iv_cVi X k_good k_mf_X9_leastHarm k_im_X9_leastHarm k_sel_X9_leastHarm k_ml_X11_313 ft_X9 hB a_b7 sh_9 (As := [.int x_0]) (c_X9_leastHarm l D tys base G b7 g_b7 r_b7 a_b7 x_0 i5_x_0) ⟨rfl, rfl⟩ ⟨Nat.le_of_ble_eq_true rfl, Nat.le_of_ble_eq_true rfl⟩ ⟨Nat.le_of_ble_eq_true rfl, Nat.le_of_ble_eq_true rfl⟩ rfl rfl hl.1 (Nat.le_of_ble_eq_true rfl) dX11_melts_18 (fun x8 G9 H locs hq hB => ?_)
    obtain ⟨rfl, i_x8⟩ := hq
    refine lv_istore_n (lv' := [(3, .int x8), (0, .ref h0), (1, .int x_0), (2, .int x_1)]) hx hb dX11_melts_21 rfl hl (by decide) rfl (fun ls hl => ?_)
    refine lv_iload_n hx hb dX11_melts_22 rfl (lv_at hl 0 rfl) ?_
    refine lv_iconst (v := (-1)) hx hb dX11_melts_23 (by decide) ?_
    refine lv_icmp_ne (tgt := 31) hx hb dX11_melts_24 (by decide) (fun c9 => ?_) (fun c9 => ?_)
    · skip
      have i9_x8 : iv_R 0 2047 x8 := iv_ne_lo c9 i_x8 q_n1 (by decide)
      refine lv_iload_n hx hb dX11_melts_31 rfl (lv_at hl 3 rfl) ?_
      refine lv_aload_n hx hb dX11_melts_32 rfl (lv_at hl 1 rfl) ?_
      refine iv_getr0 X ft_X11 hB a_h0 sh_11 9 (by decide) rfl k_fl_X11_58 dX11_melts_33 e_b7 ?_
      refine lv_iload_n hx hb dX11_melts_36 rfl (lv_at hl 0 rfl) ?_
      refine iv_cVi X k_good k_mf_X9_hopeOf k_im_X9_hopeOf k_sel_X9_hopeOf k_ml_X11_316 ft_X9 hB a_b7 sh_9 (As := [.int x8]) (c_X9_hopeOf l D tys base G b7 g_b7 r_b7 a_b7 x8 i9_x8) ⟨rfl, rfl⟩ ⟨Nat.le_of_ble_eq_true rfl, Nat.le_of_ble_eq_true rfl⟩ ⟨Nat.le_of_ble_eq_true rfl, Nat.le_of_ble_eq_true rfl⟩ rfl rfl hl.1 (Nat.le_of_ble_eq_true rfl) dX11_melts_37 (fun x11 G9 H locs hq hB => ?_)
      obtain ⟨rfl, i_x11⟩ := hq
      refine lv_iload_n hx hb dX11_melts_40 rfl (lv_at hl 0 rfl) ?_
      refine iv_cSi X k_good k_mf_X11_chosen k_st_X11_chosen k_ml_X11_282 hB (As := [.int x_1, .int x11, .int x8]) (c_X11_chosen l D tys base G x_1 i_x_1 x11 i_x11 x8 (i9_x8.wk (by decide))) ⟨rfl, rfl⟩ ⟨Nat.le_of_ble_eq_true rfl, Nat.le_of_ble_eq_true rfl⟩ ⟨Nat.le_of_ble_eq_true rfl, Nat.le_of_ble_eq_true rfl⟩ rfl rfl hl.1 (Nat.le_of_ble_eq_true rfl) dX11_melts_41 (fun x12 G9 H locs hq hB => ?_)
      obtain ⟨rfl, i_x12⟩ := hq
      exact iv_iret X hr hlocks hB ⟨rfl, i_x12⟩ dX11_melts_44
    · skip
      have i12_x8 : iv_R (-1) (-1) x8 := (i_x8.cutHi (n := (-1)) (iv_eq_r c9 q_n1).2)
      refine lv_iconst (v := (-1)) hx hb dX11_melts_27 (by decide) ?_
      refine lv_goto (tgt := 44) hx hb dX11_melts_28 (by decide) ?_
      exact iv_iret X hr hlocks hB ⟨rfl, (q_n1.wk (by decide))⟩ dX11_melts_44
  · skip
    have i13_x1 : iv_R 0 0 x1 := (i_x1.cutHi (n := 0) (iv_eq_r c4 q_0).2)
    refine lv_iconst (v := (-1)) hx hb dX11_melts_11 (by decide) ?_
    exact iv_iret X hr hlocks hB ⟨rfl, (q_n1.wk (by decide))⟩ dX11_melts_12
theorem dX11_muffle_0 : decode cX11_muffle 0 = .ok (.iload_n 2, 1) := by decide +kernel
theorem dX11_muffle_1 : decode cX11_muffle 1 = .ok (.ifCond .eq 7, 3) := by decide +kernel
theorem dX11_muffle_4 : decode cX11_muffle 4 = .ok (.iconst 1, 1) := by decide +kernel
theorem dX11_muffle_5 : decode cX11_muffle 5 = .ok (.goto 4, 3) := by decide +kernel
theorem dX11_muffle_8 : decode cX11_muffle 8 = .ok (.iconst 0, 1) := by decide +kernel
theorem dX11_muffle_9 : decode cX11_muffle 9 = .ok (.istore_n 3, 1) := by decide +kernel
theorem dX11_muffle_10 : decode cX11_muffle 10 = .ok (.aload_n 0, 1) := by decide +kernel
theorem dX11_muffle_11 : decode cX11_muffle 11 = .ok (.getfield 12, 3) := by decide +kernel
theorem dX11_muffle_14 : decode cX11_muffle 14 = .ok (.iload_n 1, 1) := by decide +kernel
theorem dX11_muffle_15 : decode cX11_muffle 15 = .ok (.invokevirtual 119, 3) := by decide +kernel
theorem dX11_muffle_18 : decode cX11_muffle 18 = .ok (.ifCond .eq 35, 3) := by decide +kernel
theorem dX11_muffle_21 : decode cX11_muffle 21 = .ok (.aload_n 0, 1) := by decide +kernel
theorem dX11_muffle_22 : decode cX11_muffle 22 = .ok (.getfield 12, 3) := by decide +kernel
theorem dX11_muffle_25 : decode cX11_muffle 25 = .ok (.getfield 93, 3) := by decide +kernel
theorem dX11_muffle_28 : decode cX11_muffle 28 = .ok (.iload_n 1, 1) := by decide +kernel
theorem dX11_muffle_29 : decode cX11_muffle 29 = .ok (.aaload, 1) := by decide +kernel
theorem dX11_muffle_30 : decode cX11_muffle 30 = .ok (.getfield 131, 3) := by decide +kernel
theorem dX11_muffle_33 : decode cX11_muffle 33 = .ok (.iconst 2, 1) := by decide +kernel
theorem dX11_muffle_34 : decode cX11_muffle 34 = .ok (.if_icmp .eq 19, 3) := by decide +kernel
theorem dX11_muffle_37 : decode cX11_muffle 37 = .ok (.aload_n 0, 1) := by decide +kernel
theorem dX11_muffle_38 : decode cX11_muffle 38 = .ok (.getfield 12, 3) := by decide +kernel
theorem dX11_muffle_41 : decode cX11_muffle 41 = .ok (.getfield 93, 3) := by decide +kernel
theorem dX11_muffle_44 : decode cX11_muffle 44 = .ok (.iload_n 1, 1) := by decide +kernel
theorem dX11_muffle_45 : decode cX11_muffle 45 = .ok (.aaload, 1) := by decide +kernel
theorem dX11_muffle_46 : decode cX11_muffle 46 = .ok (.getfield 149, 3) := by decide +kernel
theorem dX11_muffle_49 : decode cX11_muffle 49 = .ok (.iload_n 3, 1) := by decide +kernel
theorem dX11_muffle_50 : decode cX11_muffle 50 = .ok (.if_icmp .ne 5, 3) := by decide +kernel
theorem dX11_muffle_53 : decode cX11_muffle 53 = .ok (.iconst 0, 1) := by decide +kernel
theorem dX11_muffle_54 : decode cX11_muffle 54 = .ok (.ireturn, 1) := by decide +kernel
theorem dX11_muffle_55 : decode cX11_muffle 55 = .ok (.aload_n 0, 1) := by decide +kernel
theorem dX11_muffle_56 : decode cX11_muffle 56 = .ok (.getfield 22, 3) := by decide +kernel
theorem dX11_muffle_59 : decode cX11_muffle 59 = .ok (.aload_n 0, 1) := by decide +kernel
theorem dX11_muffle_60 : decode cX11_muffle 60 = .ok (.getfield 12, 3) := by decide +kernel
theorem dX11_muffle_63 : decode cX11_muffle 63 = .ok (.invokevirtual 134, 3) := by decide +kernel
theorem dX11_muffle_66 : decode cX11_muffle 66 = .ok (.aload_n 0, 1) := by decide +kernel
theorem dX11_muffle_67 : decode cX11_muffle 67 = .ok (.getfield 12, 3) := by decide +kernel
theorem dX11_muffle_70 : decode cX11_muffle 70 = .ok (.getfield 93, 3) := by decide +kernel
theorem dX11_muffle_73 : decode cX11_muffle 73 = .ok (.iload_n 1, 1) := by decide +kernel
theorem dX11_muffle_74 : decode cX11_muffle 74 = .ok (.aaload, 1) := by decide +kernel
theorem dX11_muffle_75 : decode cX11_muffle 75 = .ok (.iload_n 3, 1) := by decide +kernel
theorem dX11_muffle_76 : decode cX11_muffle 76 = .ok (.putfield 149, 3) := by decide +kernel
theorem dX11_muffle_79 : decode cX11_muffle 79 = .ok (.iconst 1, 1) := by decide +kernel
theorem dX11_muffle_80 : decode cX11_muffle 80 = .ok (.ireturn, 1) := by decide +kernel
set_option maxHeartbeats 4000000 in
set_option maxRecDepth 100000 in
theorem c_X11_muffle (l : Launch) (D : va_G) (tys : List (ClassId × FieldType)) (base : Nat) (G : iv_G) (h0 : Nat) (g_h0 : Nat → Int32) (r_h0 : Nat → Nat) (a_h0 : G h0 = some (11, g_h0, r_h0)) (x_0 : Int32) (i_x_0 : iv_R (-2147483648) 2147483647 x_0) (x_1 : Int32) (i_x_1 : iv_R 0 1 x_1) : Met l yX11_muffle (Cond.code yX11_muffle cX11_muffle 4 (some .boolean) :: iv_W0) ({ frames := 3, cells := 0, slots := 0, locals := 68 }) (iv_Pc iv_sh D classes tys base G [.ref h0, .int x_0, .int x_1]) (iv_Qi iv_sh D classes tys base (fun v G' => iv_Md [1, 6, 27] G G' ∧ iv_R 0 1 v ∧ (¬ v = 0 → iv_R 0 9 x_0))) 0 0 (iv_A base) := by
  refine iv_head (by decide) (Nat.le_of_ble_eq_true rfl) ?_
  intro p e s m args below meth c ls X hr hlocks hname hB hl
  have X := X
  have hx := X.1.1
  have hb := X.1.2.1
  have hM : iv_Md [1, 6, 27] G G := iv_Md.rf
  have hl : lv_has ls 4 [(0, .ref h0), (1, .int x_0), (2, .int x_1)] := hl
  refine lv_iload_n hx hb dX11_muffle_0 rfl (lv_at hl 2 rfl) ?_
  refine lv_if_eq (tgt := 8) hx hb dX11_muffle_1 (by decide) (fun c1 => ?_) (fun c1 => ?_)
  · skip
    have i1_x_1 : iv_R 0 0 x_1 := (i_x_1.cutHi (n := 0) (iv_eq_r c1 q_0).2)
    refine lv_iconst (v := 0) hx hb dX11_muffle_8 (by decide) ?_
    refine lv_istore_n (lv' := [(3, .int 0), (0, .ref h0), (1, .int x_0), (2, .int x_1)]) hx hb dX11_muffle_9 rfl hl (by decide) rfl (fun ls hl => ?_)
    refine lv_aload_n hx hb dX11_muffle_10 rfl (lv_at hl 1 rfl) ?_
    refine iv_getr X ft_X11 hB a_h0 sh_11 0 (by decide) rfl k_fl_X11_12 dX11_muffle_11 (fun b3 g_b3 r_b3 e_b3 a_b3 => ?_)
    refine lv_iload_n hx hb dX11_muffle_14 rfl (lv_at hl 2 rfl) ?_
    refine iv_cVi X k_good k_mf_X5_hasBell k_im_X5_hasBell k_sel_X5_hasBell k_ml_X11_119 ft_X5 hB a_b3 sh_5 (As := [.int x_0]) (c_X5_hasBell l D tys base G b3 g_b3 r_b3 a_b3 x_0 i_x_0) ⟨rfl, rfl⟩ ⟨Nat.le_of_ble_eq_true rfl, Nat.le_of_ble_eq_true rfl⟩ ⟨Nat.le_of_ble_eq_true rfl, Nat.le_of_ble_eq_true rfl⟩ rfl rfl hl.1 (Nat.le_of_ble_eq_true rfl) dX11_muffle_15 (fun x4 G9 H locs hq hB => ?_)
    obtain ⟨rfl, i_x4, hp5⟩ := hq
    refine lv_if_eq (tgt := 53) hx hb dX11_muffle_18 (by decide) (fun c6 => ?_) (fun c6 => ?_)
    · skip
      have i6_x4 : iv_R 0 0 x4 := (i_x4.cutHi (n := 0) (iv_eq_r c6 q_0).2)
      refine lv_iconst (v := 0) hx hb dX11_muffle_53 (by decide) ?_
      exact iv_zret X hr hlocks hB (q_0.wk (by decide)) ⟨hM, (q_0.wk (by decide)), fun h => absurd (iv_z q_0) h⟩ dX11_muffle_54
    · skip
      have i7_x4 : iv_R 1 1 x4 := iv_ne_lo c6 i_x4 q_0 (by decide)
      have i8_x_0 : iv_R 0 9 x_0 := ((i_x_0.cutLo (n := 0) (hp5 c6).1).cutHi (n := 9) (hp5 c6).2)
      refine lv_aload_n hx hb dX11_muffle_21 rfl (lv_at hl 1 rfl) ?_
      refine iv_getr0 X ft_X11 hB a_h0 sh_11 0 (by decide) rfl k_fl_X11_12 dX11_muffle_22 e_b3 ?_
      refine iv_getr X ft_X5 hB a_b3 sh_5 0 (by decide) rfl k_fl_X11_93 dX11_muffle_25 (fun b10 g_b10 r_b10 e_b10 a_b10 => ?_)
      refine lv_iload_n hx hb dX11_muffle_28 rfl (lv_at hl 2 rfl) ?_
      refine iv_aald X hB a_b10 sh_40 (iv_in i8_x_0 (by decide)) dX11_muffle_29 (fun b11 g_b11 r_b11 e_b11 a_b11 => ?_)
      refine iv_geti X ft_X1 hB a_b11 sh_1 6 (by decide) rfl k_fl_X11_131 dX11_muffle_30 (fun x12 e_x12 i_x12 => ?_)
      refine lv_iconst (v := 2) hx hb dX11_muffle_33 (by decide) ?_
      refine lv_icmp_eq (tgt := 53) hx hb dX11_muffle_34 (by decide) (fun c13 => ?_) (fun c13 => ?_)
      · skip
        have i13_x12 : iv_R 2 2 x12 := ((i_x12.cutLo (n := 2) (iv_eq_r c13 q_2).1).cutHi (n := 2) (iv_eq_r c13 q_2).2)
        refine lv_iconst (v := 0) hx hb dX11_muffle_53 (by decide) ?_
        exact iv_zret X hr hlocks hB (q_0.wk (by decide)) ⟨hM, (q_0.wk (by decide)), fun _ => i8_x_0⟩ dX11_muffle_54
      · skip
        refine lv_aload_n hx hb dX11_muffle_37 rfl (lv_at hl 1 rfl) ?_
        refine iv_getr0 X ft_X11 hB a_h0 sh_11 0 (by decide) rfl k_fl_X11_12 dX11_muffle_38 e_b3 ?_
        refine iv_getr0 X ft_X5 hB a_b3 sh_5 0 (by decide) rfl k_fl_X11_93 dX11_muffle_41 e_b10 ?_
        refine lv_iload_n hx hb dX11_muffle_44 rfl (lv_at hl 2 rfl) ?_
        refine iv_aald X hB a_b10 sh_40 (iv_in i8_x_0 (by decide)) dX11_muffle_45 (fun b15 g_b15 r_b15 e_b15 a_b15 => ?_)
        refine iv_geti X ft_X1 hB a_b15 sh_1 5 (by decide) rfl k_fl_X11_149 dX11_muffle_46 (fun x16 e_x16 i_x16 => ?_)
        refine lv_iload_n hx hb dX11_muffle_49 rfl (lv_at hl 0 rfl) ?_
        refine lv_icmp_ne (tgt := 55) hx hb dX11_muffle_50 (by decide) (fun c17 => ?_) (fun c17 => ?_)
        · skip
          refine lv_aload_n hx hb dX11_muffle_55 rfl (lv_at hl 1 rfl) ?_
          refine iv_getr X ft_X11 hB a_h0 sh_11 3 (by decide) rfl k_fl_X11_22 dX11_muffle_56 (fun b18 g_b18 r_b18 e_b18 a_b18 => ?_)
          refine lv_aload_n hx hb dX11_muffle_59 rfl (lv_at hl 1 rfl) ?_
          refine iv_getr0 X ft_X11 hB a_h0 sh_11 0 (by decide) rfl k_fl_X11_12 dX11_muffle_60 e_b3 ?_
          refine iv_cVv X k_good k_mf_X6_keep k_im_X6_keep k_sel_X6_keep k_ml_X11_134 ft_X6 hB a_b18 sh_6 (As := [.ref b3]) (c_X6_keep l D tys base G b18 g_b18 r_b18 a_b18 b3 g_b3 r_b3 a_b3) ⟨rfl, rfl⟩ ⟨Nat.le_of_ble_eq_true rfl, Nat.le_of_ble_eq_true rfl⟩ ⟨Nat.le_of_ble_eq_true rfl, Nat.le_of_ble_eq_true rfl⟩ rfl rfl hl.1 (Nat.le_of_ble_eq_true rfl) dX11_muffle_63 (fun G9 H locs hq hB => ?_)
          have hm := hq
          obtain ⟨G19, hG9⟩ : ∃ g, g = G9 := ⟨_, rfl⟩
          rw [← hG9] at hm hB
          have hM := hM.stp hm (by decide)
          have a_h0 := hm.at a_h0 (by decide)
          refine lv_aload_n hx hb dX11_muffle_66 rfl (lv_at hl 1 rfl) ?_
          refine iv_getr X ft_X11 hB a_h0 sh_11 0 (by decide) rfl k_fl_X11_12 dX11_muffle_67 (fun b20 g_b20 r_b20 e_b20 a_b20 => ?_)
          refine iv_getr X ft_X5 hB a_b20 sh_5 0 (by decide) rfl k_fl_X11_93 dX11_muffle_70 (fun b21 g_b21 r_b21 e_b21 a_b21 => ?_)
          refine lv_iload_n hx hb dX11_muffle_73 rfl (lv_at hl 2 rfl) ?_
          refine iv_aald X hB a_b21 sh_40 (iv_in i8_x_0 (by decide)) dX11_muffle_74 (fun b22 g_b22 r_b22 e_b22 a_b22 => ?_)
          refine lv_iload_n hx hb dX11_muffle_75 rfl (lv_at hl 0 rfl) ?_
          refine iv_puti X ft_X1 hB a_b22 sh_1 5 (by decide) rfl rfl k_fl_X11_149 rfl (q_0.wk (by decide)) rfl rfl dX11_muffle_76 (fun H locs hB => ?_)
          have hm := iv_Md.put (x := 0) a_b22 (j := 5) (by decide) (by decide)
          have h9 := iv_up_eq (G := G19) (a := b22) (k := (1, upd g_b22 5 0, r_b22))
          generalize iv_up G19 b22 _ = G23 at hB hm h9
          have hM := hM.stp hm (by decide)
          have a_h0 := hm.at a_h0 (by decide)
          refine lv_iconst (v := 1) hx hb dX11_muffle_79 (by decide) ?_
          exact iv_zret X hr hlocks hB (q_1.wk (by decide)) ⟨hM, (q_1.wk (by decide)), fun _ => i8_x_0⟩ dX11_muffle_80
        · skip
          have i24_x16 : iv_R 0 0 x16 := ((i_x16.cutLo (n := 0) (iv_eq_r c17 q_0).1).cutHi (n := 0) (iv_eq_r c17 q_0).2)
          refine lv_iconst (v := 0) hx hb dX11_muffle_53 (by decide) ?_
          exact iv_zret X hr hlocks hB (q_0.wk (by decide)) ⟨hM, (q_0.wk (by decide)), fun _ => i8_x_0⟩ dX11_muffle_54
  · skip
    have i25_x_1 : iv_R 1 1 x_1 := iv_ne_lo c1 i_x_1 q_0 (by decide)
    refine lv_iconst (v := 1) hx hb dX11_muffle_4 (by decide) ?_
    refine lv_goto (tgt := 9) hx hb dX11_muffle_5 (by decide) ?_
    refine lv_istore_n (lv' := [(3, .int 1), (0, .ref h0), (1, .int x_0), (2, .int x_1)]) hx hb dX11_muffle_9 rfl hl (by decide) rfl (fun ls hl => ?_)
    refine lv_aload_n hx hb dX11_muffle_10 rfl (lv_at hl 1 rfl) ?_
    refine iv_getr X ft_X11 hB a_h0 sh_11 0 (by decide) rfl k_fl_X11_12 dX11_muffle_11 (fun b27 g_b27 r_b27 e_b27 a_b27 => ?_)
    refine lv_iload_n hx hb dX11_muffle_14 rfl (lv_at hl 2 rfl) ?_
    refine iv_cVi X k_good k_mf_X5_hasBell k_im_X5_hasBell k_sel_X5_hasBell k_ml_X11_119 ft_X5 hB a_b27 sh_5 (As := [.int x_0]) (c_X5_hasBell l D tys base G b27 g_b27 r_b27 a_b27 x_0 i_x_0) ⟨rfl, rfl⟩ ⟨Nat.le_of_ble_eq_true rfl, Nat.le_of_ble_eq_true rfl⟩ ⟨Nat.le_of_ble_eq_true rfl, Nat.le_of_ble_eq_true rfl⟩ rfl rfl hl.1 (Nat.le_of_ble_eq_true rfl) dX11_muffle_15 (fun x28 G9 H locs hq hB => ?_)
    obtain ⟨rfl, i_x28, hp29⟩ := hq
    refine lv_if_eq (tgt := 53) hx hb dX11_muffle_18 (by decide) (fun c30 => ?_) (fun c30 => ?_)
    · skip
      have i30_x28 : iv_R 0 0 x28 := (i_x28.cutHi (n := 0) (iv_eq_r c30 q_0).2)
      refine lv_iconst (v := 0) hx hb dX11_muffle_53 (by decide) ?_
      exact iv_zret X hr hlocks hB (q_0.wk (by decide)) ⟨hM, (q_0.wk (by decide)), fun h => absurd (iv_z q_0) h⟩ dX11_muffle_54
    · skip
      have i31_x28 : iv_R 1 1 x28 := iv_ne_lo c30 i_x28 q_0 (by decide)
      have i32_x_0 : iv_R 0 9 x_0 := ((i_x_0.cutLo (n := 0) (hp29 c30).1).cutHi (n := 9) (hp29 c30).2)
      refine lv_aload_n hx hb dX11_muffle_21 rfl (lv_at hl 1 rfl) ?_
      refine iv_getr0 X ft_X11 hB a_h0 sh_11 0 (by decide) rfl k_fl_X11_12 dX11_muffle_22 e_b27 ?_
      refine iv_getr X ft_X5 hB a_b27 sh_5 0 (by decide) rfl k_fl_X11_93 dX11_muffle_25 (fun b34 g_b34 r_b34 e_b34 a_b34 => ?_)
      refine lv_iload_n hx hb dX11_muffle_28 rfl (lv_at hl 2 rfl) ?_
      refine iv_aald X hB a_b34 sh_40 (iv_in i32_x_0 (by decide)) dX11_muffle_29 (fun b35 g_b35 r_b35 e_b35 a_b35 => ?_)
      refine iv_geti X ft_X1 hB a_b35 sh_1 6 (by decide) rfl k_fl_X11_131 dX11_muffle_30 (fun x36 e_x36 i_x36 => ?_)
      refine lv_iconst (v := 2) hx hb dX11_muffle_33 (by decide) ?_
      refine lv_icmp_eq (tgt := 53) hx hb dX11_muffle_34 (by decide) (fun c37 => ?_) (fun c37 => ?_)
      · skip
        have i37_x36 : iv_R 2 2 x36 := ((i_x36.cutLo (n := 2) (iv_eq_r c37 q_2).1).cutHi (n := 2) (iv_eq_r c37 q_2).2)
        refine lv_iconst (v := 0) hx hb dX11_muffle_53 (by decide) ?_
        exact iv_zret X hr hlocks hB (q_0.wk (by decide)) ⟨hM, (q_0.wk (by decide)), fun _ => i32_x_0⟩ dX11_muffle_54
      · skip
        refine lv_aload_n hx hb dX11_muffle_37 rfl (lv_at hl 1 rfl) ?_
        refine iv_getr0 X ft_X11 hB a_h0 sh_11 0 (by decide) rfl k_fl_X11_12 dX11_muffle_38 e_b27 ?_
        refine iv_getr0 X ft_X5 hB a_b27 sh_5 0 (by decide) rfl k_fl_X11_93 dX11_muffle_41 e_b34 ?_
        refine lv_iload_n hx hb dX11_muffle_44 rfl (lv_at hl 2 rfl) ?_
        refine iv_aald X hB a_b34 sh_40 (iv_in i32_x_0 (by decide)) dX11_muffle_45 (fun b39 g_b39 r_b39 e_b39 a_b39 => ?_)
        refine iv_geti X ft_X1 hB a_b39 sh_1 5 (by decide) rfl k_fl_X11_149 dX11_muffle_46 (fun x40 e_x40 i_x40 => ?_)
        refine lv_iload_n hx hb dX11_muffle_49 rfl (lv_at hl 0 rfl) ?_
        refine lv_icmp_ne (tgt := 55) hx hb dX11_muffle_50 (by decide) (fun c41 => ?_) (fun c41 => ?_)
        · skip
          refine lv_aload_n hx hb dX11_muffle_55 rfl (lv_at hl 1 rfl) ?_
          refine iv_getr X ft_X11 hB a_h0 sh_11 3 (by decide) rfl k_fl_X11_22 dX11_muffle_56 (fun b42 g_b42 r_b42 e_b42 a_b42 => ?_)
          refine lv_aload_n hx hb dX11_muffle_59 rfl (lv_at hl 1 rfl) ?_
          refine iv_getr0 X ft_X11 hB a_h0 sh_11 0 (by decide) rfl k_fl_X11_12 dX11_muffle_60 e_b27 ?_
          refine iv_cVv X k_good k_mf_X6_keep k_im_X6_keep k_sel_X6_keep k_ml_X11_134 ft_X6 hB a_b42 sh_6 (As := [.ref b27]) (c_X6_keep l D tys base G b42 g_b42 r_b42 a_b42 b27 g_b27 r_b27 a_b27) ⟨rfl, rfl⟩ ⟨Nat.le_of_ble_eq_true rfl, Nat.le_of_ble_eq_true rfl⟩ ⟨Nat.le_of_ble_eq_true rfl, Nat.le_of_ble_eq_true rfl⟩ rfl rfl hl.1 (Nat.le_of_ble_eq_true rfl) dX11_muffle_63 (fun G9 H locs hq hB => ?_)
          have hm := hq
          obtain ⟨G43, hG9⟩ : ∃ g, g = G9 := ⟨_, rfl⟩
          rw [← hG9] at hm hB
          have hM := hM.stp hm (by decide)
          have a_h0 := hm.at a_h0 (by decide)
          refine lv_aload_n hx hb dX11_muffle_66 rfl (lv_at hl 1 rfl) ?_
          refine iv_getr X ft_X11 hB a_h0 sh_11 0 (by decide) rfl k_fl_X11_12 dX11_muffle_67 (fun b44 g_b44 r_b44 e_b44 a_b44 => ?_)
          refine iv_getr X ft_X5 hB a_b44 sh_5 0 (by decide) rfl k_fl_X11_93 dX11_muffle_70 (fun b45 g_b45 r_b45 e_b45 a_b45 => ?_)
          refine lv_iload_n hx hb dX11_muffle_73 rfl (lv_at hl 2 rfl) ?_
          refine iv_aald X hB a_b45 sh_40 (iv_in i32_x_0 (by decide)) dX11_muffle_74 (fun b46 g_b46 r_b46 e_b46 a_b46 => ?_)
          refine lv_iload_n hx hb dX11_muffle_75 rfl (lv_at hl 0 rfl) ?_
          refine iv_puti X ft_X1 hB a_b46 sh_1 5 (by decide) rfl rfl k_fl_X11_149 rfl (q_1.wk (by decide)) rfl rfl dX11_muffle_76 (fun H locs hB => ?_)
          have hm := iv_Md.put (x := 1) a_b46 (j := 5) (by decide) (by decide)
          have h9 := iv_up_eq (G := G43) (a := b46) (k := (1, upd g_b46 5 1, r_b46))
          generalize iv_up G43 b46 _ = G47 at hB hm h9
          have hM := hM.stp hm (by decide)
          have a_h0 := hm.at a_h0 (by decide)
          refine lv_iconst (v := 1) hx hb dX11_muffle_79 (by decide) ?_
          exact iv_zret X hr hlocks hB (q_1.wk (by decide)) ⟨hM, (q_1.wk (by decide)), fun _ => i32_x_0⟩ dX11_muffle_80
        · skip
          have i48_x40 : iv_R 1 1 x40 := ((i_x40.cutLo (n := 1) (iv_eq_r c41 q_1).1).cutHi (n := 1) (iv_eq_r c41 q_1).2)
          refine lv_iconst (v := 0) hx hb dX11_muffle_53 (by decide) ?_
          exact iv_zret X hr hlocks hB (q_0.wk (by decide)) ⟨hM, (q_0.wk (by decide)), fun _ => i32_x_0⟩ dX11_muffle_54
theorem dX11_noneYet_0 : decode cX11_noneYet 0 = .ok (.iload_n 1, 1) := by decide +kernel
theorem dX11_noneYet_1 : decode cX11_noneYet 1 = .ok (.iconst 0, 1) := by decide +kernel
theorem dX11_noneYet_2 : decode cX11_noneYet 2 = .ok (.bipush 99, 2) := by decide +kernel
theorem dX11_noneYet_4 : decode cX11_noneYet 4 = .ok (.invokestatic 83, 3) := by decide +kernel
theorem dX11_noneYet_7 : decode cX11_noneYet 7 = .ok (.ifCond .ne 5, 3) := by decide +kernel
theorem dX11_noneYet_10 : decode cX11_noneYet 10 = .ok (.iconst (-1), 1) := by decide +kernel
theorem dX11_noneYet_11 : decode cX11_noneYet 11 = .ok (.ireturn, 1) := by decide +kernel
theorem dX11_noneYet_12 : decode cX11_noneYet 12 = .ok (.iconst 0, 1) := by decide +kernel
theorem dX11_noneYet_13 : decode cX11_noneYet 13 = .ok (.istore_n 2, 1) := by decide +kernel
theorem dX11_noneYet_14 : decode cX11_noneYet 14 = .ok (.iload_n 2, 1) := by decide +kernel
theorem dX11_noneYet_15 : decode cX11_noneYet 15 = .ok (.aload_n 0, 1) := by decide +kernel
theorem dX11_noneYet_16 : decode cX11_noneYet 16 = .ok (.getfield 12, 3) := by decide +kernel
theorem dX11_noneYet_19 : decode cX11_noneYet 19 = .ok (.getfield 90, 3) := by decide +kernel
theorem dX11_noneYet_22 : decode cX11_noneYet 22 = .ok (.if_icmp .ge 41, 3) := by decide +kernel
theorem dX11_noneYet_25 : decode cX11_noneYet 25 = .ok (.aload_n 0, 1) := by decide +kernel
theorem dX11_noneYet_26 : decode cX11_noneYet 26 = .ok (.getfield 69, 3) := by decide +kernel
theorem dX11_noneYet_29 : decode cX11_noneYet 29 = .ok (.iload_n 2, 1) := by decide +kernel
theorem dX11_noneYet_30 : decode cX11_noneYet 30 = .ok (.aload_n 0, 1) := by decide +kernel
theorem dX11_noneYet_31 : decode cX11_noneYet 31 = .ok (.getfield 12, 3) := by decide +kernel
theorem dX11_noneYet_34 : decode cX11_noneYet 34 = .ok (.iload_n 2, 1) := by decide +kernel
theorem dX11_noneYet_35 : decode cX11_noneYet 35 = .ok (.invokevirtual 253, 3) := by decide +kernel
theorem dX11_noneYet_38 : decode cX11_noneYet 38 = .ok (.ifCond .ne 7, 3) := by decide +kernel
theorem dX11_noneYet_41 : decode cX11_noneYet 41 = .ok (.iconst 0, 1) := by decide +kernel
theorem dX11_noneYet_42 : decode cX11_noneYet 42 = .ok (.goto 14, 3) := by decide +kernel
theorem dX11_noneYet_45 : decode cX11_noneYet 45 = .ok (.aload_n 0, 1) := by decide +kernel
theorem dX11_noneYet_46 : decode cX11_noneYet 46 = .ok (.getfield 42, 3) := by decide +kernel
theorem dX11_noneYet_49 : decode cX11_noneYet 49 = .ok (.iload_n 2, 1) := by decide +kernel
theorem dX11_noneYet_50 : decode cX11_noneYet 50 = .ok (.sipush 132, 3) := by decide +kernel
theorem dX11_noneYet_53 : decode cX11_noneYet 53 = .ok (.invokevirtual 261, 3) := by decide +kernel
theorem dX11_noneYet_56 : decode cX11_noneYet 56 = .ok (.iastore, 1) := by decide +kernel
theorem dX11_noneYet_57 : decode cX11_noneYet 57 = .ok (.iinc 2 1, 3) := by decide +kernel
theorem dX11_noneYet_60 : decode cX11_noneYet 60 = .ok (.goto (-46), 3) := by decide +kernel
theorem dX11_noneYet_63 : decode cX11_noneYet 63 = .ok (.ldc_w 305, 3) := by decide +kernel
theorem dX11_noneYet_66 : decode cX11_noneYet 66 = .ok (.istore_n 2, 1) := by decide +kernel
theorem dX11_noneYet_67 : decode cX11_noneYet 67 = .ok (.iconst 0, 1) := by decide +kernel
theorem dX11_noneYet_68 : decode cX11_noneYet 68 = .ok (.istore_n 3, 1) := by decide +kernel
theorem dX11_noneYet_69 : decode cX11_noneYet 69 = .ok (.iload_n 3, 1) := by decide +kernel
theorem dX11_noneYet_70 : decode cX11_noneYet 70 = .ok (.iload_n 1, 1) := by decide +kernel
theorem dX11_noneYet_71 : decode cX11_noneYet 71 = .ok (.if_icmp .ge 48, 3) := by decide +kernel
theorem dX11_noneYet_74 : decode cX11_noneYet 74 = .ok (.iconst 0, 1) := by decide +kernel
theorem dX11_noneYet_75 : decode cX11_noneYet 75 = .ok (.istore 4, 2) := by decide +kernel
theorem dX11_noneYet_77 : decode cX11_noneYet 77 = .ok (.iload 4, 2) := by decide +kernel
theorem dX11_noneYet_79 : decode cX11_noneYet 79 = .ok (.aload_n 0, 1) := by decide +kernel
theorem dX11_noneYet_80 : decode cX11_noneYet 80 = .ok (.getfield 12, 3) := by decide +kernel
theorem dX11_noneYet_83 : decode cX11_noneYet 83 = .ok (.getfield 90, 3) := by decide +kernel
theorem dX11_noneYet_86 : decode cX11_noneYet 86 = .ok (.if_icmp .ge 27, 3) := by decide +kernel
theorem dX11_noneYet_89 : decode cX11_noneYet 89 = .ok (.iload_n 2, 1) := by decide +kernel
theorem dX11_noneYet_90 : decode cX11_noneYet 90 = .ok (.sipush 1000, 3) := by decide +kernel
theorem dX11_noneYet_93 : decode cX11_noneYet 93 = .ok (.aload_n 0, 1) := by decide +kernel
theorem dX11_noneYet_94 : decode cX11_noneYet 94 = .ok (.getfield 69, 3) := by decide +kernel
theorem dX11_noneYet_97 : decode cX11_noneYet 97 = .ok (.iload 4, 2) := by decide +kernel
theorem dX11_noneYet_99 : decode cX11_noneYet 99 = .ok (.iaload, 1) := by decide +kernel
theorem dX11_noneYet_100 : decode cX11_noneYet 100 = .ok (.isub, 1) := by decide +kernel
theorem dX11_noneYet_101 : decode cX11_noneYet 101 = .ok (.imul, 1) := by decide +kernel
theorem dX11_noneYet_102 : decode cX11_noneYet 102 = .ok (.sipush 1000, 3) := by decide +kernel
theorem dX11_noneYet_105 : decode cX11_noneYet 105 = .ok (.idiv, 1) := by decide +kernel
theorem dX11_noneYet_106 : decode cX11_noneYet 106 = .ok (.istore_n 2, 1) := by decide +kernel
theorem dX11_noneYet_107 : decode cX11_noneYet 107 = .ok (.iinc 4 1, 3) := by decide +kernel
theorem dX11_noneYet_110 : decode cX11_noneYet 110 = .ok (.goto (-33), 3) := by decide +kernel
theorem dX11_noneYet_113 : decode cX11_noneYet 113 = .ok (.iinc 3 1, 3) := by decide +kernel
theorem dX11_noneYet_116 : decode cX11_noneYet 116 = .ok (.goto (-47), 3) := by decide +kernel
theorem dX11_noneYet_119 : decode cX11_noneYet 119 = .ok (.iload_n 2, 1) := by decide +kernel
theorem dX11_noneYet_120 : decode cX11_noneYet 120 = .ok (.ireturn, 1) := by decide +kernel
set_option maxHeartbeats 4000000 in
set_option maxRecDepth 100000 in
theorem c_X11_noneYet (l : Launch) (D : va_G) (tys : List (ClassId × FieldType)) (base : Nat) (G : iv_G) (h0 : Nat) (g_h0 : Nat → Int32) (r_h0 : Nat → Nat) (a_h0 : G h0 = some (11, g_h0, r_h0)) (x_0 : Int32) (i_x_0 : iv_R (-2147483648) 2147483647 x_0) : Met l yX11_noneYet (Cond.code yX11_noneYet cX11_noneYet 5 (some .int) :: iv_W0) ({ frames := 6, cells := 0, slots := 0, locals := 155 }) (iv_Pc iv_sh D classes tys base G [.ref h0, .int x_0]) (iv_Qi iv_sh D classes tys base (fun v G' => iv_Md [28, 30, 46] G G' ∧ iv_R (-2147483648) 2147483647 v)) 0 0 (iv_A base) := by
  refine iv_head (by decide) (Nat.le_of_ble_eq_true rfl) ?_
  intro p e s m args below meth c ls X hr hlocks hname hB hl
  have X := X
  have hx := X.1.1
  have hb := X.1.2.1
  have hM : iv_Md [28, 30, 46] G G := iv_Md.rf
  have hl : lv_has ls 5 [(0, .ref h0), (1, .int x_0)] := hl
  refine lv_iload_n hx hb dX11_noneYet_0 rfl (lv_at hl 1 rfl) ?_
  refine lv_iconst (v := 0) hx hb dX11_noneYet_1 (by decide) ?_
  refine lv_bipush (v := 99) hx hb dX11_noneYet_2 (by decide) ?_
  refine iv_cSi X k_good k_mf_X11_isWithin k_st_X11_isWithin k_ml_X11_83 hB (As := [.int x_0, .int 0, .int 99]) (c_X11_isWithin l D tys base G x_0 i_x_0 0 (q_0.wk (by decide)) 99 (q_99.wk (by decide))) ⟨rfl, rfl⟩ ⟨Nat.le_of_ble_eq_true rfl, Nat.le_of_ble_eq_true rfl⟩ ⟨Nat.le_of_ble_eq_true rfl, Nat.le_of_ble_eq_true rfl⟩ rfl rfl hl.1 (Nat.le_of_ble_eq_true rfl) dX11_noneYet_4 (fun x1 G9 H locs hq hB => ?_)
  obtain ⟨rfl, i_x1, hp2⟩ := hq
  have k3 : ¬ x1 = 0 → iv_R 0 99 x_0 := fun h => ⟨iv_max i_x_0.1 (Int.le_trans q_0.1 (hp2.1 h).1) (by decide), iv_min i_x_0.2 (Int.le_trans (hp2.1 h).2 q_99.2) (by decide)⟩
  refine lv_if_ne (tgt := 12) hx hb dX11_noneYet_7 (by decide) (fun c4 => ?_) (fun c4 => ?_)
  · skip
    have i4_x1 : iv_R 1 1 x1 := iv_ne_lo c4 i_x1 q_0 (by decide)
    have i5_x_0 : iv_R 0 99 x_0 := ((i_x_0.cutLo (n := 0) (k3 c4).1).cutHi (n := 99) (k3 c4).2)
    refine lv_iconst (v := 0) hx hb dX11_noneYet_12 (by decide) ?_
    refine lv_istore_n (lv' := [(2, .int 0), (0, .ref h0), (1, .int x_0)]) hx hb dX11_noneYet_13 rfl hl (by decide) rfl (fun ls hl => ?_)
    have L_14 : ∀ (n_14 : Nat) (G8 : iv_G) (hM : iv_Md [28, 30, 46] G G8) (H : Heap) (locs : List Loc) (hB : iv_B iv_sh D classes tys base G8 s.heap H locs) (a_h0 : G8 h0 = some (11, g_h0, r_h0)) (x7 : Int32) (i_x7 : iv_R 0 10 x7) (hn_14 : (11 - x7.toInt).toNat < n_14) (ls : Array Slot) (hl : lv_has ls 5 [(2, .int x7), (0, .ref h0), (1, .int x_0)]), W p l e ({ frames := 6, cells := 0, slots := 0, locals := 155 } : Room) s m args below meth c H locs 0 0 (MQ below (iv_Qi iv_sh D classes tys base (fun v G' => iv_Md [28, 30, 46] G G' ∧ iv_R (-2147483648) 2147483647 v)) args s 0 0 (iv_A base)) (F0 m 14 ls []) := by
      intro n_14
      induction n_14 with
      | zero => intro G8 hM H locs hB a_h0 x7 i_x7 hn_14 ls hl; exact absurd hn_14 (Nat.not_lt_zero _)
      | succ n_14 ih_14 =>
        intro G8 hM H locs hB a_h0 x7 i_x7 hn_14 ls hl
        refine lv_iload_n hx hb dX11_noneYet_14 rfl (lv_at hl 0 rfl) ?_
        refine lv_aload_n hx hb dX11_noneYet_15 rfl (lv_at hl 1 rfl) ?_
        refine iv_getr X ft_X11 hB a_h0 sh_11 0 (by decide) rfl k_fl_X11_12 dX11_noneYet_16 (fun b9 g_b9 r_b9 e_b9 a_b9 => ?_)
        refine iv_geti X ft_X5 hB a_b9 sh_5 1 (by decide) rfl k_fl_X11_90 dX11_noneYet_19 (fun x10 e_x10 i_x10 => ?_)
        refine lv_icmp_ge (tgt := 63) hx hb dX11_noneYet_22 (by decide) (fun c11 => ?_) (fun c11 => ?_)
        · skip
          refine lv_ldcw (v := 1000000) hx hb X.1.2.2.2.1 (X.1.2.2.2.2 _ k_ct_X11_305) dX11_noneYet_63 ?_
          refine lv_istore_n (lv' := [(2, .int 1000000), (0, .ref h0), (1, .int x_0)]) hx hb dX11_noneYet_66 rfl hl (by decide) rfl (fun ls hl => ?_)
          refine lv_iconst (v := 0) hx hb dX11_noneYet_67 (by decide) ?_
          refine lv_istore_n (lv' := [(3, .int 0), (2, .int 1000000), (0, .ref h0), (1, .int x_0)]) hx hb dX11_noneYet_68 rfl hl (by decide) rfl (fun ls hl => ?_)
          have L_69 : ∀ (n_69 : Nat) (G14 : iv_G) (hM : iv_Md [28, 30, 46] G G14) (H : Heap) (locs : List Loc) (hB : iv_B iv_sh D classes tys base G14 s.heap H locs) (a_h0 : G14 h0 = some (11, g_h0, r_h0)) (x12 : Int32) (i_x12 : iv_R (-2147483648) 2147483647 x12) (x13 : Int32) (i_x13 : iv_R 0 99 x13) (hn_69 : (100 - x13.toInt).toNat < n_69) (ls : Array Slot) (hl : lv_has ls 5 [(3, .int x13), (2, .int x12), (0, .ref h0), (1, .int x_0)]), W p l e ({ frames := 6, cells := 0, slots := 0, locals := 155 } : Room) s m args below meth c H locs 0 0 (MQ below (iv_Qi iv_sh D classes tys base (fun v G' => iv_Md [28, 30, 46] G G' ∧ iv_R (-2147483648) 2147483647 v)) args s 0 0 (iv_A base)) (F0 m 69 ls []) := by
            intro n_69
            induction n_69 with
            | zero => intro G14 hM H locs hB a_h0 x12 i_x12 x13 i_x13 hn_69 ls hl; exact absurd hn_69 (Nat.not_lt_zero _)
            | succ n_69 ih_69 =>
              intro G14 hM H locs hB a_h0 x12 i_x12 x13 i_x13 hn_69 ls hl
              refine lv_iload_n hx hb dX11_noneYet_69 rfl (lv_at hl 0 rfl) ?_
              refine lv_iload_n hx hb dX11_noneYet_70 rfl (lv_at hl 3 rfl) ?_
              refine lv_icmp_ge (tgt := 119) hx hb dX11_noneYet_71 (by decide) (fun c15 => ?_) (fun c15 => ?_)
              · skip
                refine lv_iload_n hx hb dX11_noneYet_119 rfl (lv_at hl 1 rfl) ?_
                exact iv_iret X hr hlocks hB ⟨hM, i_x12⟩ dX11_noneYet_120
              · skip
                have i15_x13 : iv_R 0 98 x13 := (i_x13.cutHi (n := 98) (iv_lt_r (iv_nle c15) i5_x_0 (by decide)))
                have i16_x_0 : iv_R 1 99 x_0 := (i5_x_0.cutLo (n := 1) (iv_lt_l (iv_nle c15) i_x13 (by decide)))
                refine lv_iconst (v := 0) hx hb dX11_noneYet_74 (by decide) ?_
                refine lv_istore (lv' := [(4, .int 0), (3, .int x13), (2, .int x12), (0, .ref h0), (1, .int x_0)]) hx hb dX11_noneYet_75 hl (by decide) rfl (fun ls hl => ?_)
                have L_77 : ∀ (n_77 : Nat) (G20 : iv_G) (hM : iv_Md [28, 30, 46] G G20) (H : Heap) (locs : List Loc) (hB : iv_B iv_sh D classes tys base G20 s.heap H locs) (a_h0 : G20 h0 = some (11, g_h0, r_h0)) (x18 : Int32) (i_x18 : iv_R (-2147483648) 2147483647 x18) (x19 : Int32) (i_x19 : iv_R 0 10 x19) (hn_77 : (11 - x19.toInt).toNat < n_77) (ls : Array Slot) (hl : lv_has ls 5 [(4, .int x19), (3, .int x13), (2, .int x18), (0, .ref h0), (1, .int x_0)]), W p l e ({ frames := 6, cells := 0, slots := 0, locals := 155 } : Room) s m args below meth c H locs 0 0 (MQ below (iv_Qi iv_sh D classes tys base (fun v G' => iv_Md [28, 30, 46] G G' ∧ iv_R (-2147483648) 2147483647 v)) args s 0 0 (iv_A base)) (F0 m 77 ls []) := by
                  intro n_77
                  induction n_77 with
                  | zero => intro G20 hM H locs hB a_h0 x18 i_x18 x19 i_x19 hn_77 ls hl; exact absurd hn_77 (Nat.not_lt_zero _)
                  | succ n_77 ih_77 =>
                    intro G20 hM H locs hB a_h0 x18 i_x18 x19 i_x19 hn_77 ls hl
                    refine lv_iload hx hb dX11_noneYet_77 (lv_at hl 0 rfl) ?_
                    refine lv_aload_n hx hb dX11_noneYet_79 rfl (lv_at hl 3 rfl) ?_
                    refine iv_getr X ft_X11 hB a_h0 sh_11 0 (by decide) rfl k_fl_X11_12 dX11_noneYet_80 (fun b21 g_b21 r_b21 e_b21 a_b21 => ?_)
                    refine iv_geti X ft_X5 hB a_b21 sh_5 1 (by decide) rfl k_fl_X11_90 dX11_noneYet_83 (fun x22 e_x22 i_x22 => ?_)
                    refine lv_icmp_ge (tgt := 113) hx hb dX11_noneYet_86 (by decide) (fun c23 => ?_) (fun c23 => ?_)
                    · skip
                      refine iv_iinc hx hb i15_x13 (lo := 1) (hi := 99) (by decide) dX11_noneYet_113 hl (k := 1) rfl (by decide) (fun x24 ls e_x24 i_x24 hl => ?_)
                      have hl : lv_has ls 5 [(3, .int x24), (4, .int x19), (2, .int x18), (0, .ref h0), (1, .int x_0)] := hl
                      refine lv_goto (tgt := 69) hx hb dX11_noneYet_116 (by decide) ?_
                      exact ih_69 G20 hM _ _ hB a_h0 x18 i_x18 x24 (i_x24.wk (by decide)) (iv_mup (c := 1) i_x13 (by decide) (by decide) (by omega) hn_69) _ (lv_sub hl [0, 2, 3, 4] rfl)
                    · skip
                      have i24_x19 : iv_R 0 9 x19 := (i_x19.cutHi (n := 9) (iv_lt_r (iv_nle c23) i_x22 (by decide)))
                      have i25_x22 : iv_R 1 10 x22 := (i_x22.cutLo (n := 1) (iv_lt_l (iv_nle c23) i_x19 (by decide)))
                      refine lv_iload_n hx hb dX11_noneYet_89 rfl (lv_at hl 2 rfl) ?_
                      refine lv_sipush (v := 1000) hx hb dX11_noneYet_90 (by decide) ?_
                      refine lv_aload_n hx hb dX11_noneYet_93 rfl (lv_at hl 3 rfl) ?_
                      refine iv_getr X ft_X11 hB a_h0 sh_11 11 (by decide) rfl k_fl_X11_69 dX11_noneYet_94 (fun b27 g_b27 r_b27 e_b27 a_b27 => ?_)
                      refine lv_iload hx hb dX11_noneYet_97 (lv_at hl 0 rfl) ?_
                      refine iv_ald X hB a_b27 sh_46 (iv_in i24_x19 (by decide)) dX11_noneYet_99 (fun x28 e_x28 i_x28 => ?_)
                      refine lv_isub hx hb dX11_noneYet_100 ?_
                      refine lv_topi (fun x29 e_x29 => ?_)
                      have i_x29 := iv_R.all x29
                      refine lv_imul hx hb dX11_noneYet_101 ?_
                      refine lv_topi (fun x30 e_x30 => ?_)
                      have i_x30 := iv_R.all x30
                      refine lv_sipush (v := 1000) hx hb dX11_noneYet_102 (by decide) ?_
                      refine lv_idiv hx hb dX11_noneYet_105 (iv_nz q_1000 (by decide)) ?_
                      refine lv_topi (fun x31 e_x31 => ?_)
                      have i_x31 := iv_R.all x31
                      refine lv_istore_n (lv' := [(2, .int x31), (4, .int x19), (3, .int x13), (0, .ref h0), (1, .int x_0)]) hx hb dX11_noneYet_106 rfl hl (by decide) rfl (fun ls hl => ?_)
                      refine iv_iinc hx hb i24_x19 (lo := 1) (hi := 10) (by decide) dX11_noneYet_107 hl (k := 1) rfl (by decide) (fun x32 ls e_x32 i_x32 hl => ?_)
                      have hl : lv_has ls 5 [(4, .int x32), (2, .int x31), (3, .int x13), (0, .ref h0), (1, .int x_0)] := hl
                      refine lv_goto (tgt := 77) hx hb dX11_noneYet_110 (by decide) ?_
                      exact ih_77 G20 hM _ _ hB a_h0 x31 i_x31 x32 (i_x32.wk (by decide)) (iv_mup (c := 1) i_x19 (by decide) (by decide) (by omega) hn_77) _ (lv_sub hl [0, 2, 1, 3, 4] rfl)
                exact L_77 _ G14 hM _ _ hB a_h0 x12 i_x12 0 (q_0.wk (by decide)) (Nat.lt_succ_self _) _ (lv_sub hl [0, 1, 2, 3, 4] rfl)
          exact L_69 _ G8 hM _ _ hB a_h0 1000000 (q_1000000.wk (by decide)) 0 (q_0.wk (by decide)) (Nat.lt_succ_self _) _ (lv_sub hl [0, 1, 2, 3] rfl)
        · skip
          have i32_x7 : iv_R 0 9 x7 := (i_x7.cutHi (n := 9) (iv_lt_r (iv_nle c11) i_x10 (by decide)))
          have i33_x10 : iv_R 1 10 x10 := (i_x10.cutLo (n := 1) (iv_lt_l (iv_nle c11) i_x7 (by decide)))
          refine lv_aload_n hx hb dX11_noneYet_25 rfl (lv_at hl 1 rfl) ?_
          refine iv_getr X ft_X11 hB a_h0 sh_11 11 (by decide) rfl k_fl_X11_69 dX11_noneYet_26 (fun b35 g_b35 r_b35 e_b35 a_b35 => ?_)
          refine lv_iload_n hx hb dX11_noneYet_29 rfl (lv_at hl 0 rfl) ?_
          refine lv_aload_n hx hb dX11_noneYet_30 rfl (lv_at hl 1 rfl) ?_
          refine iv_getr0 X ft_X11 hB a_h0 sh_11 0 (by decide) rfl k_fl_X11_12 dX11_noneYet_31 e_b9 ?_
          refine lv_iload_n hx hb dX11_noneYet_34 rfl (lv_at hl 0 rfl) ?_
          refine iv_cVi X k_good k_mf_X5_soundsIn k_im_X5_soundsIn k_sel_X5_soundsIn k_ml_X11_253 ft_X5 hB a_b9 sh_5 (As := [.int x7]) (c_X5_soundsIn l D tys base G8 b9 g_b9 r_b9 a_b9 x7 i32_x7) ⟨rfl, rfl⟩ ⟨Nat.le_of_ble_eq_true rfl, Nat.le_of_ble_eq_true rfl⟩ ⟨Nat.le_of_ble_eq_true rfl, Nat.le_of_ble_eq_true rfl⟩ rfl rfl hl.1 (Nat.le_of_ble_eq_true rfl) dX11_noneYet_35 (fun x36 G9 H locs hq hB => ?_)
          obtain ⟨rfl, i_x36⟩ := hq
          refine lv_if_ne (tgt := 45) hx hb dX11_noneYet_38 (by decide) (fun c37 => ?_) (fun c37 => ?_)
          · skip
            refine lv_aload_n hx hb dX11_noneYet_45 rfl (lv_at hl 1 rfl) ?_
            refine iv_getr X ft_X11 hB a_h0 sh_11 7 (by decide) rfl k_fl_X11_42 dX11_noneYet_46 (fun b38 g_b38 r_b38 e_b38 a_b38 => ?_)
            refine lv_iload_n hx hb dX11_noneYet_49 rfl (lv_at hl 0 rfl) ?_
            refine lv_sipush (v := 132) hx hb dX11_noneYet_50 (by decide) ?_
            refine iv_cVi X k_good k_mf_X2_comingOf k_im_X2_comingOf k_sel_X2_comingOf k_ml_X11_261 ft_X2 hB a_b38 sh_2 (As := [.int x7, .int 132]) (c_X2_comingOf l D tys base G8 b38 g_b38 r_b38 a_b38 x7 i32_x7 132 (q_132.wk (by decide))) ⟨rfl, rfl⟩ ⟨Nat.le_of_ble_eq_true rfl, Nat.le_of_ble_eq_true rfl⟩ ⟨Nat.le_of_ble_eq_true rfl, Nat.le_of_ble_eq_true rfl⟩ rfl rfl hl.1 (Nat.le_of_ble_eq_true rfl) dX11_noneYet_53 (fun x39 G9 H locs hq hB => ?_)
            obtain ⟨hm, i_x39⟩ := hq
            obtain ⟨G40, hG9⟩ : ∃ g, g = G9 := ⟨_, rfl⟩
            rw [← hG9] at hm hB
            have hM := hM.stp hm (by decide)
            have a_h0 := hm.at a_h0 (by decide)
            have a_b35 := hm.at a_b35 (by decide)
            refine iv_ast X hB a_b35 sh_46 (iv_in i32_x7 (by decide)) (i_x39.wk (by decide)) dX11_noneYet_56 (fun H locs hB => ?_)
            have hm := iv_Md.ast (j := x7.toNatClampNeg) (x := x39) a_b35 rfl (by decide)
            have h9 := iv_up_eq (G := G40) (a := b35) (k := (46, upd g_b35 x7.toNatClampNeg x39, r_b35))
            generalize iv_up G40 b35 _ = G41 at hB hm h9
            have hM := hM.stp hm (by decide)
            have a_h0 := hm.at a_h0 (by decide)
            refine iv_iinc hx hb i32_x7 (lo := 1) (hi := 10) (by decide) dX11_noneYet_57 hl (k := 0) rfl (by decide) (fun x43 ls e_x43 i_x43 hl => ?_)
            have hl : lv_has ls 5 [(2, .int x43), (0, .ref h0), (1, .int x_0)] := hl
            refine lv_goto (tgt := 14) hx hb dX11_noneYet_60 (by decide) ?_
            exact ih_14 G41 hM _ _ hB a_h0 x43 (i_x43.wk (by decide)) (iv_mup (c := 1) i_x7 (by decide) (by decide) (by omega) hn_14) _ (lv_sub hl [0, 1, 2] rfl)
          · skip
            have i43_x36 : iv_R 0 0 x36 := ((i_x36.cutLo (n := 0) (iv_eq_r c37 q_0).1).cutHi (n := 0) (iv_eq_r c37 q_0).2)
            refine lv_iconst (v := 0) hx hb dX11_noneYet_41 (by decide) ?_
            refine lv_goto (tgt := 56) hx hb dX11_noneYet_42 (by decide) ?_
            refine iv_ast X hB a_b35 sh_46 (iv_in i32_x7 (by decide)) (q_0.wk (by decide)) dX11_noneYet_56 (fun H locs hB => ?_)
            have hm := iv_Md.ast (j := x7.toNatClampNeg) (x := 0) a_b35 rfl (by decide)
            have h9 := iv_up_eq (G := G8) (a := b35) (k := (46, upd g_b35 x7.toNatClampNeg 0, r_b35))
            generalize iv_up G8 b35 _ = G45 at hB hm h9
            have hM := hM.stp hm (by decide)
            have a_h0 := hm.at a_h0 (by decide)
            refine iv_iinc hx hb i32_x7 (lo := 1) (hi := 10) (by decide) dX11_noneYet_57 hl (k := 0) rfl (by decide) (fun x47 ls e_x47 i_x47 hl => ?_)
            have hl : lv_has ls 5 [(2, .int x47), (0, .ref h0), (1, .int x_0)] := hl
            refine lv_goto (tgt := 14) hx hb dX11_noneYet_60 (by decide) ?_
            exact ih_14 G45 hM _ _ hB a_h0 x47 (i_x47.wk (by decide)) (iv_mup (c := 1) i_x7 (by decide) (by decide) (by omega) hn_14) _ (lv_sub hl [0, 1, 2] rfl)
    exact L_14 _ G hM _ _ hB a_h0 0 (q_0.wk (by decide)) (Nat.lt_succ_self _) _ (lv_sub hl [0, 1, 2] rfl)
  · skip
    have i47_x1 : iv_R 0 0 x1 := (i_x1.cutHi (n := 0) (iv_eq_r c4 q_0).2)
    refine lv_iconst (v := (-1)) hx hb dX11_noneYet_10 (by decide) ?_
    exact iv_iret X hr hlocks hB ⟨hM, (q_n1.wk (by decide))⟩ dX11_noneYet_11
theorem dX11_octaves_0 : decode cX11_octaves 0 = .ok (.aload_n 0, 1) := by decide +kernel
theorem dX11_octaves_1 : decode cX11_octaves 1 = .ok (.getfield 12, 3) := by decide +kernel
theorem dX11_octaves_4 : decode cX11_octaves 4 = .ok (.iload_n 1, 1) := by decide +kernel
theorem dX11_octaves_5 : decode cX11_octaves 5 = .ok (.invokevirtual 119, 3) := by decide +kernel
theorem dX11_octaves_8 : decode cX11_octaves 8 = .ok (.ifCond .ne 5, 3) := by decide +kernel
theorem dX11_octaves_11 : decode cX11_octaves 11 = .ok (.iconst (-1), 1) := by decide +kernel
theorem dX11_octaves_12 : decode cX11_octaves 12 = .ok (.ireturn, 1) := by decide +kernel
theorem dX11_octaves_13 : decode cX11_octaves 13 = .ok (.iconst 0, 1) := by decide +kernel
theorem dX11_octaves_14 : decode cX11_octaves 14 = .ok (.istore_n 2, 1) := by decide +kernel
theorem dX11_octaves_15 : decode cX11_octaves 15 = .ok (.iconst 0, 1) := by decide +kernel
theorem dX11_octaves_16 : decode cX11_octaves 16 = .ok (.istore_n 3, 1) := by decide +kernel
theorem dX11_octaves_17 : decode cX11_octaves 17 = .ok (.iload_n 3, 1) := by decide +kernel
theorem dX11_octaves_18 : decode cX11_octaves 18 = .ok (.aload_n 0, 1) := by decide +kernel
theorem dX11_octaves_19 : decode cX11_octaves 19 = .ok (.getfield 12, 3) := by decide +kernel
theorem dX11_octaves_22 : decode cX11_octaves 22 = .ok (.getfield 90, 3) := by decide +kernel
theorem dX11_octaves_25 : decode cX11_octaves 25 = .ok (.if_icmp .ge 48, 3) := by decide +kernel
theorem dX11_octaves_28 : decode cX11_octaves 28 = .ok (.iload_n 3, 1) := by decide +kernel
theorem dX11_octaves_29 : decode cX11_octaves 29 = .ok (.iload_n 1, 1) := by decide +kernel
theorem dX11_octaves_30 : decode cX11_octaves 30 = .ok (.if_icmp .eq 37, 3) := by decide +kernel
theorem dX11_octaves_33 : decode cX11_octaves 33 = .ok (.aload_n 0, 1) := by decide +kernel
theorem dX11_octaves_34 : decode cX11_octaves 34 = .ok (.getfield 12, 3) := by decide +kernel
theorem dX11_octaves_37 : decode cX11_octaves 37 = .ok (.getfield 93, 3) := by decide +kernel
theorem dX11_octaves_40 : decode cX11_octaves 40 = .ok (.iload_n 3, 1) := by decide +kernel
theorem dX11_octaves_41 : decode cX11_octaves 41 = .ok (.aaload, 1) := by decide +kernel
theorem dX11_octaves_42 : decode cX11_octaves 42 = .ok (.getfield 131, 3) := by decide +kernel
theorem dX11_octaves_45 : decode cX11_octaves 45 = .ok (.iconst 2, 1) := by decide +kernel
theorem dX11_octaves_46 : decode cX11_octaves 46 = .ok (.if_icmp .eq 21, 3) := by decide +kernel
theorem dX11_octaves_49 : decode cX11_octaves 49 = .ok (.aload_n 0, 1) := by decide +kernel
theorem dX11_octaves_50 : decode cX11_octaves 50 = .ok (.getfield 12, 3) := by decide +kernel
theorem dX11_octaves_53 : decode cX11_octaves 53 = .ok (.iload_n 1, 1) := by decide +kernel
theorem dX11_octaves_54 : decode cX11_octaves 54 = .ok (.iload_n 3, 1) := by decide +kernel
theorem dX11_octaves_55 : decode cX11_octaves 55 = .ok (.invokevirtual 328, 3) := by decide +kernel
theorem dX11_octaves_58 : decode cX11_octaves 58 = .ok (.ifCond .eq 9, 3) := by decide +kernel
theorem dX11_octaves_61 : decode cX11_octaves 61 = .ok (.iload_n 2, 1) := by decide +kernel
theorem dX11_octaves_62 : decode cX11_octaves 62 = .ok (.iconst 1, 1) := by decide +kernel
theorem dX11_octaves_63 : decode cX11_octaves 63 = .ok (.iload_n 3, 1) := by decide +kernel
theorem dX11_octaves_64 : decode cX11_octaves 64 = .ok (.ishl, 1) := by decide +kernel
theorem dX11_octaves_65 : decode cX11_octaves 65 = .ok (.ior, 1) := by decide +kernel
theorem dX11_octaves_66 : decode cX11_octaves 66 = .ok (.istore_n 2, 1) := by decide +kernel
theorem dX11_octaves_67 : decode cX11_octaves 67 = .ok (.iinc 3 1, 3) := by decide +kernel
theorem dX11_octaves_70 : decode cX11_octaves 70 = .ok (.goto (-53), 3) := by decide +kernel
theorem dX11_octaves_73 : decode cX11_octaves 73 = .ok (.iload_n 2, 1) := by decide +kernel
theorem dX11_octaves_74 : decode cX11_octaves 74 = .ok (.ireturn, 1) := by decide +kernel
set_option maxHeartbeats 4000000 in
set_option maxRecDepth 100000 in
theorem c_X11_octaves (l : Launch) (D : va_G) (tys : List (ClassId × FieldType)) (base : Nat) (G : iv_G) (h0 : Nat) (g_h0 : Nat → Int32) (r_h0 : Nat → Nat) (a_h0 : G h0 = some (11, g_h0, r_h0)) (x_0 : Int32) (i_x_0 : iv_R (-2147483648) 2147483647 x_0) : Met l yX11_octaves (Cond.code yX11_octaves cX11_octaves 4 (some .int) :: iv_W0) ({ frames := 2, cells := 0, slots := 0, locals := 35 }) (iv_Pc iv_sh D classes tys base G [.ref h0, .int x_0]) (iv_Qi iv_sh D classes tys base (fun v G' => G = G' ∧ iv_R (-1) 2047 v)) 0 0 (iv_A base) := by
  refine iv_head (by decide) (Nat.le_of_ble_eq_true rfl) ?_
  intro p e s m args below meth c ls X hr hlocks hname hB hl
  have X := X
  have hx := X.1.1
  have hb := X.1.2.1
  have hl : lv_has ls 4 [(0, .ref h0), (1, .int x_0)] := hl
  refine lv_aload_n hx hb dX11_octaves_0 rfl (lv_at hl 0 rfl) ?_
  refine iv_getr X ft_X11 hB a_h0 sh_11 0 (by decide) rfl k_fl_X11_12 dX11_octaves_1 (fun b1 g_b1 r_b1 e_b1 a_b1 => ?_)
  refine lv_iload_n hx hb dX11_octaves_4 rfl (lv_at hl 1 rfl) ?_
  refine iv_cVi X k_good k_mf_X5_hasBell k_im_X5_hasBell k_sel_X5_hasBell k_ml_X11_119 ft_X5 hB a_b1 sh_5 (As := [.int x_0]) (c_X5_hasBell l D tys base G b1 g_b1 r_b1 a_b1 x_0 i_x_0) ⟨rfl, rfl⟩ ⟨Nat.le_of_ble_eq_true rfl, Nat.le_of_ble_eq_true rfl⟩ ⟨Nat.le_of_ble_eq_true rfl, Nat.le_of_ble_eq_true rfl⟩ rfl rfl hl.1 (Nat.le_of_ble_eq_true rfl) dX11_octaves_5 (fun x2 G9 H locs hq hB => ?_)
  obtain ⟨rfl, i_x2, hp3⟩ := hq
  refine lv_if_ne (tgt := 13) hx hb dX11_octaves_8 (by decide) (fun c4 => ?_) (fun c4 => ?_)
  · skip
    have i4_x2 : iv_R 1 1 x2 := iv_ne_lo c4 i_x2 q_0 (by decide)
    have i5_x_0 : iv_R 0 9 x_0 := ((i_x_0.cutLo (n := 0) (hp3 c4).1).cutHi (n := 9) (hp3 c4).2)
    refine lv_iconst (v := 0) hx hb dX11_octaves_13 (by decide) ?_
    refine lv_istore_n (lv' := [(2, .int 0), (0, .ref h0), (1, .int x_0)]) hx hb dX11_octaves_14 rfl hl (by decide) rfl (fun ls hl => ?_)
    refine lv_iconst (v := 0) hx hb dX11_octaves_15 (by decide) ?_
    refine lv_istore_n (lv' := [(3, .int 0), (2, .int 0), (0, .ref h0), (1, .int x_0)]) hx hb dX11_octaves_16 rfl hl (by decide) rfl (fun ls hl => ?_)
    have L_17 : ∀ (n_17 : Nat) (H : Heap) (locs : List Loc) (hB : iv_B iv_sh D classes tys base G s.heap H locs) (x7 : Int32) (i_x7 : iv_R 0 2047 x7) (x8 : Int32) (i_x8 : iv_R 0 10 x8) (hn_17 : (11 - x8.toInt).toNat < n_17) (ls : Array Slot) (hl : lv_has ls 4 [(3, .int x8), (2, .int x7), (0, .ref h0), (1, .int x_0)]), W p l e ({ frames := 2, cells := 0, slots := 0, locals := 35 } : Room) s m args below meth c H locs 0 0 (MQ below (iv_Qi iv_sh D classes tys base (fun v G' => G = G' ∧ iv_R (-1) 2047 v)) args s 0 0 (iv_A base)) (F0 m 17 ls []) := by
      intro n_17
      induction n_17 with
      | zero => intro H locs hB x7 i_x7 x8 i_x8 hn_17 ls hl; exact absurd hn_17 (Nat.not_lt_zero _)
      | succ n_17 ih_17 =>
        intro H locs hB x7 i_x7 x8 i_x8 hn_17 ls hl
        refine lv_iload_n hx hb dX11_octaves_17 rfl (lv_at hl 0 rfl) ?_
        refine lv_aload_n hx hb dX11_octaves_18 rfl (lv_at hl 2 rfl) ?_
        refine iv_getr0 X ft_X11 hB a_h0 sh_11 0 (by decide) rfl k_fl_X11_12 dX11_octaves_19 e_b1 ?_
        refine iv_geti X ft_X5 hB a_b1 sh_5 1 (by decide) rfl k_fl_X11_90 dX11_octaves_22 (fun x9 e_x9 i_x9 => ?_)
        refine lv_icmp_ge (tgt := 73) hx hb dX11_octaves_25 (by decide) (fun c10 => ?_) (fun c10 => ?_)
        · skip
          refine lv_iload_n hx hb dX11_octaves_73 rfl (lv_at hl 1 rfl) ?_
          exact iv_iret X hr hlocks hB ⟨rfl, (i_x7.wk (by decide))⟩ dX11_octaves_74
        · skip
          have i10_x8 : iv_R 0 9 x8 := (i_x8.cutHi (n := 9) (iv_lt_r (iv_nle c10) i_x9 (by decide)))
          have i11_x9 : iv_R 1 10 x9 := (i_x9.cutLo (n := 1) (iv_lt_l (iv_nle c10) i_x8 (by decide)))
          refine lv_iload_n hx hb dX11_octaves_28 rfl (lv_at hl 0 rfl) ?_
          refine lv_iload_n hx hb dX11_octaves_29 rfl (lv_at hl 3 rfl) ?_
          refine lv_icmp_eq (tgt := 67) hx hb dX11_octaves_30 (by decide) (fun c13 => ?_) (fun c13 => ?_)
          · skip
            refine iv_iinc hx hb i10_x8 (lo := 1) (hi := 10) (by decide) dX11_octaves_67 hl (k := 0) rfl (by decide) (fun x14 ls e_x14 i_x14 hl => ?_)
            have hl : lv_has ls 4 [(3, .int x14), (2, .int x7), (0, .ref h0), (1, .int x_0)] := hl
            refine lv_goto (tgt := 17) hx hb dX11_octaves_70 (by decide) ?_
            exact ih_17 _ _ hB x7 i_x7 x14 (i_x14.wk (by decide)) (iv_mup (c := 1) i_x8 (by decide) (by decide) (by omega) hn_17) _ (lv_sub hl [0, 1, 2, 3] rfl)
          · skip
            refine lv_aload_n hx hb dX11_octaves_33 rfl (lv_at hl 2 rfl) ?_
            refine iv_getr0 X ft_X11 hB a_h0 sh_11 0 (by decide) rfl k_fl_X11_12 dX11_octaves_34 e_b1 ?_
            refine iv_getr X ft_X5 hB a_b1 sh_5 0 (by decide) rfl k_fl_X11_93 dX11_octaves_37 (fun b15 g_b15 r_b15 e_b15 a_b15 => ?_)
            refine lv_iload_n hx hb dX11_octaves_40 rfl (lv_at hl 0 rfl) ?_
            refine iv_aald X hB a_b15 sh_40 (iv_in i10_x8 (by decide)) dX11_octaves_41 (fun b16 g_b16 r_b16 e_b16 a_b16 => ?_)
            refine iv_geti X ft_X1 hB a_b16 sh_1 6 (by decide) rfl k_fl_X11_131 dX11_octaves_42 (fun x17 e_x17 i_x17 => ?_)
            refine lv_iconst (v := 2) hx hb dX11_octaves_45 (by decide) ?_
            refine lv_icmp_eq (tgt := 67) hx hb dX11_octaves_46 (by decide) (fun c18 => ?_) (fun c18 => ?_)
            · skip
              have i18_x17 : iv_R 2 2 x17 := ((i_x17.cutLo (n := 2) (iv_eq_r c18 q_2).1).cutHi (n := 2) (iv_eq_r c18 q_2).2)
              refine iv_iinc hx hb i10_x8 (lo := 1) (hi := 10) (by decide) dX11_octaves_67 hl (k := 0) rfl (by decide) (fun x20 ls e_x20 i_x20 hl => ?_)
              have hl : lv_has ls 4 [(3, .int x20), (2, .int x7), (0, .ref h0), (1, .int x_0)] := hl
              refine lv_goto (tgt := 17) hx hb dX11_octaves_70 (by decide) ?_
              exact ih_17 _ _ hB x7 i_x7 x20 (i_x20.wk (by decide)) (iv_mup (c := 1) i_x8 (by decide) (by decide) (by omega) hn_17) _ (lv_sub hl [0, 1, 2, 3] rfl)
            · skip
              refine lv_aload_n hx hb dX11_octaves_49 rfl (lv_at hl 2 rfl) ?_
              refine iv_getr0 X ft_X11 hB a_h0 sh_11 0 (by decide) rfl k_fl_X11_12 dX11_octaves_50 e_b1 ?_
              refine lv_iload_n hx hb dX11_octaves_53 rfl (lv_at hl 3 rfl) ?_
              refine lv_iload_n hx hb dX11_octaves_54 rfl (lv_at hl 0 rfl) ?_
              refine iv_cVi X k_good k_mf_X5_areOctaves k_im_X5_areOctaves k_sel_X5_areOctaves k_ml_X11_328 ft_X5 hB a_b1 sh_5 (As := [.int x_0, .int x8]) (c_X5_areOctaves l D tys base G b1 g_b1 r_b1 a_b1 x_0 i5_x_0 x8 i10_x8) ⟨rfl, rfl⟩ ⟨Nat.le_of_ble_eq_true rfl, Nat.le_of_ble_eq_true rfl⟩ ⟨Nat.le_of_ble_eq_true rfl, Nat.le_of_ble_eq_true rfl⟩ rfl rfl hl.1 (Nat.le_of_ble_eq_true rfl) dX11_octaves_55 (fun x21 G9 H locs hq hB => ?_)
              obtain ⟨rfl, i_x21⟩ := hq
              refine lv_if_eq (tgt := 67) hx hb dX11_octaves_58 (by decide) (fun c22 => ?_) (fun c22 => ?_)
              · skip
                have i22_x21 : iv_R 0 0 x21 := (i_x21.cutHi (n := 0) (iv_eq_r c22 q_0).2)
                refine iv_iinc hx hb i10_x8 (lo := 1) (hi := 10) (by decide) dX11_octaves_67 hl (k := 0) rfl (by decide) (fun x24 ls e_x24 i_x24 hl => ?_)
                have hl : lv_has ls 4 [(3, .int x24), (2, .int x7), (0, .ref h0), (1, .int x_0)] := hl
                refine lv_goto (tgt := 17) hx hb dX11_octaves_70 (by decide) ?_
                exact ih_17 _ _ hB x7 i_x7 x24 (i_x24.wk (by decide)) (iv_mup (c := 1) i_x8 (by decide) (by decide) (by omega) hn_17) _ (lv_sub hl [0, 1, 2, 3] rfl)
              · skip
                have i24_x21 : iv_R 1 1 x21 := iv_ne_lo c22 i_x21 q_0 (by decide)
                refine lv_iload_n hx hb dX11_octaves_61 rfl (lv_at hl 1 rfl) ?_
                refine lv_iconst (v := 1) hx hb dX11_octaves_62 (by decide) ?_
                refine lv_iload_n hx hb dX11_octaves_63 rfl (lv_at hl 0 rfl) ?_
                refine iv_shl1 hx hb i10_x8 (lo := 1) (hi := 512) (by decide) dX11_octaves_64 (fun x26 e_x26 i_x26 => ?_)
                refine iv_ior hx hb i_x7 i_x26 (k := 11) (hi := 2047) (by decide) dX11_octaves_65 (fun x27 e_x27 i_x27 => ?_)
                refine lv_istore_n (lv' := [(2, .int x27), (3, .int x8), (0, .ref h0), (1, .int x_0)]) hx hb dX11_octaves_66 rfl hl (by decide) rfl (fun ls hl => ?_)
                refine iv_iinc hx hb i10_x8 (lo := 1) (hi := 10) (by decide) dX11_octaves_67 hl (k := 1) rfl (by decide) (fun x28 ls e_x28 i_x28 hl => ?_)
                have hl : lv_has ls 4 [(3, .int x28), (2, .int x27), (0, .ref h0), (1, .int x_0)] := hl
                refine lv_goto (tgt := 17) hx hb dX11_octaves_70 (by decide) ?_
                exact ih_17 _ _ hB x27 i_x27 x28 (i_x28.wk (by decide)) (iv_mup (c := 1) i_x8 (by decide) (by decide) (by omega) hn_17) _ (lv_sub hl [0, 1, 2, 3] rfl)
    exact L_17 _ _ _ hB 0 (q_0.wk (by decide)) 0 (q_0.wk (by decide)) (Nat.lt_succ_self _) _ (lv_sub hl [0, 1, 2, 3] rfl)
  · skip
    have i28_x2 : iv_R 0 0 x2 := (i_x2.cutHi (n := 0) (iv_eq_r c4 q_0).2)
    refine lv_iconst (v := (-1)) hx hb dX11_octaves_11 (by decide) ?_
    exact iv_iret X hr hlocks hB ⟨rfl, (q_n1.wk (by decide))⟩ dX11_octaves_12
theorem dX11_of_0 : decode cX11_of 0 = .ok (.aload_n 0, 1) := by decide +kernel
theorem dX11_of_1 : decode cX11_of 1 = .ok (.getfield 12, 3) := by decide +kernel
theorem dX11_of_4 : decode cX11_of 4 = .ok (.iload_n 1, 1) := by decide +kernel
theorem dX11_of_5 : decode cX11_of 5 = .ok (.invokevirtual 119, 3) := by decide +kernel
theorem dX11_of_8 : decode cX11_of 8 = .ok (.ifCond .ne 6, 3) := by decide +kernel
theorem dX11_of_11 : decode cX11_of 11 = .ok (.bipush (-2), 2) := by decide +kernel
theorem dX11_of_13 : decode cX11_of 13 = .ok (.ireturn, 1) := by decide +kernel
theorem dX11_of_14 : decode cX11_of 14 = .ok (.aload_n 0, 1) := by decide +kernel
theorem dX11_of_15 : decode cX11_of 15 = .ok (.getfield 12, 3) := by decide +kernel
theorem dX11_of_18 : decode cX11_of 18 = .ok (.getfield 93, 3) := by decide +kernel
theorem dX11_of_21 : decode cX11_of 21 = .ok (.iload_n 1, 1) := by decide +kernel
theorem dX11_of_22 : decode cX11_of 22 = .ok (.aaload, 1) := by decide +kernel
theorem dX11_of_23 : decode cX11_of 23 = .ok (.astore_n 3, 1) := by decide +kernel
theorem dX11_of_24 : decode cX11_of 24 = .ok (.iload_n 2, 1) := by decide +kernel
theorem dX11_of_25 : decode cX11_of 25 = .ok (.tableswitch 157 0 11 #[63, 68, 73, 78, 83, 88, 93, 98, 103, 112, 133, 145], 63) := by decide +kernel
theorem dX11_of_88 : decode cX11_of 88 = .ok (.aload_n 3, 1) := by decide +kernel
theorem dX11_of_89 : decode cX11_of 89 = .ok (.getfield 244, 3) := by decide +kernel
theorem dX11_of_92 : decode cX11_of 92 = .ok (.ireturn, 1) := by decide +kernel
theorem dX11_of_93 : decode cX11_of 93 = .ok (.aload_n 3, 1) := by decide +kernel
theorem dX11_of_94 : decode cX11_of 94 = .ok (.getfield 128, 3) := by decide +kernel
theorem dX11_of_97 : decode cX11_of 97 = .ok (.ireturn, 1) := by decide +kernel
theorem dX11_of_98 : decode cX11_of 98 = .ok (.aload_n 3, 1) := by decide +kernel
theorem dX11_of_99 : decode cX11_of 99 = .ok (.getfield 247, 3) := by decide +kernel
theorem dX11_of_102 : decode cX11_of 102 = .ok (.ireturn, 1) := by decide +kernel
theorem dX11_of_103 : decode cX11_of 103 = .ok (.aload_n 3, 1) := by decide +kernel
theorem dX11_of_104 : decode cX11_of 104 = .ok (.getfield 122, 3) := by decide +kernel
theorem dX11_of_107 : decode cX11_of 107 = .ok (.ireturn, 1) := by decide +kernel
theorem dX11_of_108 : decode cX11_of 108 = .ok (.aload_n 3, 1) := by decide +kernel
theorem dX11_of_109 : decode cX11_of 109 = .ok (.getfield 125, 3) := by decide +kernel
theorem dX11_of_112 : decode cX11_of 112 = .ok (.ireturn, 1) := by decide +kernel
theorem dX11_of_113 : decode cX11_of 113 = .ok (.aload_n 3, 1) := by decide +kernel
theorem dX11_of_114 : decode cX11_of 114 = .ok (.getfield 149, 3) := by decide +kernel
theorem dX11_of_117 : decode cX11_of 117 = .ok (.ireturn, 1) := by decide +kernel
theorem dX11_of_118 : decode cX11_of 118 = .ok (.aload_n 3, 1) := by decide +kernel
theorem dX11_of_119 : decode cX11_of 119 = .ok (.getfield 131, 3) := by decide +kernel
theorem dX11_of_122 : decode cX11_of 122 = .ok (.ireturn, 1) := by decide +kernel
theorem dX11_of_123 : decode cX11_of 123 = .ok (.aload_n 3, 1) := by decide +kernel
theorem dX11_of_124 : decode cX11_of 124 = .ok (.getfield 250, 3) := by decide +kernel
theorem dX11_of_127 : decode cX11_of 127 = .ok (.ireturn, 1) := by decide +kernel
theorem dX11_of_128 : decode cX11_of 128 = .ok (.aload_n 0, 1) := by decide +kernel
theorem dX11_of_129 : decode cX11_of 129 = .ok (.getfield 12, 3) := by decide +kernel
theorem dX11_of_132 : decode cX11_of 132 = .ok (.iload_n 1, 1) := by decide +kernel
theorem dX11_of_133 : decode cX11_of 133 = .ok (.invokevirtual 253, 3) := by decide +kernel
theorem dX11_of_136 : decode cX11_of 136 = .ok (.ireturn, 1) := by decide +kernel
theorem dX11_of_137 : decode cX11_of 137 = .ok (.aload_n 0, 1) := by decide +kernel
theorem dX11_of_138 : decode cX11_of 138 = .ok (.getfield 42, 3) := by decide +kernel
theorem dX11_of_141 : decode cX11_of 141 = .ok (.iload_n 1, 1) := by decide +kernel
theorem dX11_of_142 : decode cX11_of 142 = .ok (.aload_n 3, 1) := by decide +kernel
theorem dX11_of_143 : decode cX11_of 143 = .ok (.getfield 244, 3) := by decide +kernel
theorem dX11_of_146 : decode cX11_of 146 = .ok (.aload_n 0, 1) := by decide +kernel
theorem dX11_of_147 : decode cX11_of 147 = .ok (.getfield 12, 3) := by decide +kernel
theorem dX11_of_150 : decode cX11_of 150 = .ok (.iload_n 1, 1) := by decide +kernel
theorem dX11_of_151 : decode cX11_of 151 = .ok (.invokevirtual 253, 3) := by decide +kernel
theorem dX11_of_154 : decode cX11_of 154 = .ok (.invokevirtual 257, 3) := by decide +kernel
theorem dX11_of_157 : decode cX11_of 157 = .ok (.ireturn, 1) := by decide +kernel
theorem dX11_of_158 : decode cX11_of 158 = .ok (.aload_n 0, 1) := by decide +kernel
theorem dX11_of_159 : decode cX11_of 159 = .ok (.getfield 42, 3) := by decide +kernel
theorem dX11_of_162 : decode cX11_of 162 = .ok (.iload_n 1, 1) := by decide +kernel
theorem dX11_of_163 : decode cX11_of 163 = .ok (.sipush 132, 3) := by decide +kernel
theorem dX11_of_166 : decode cX11_of 166 = .ok (.invokevirtual 261, 3) := by decide +kernel
theorem dX11_of_169 : decode cX11_of 169 = .ok (.ireturn, 1) := by decide +kernel
theorem dX11_of_170 : decode cX11_of 170 = .ok (.aload_n 0, 1) := by decide +kernel
theorem dX11_of_171 : decode cX11_of 171 = .ok (.getfield 42, 3) := by decide +kernel
theorem dX11_of_174 : decode cX11_of 174 = .ok (.iload_n 1, 1) := by decide +kernel
theorem dX11_of_175 : decode cX11_of 175 = .ok (.sipush 133, 3) := by decide +kernel
theorem dX11_of_178 : decode cX11_of 178 = .ok (.invokevirtual 261, 3) := by decide +kernel
theorem dX11_of_181 : decode cX11_of 181 = .ok (.ireturn, 1) := by decide +kernel
theorem dX11_of_182 : decode cX11_of 182 = .ok (.bipush (-2), 2) := by decide +kernel
theorem dX11_of_184 : decode cX11_of 184 = .ok (.ireturn, 1) := by decide +kernel
set_option maxHeartbeats 4000000 in
set_option maxRecDepth 100000 in
theorem c_X11_of (l : Launch) (D : va_G) (tys : List (ClassId × FieldType)) (base : Nat) (G : iv_G) (h0 : Nat) (g_h0 : Nat → Int32) (r_h0 : Nat → Nat) (a_h0 : G h0 = some (11, g_h0, r_h0)) (x_0 : Int32) (i_x_0 : iv_R (-2147483648) 2147483647 x_0) (x_1 : Int32) (i_x_1 : iv_R (-2147483648) 2147483647 x_1) : Met l yX11_of (Cond.code yX11_of cX11_of 4 (some .int) :: iv_W0) ({ frames := 6, cells := 0, slots := 0, locals := 155 }) (iv_Pc iv_sh D classes tys base G [.ref h0, .int x_0, .int x_1]) (iv_Qi iv_sh D classes tys base (fun v G' => iv_Md [28, 30] G G' ∧ iv_R (-2147483648) 2147483647 v)) 0 0 (iv_A base) := by
  refine iv_head (by decide) (Nat.le_of_ble_eq_true rfl) ?_
  intro p e s m args below meth c ls X hr hlocks hname hB hl
  have X := X
  have hx := X.1.1
  have hb := X.1.2.1
  have hM : iv_Md [28, 30] G G := iv_Md.rf
  have hl : lv_has ls 4 [(0, .ref h0), (1, .int x_0), (2, .int x_1)] := hl
  refine lv_aload_n hx hb dX11_of_0 rfl (lv_at hl 0 rfl) ?_
  refine iv_getr X ft_X11 hB a_h0 sh_11 0 (by decide) rfl k_fl_X11_12 dX11_of_1 (fun b1 g_b1 r_b1 e_b1 a_b1 => ?_)
  refine lv_iload_n hx hb dX11_of_4 rfl (lv_at hl 1 rfl) ?_
  refine iv_cVi X k_good k_mf_X5_hasBell k_im_X5_hasBell k_sel_X5_hasBell k_ml_X11_119 ft_X5 hB a_b1 sh_5 (As := [.int x_0]) (c_X5_hasBell l D tys base G b1 g_b1 r_b1 a_b1 x_0 i_x_0) ⟨rfl, rfl⟩ ⟨Nat.le_of_ble_eq_true rfl, Nat.le_of_ble_eq_true rfl⟩ ⟨Nat.le_of_ble_eq_true rfl, Nat.le_of_ble_eq_true rfl⟩ rfl rfl hl.1 (Nat.le_of_ble_eq_true rfl) dX11_of_5 (fun x2 G9 H locs hq hB => ?_)
  obtain ⟨rfl, i_x2, hp3⟩ := hq
  refine lv_if_ne (tgt := 14) hx hb dX11_of_8 (by decide) (fun c4 => ?_) (fun c4 => ?_)
  · skip
    have i4_x2 : iv_R 1 1 x2 := iv_ne_lo c4 i_x2 q_0 (by decide)
    have i5_x_0 : iv_R 0 9 x_0 := ((i_x_0.cutLo (n := 0) (hp3 c4).1).cutHi (n := 9) (hp3 c4).2)
    refine lv_aload_n hx hb dX11_of_14 rfl (lv_at hl 0 rfl) ?_
    refine iv_getr0 X ft_X11 hB a_h0 sh_11 0 (by decide) rfl k_fl_X11_12 dX11_of_15 e_b1 ?_
    refine iv_getr X ft_X5 hB a_b1 sh_5 0 (by decide) rfl k_fl_X11_93 dX11_of_18 (fun b7 g_b7 r_b7 e_b7 a_b7 => ?_)
    refine lv_iload_n hx hb dX11_of_21 rfl (lv_at hl 1 rfl) ?_
    refine iv_aald X hB a_b7 sh_40 (iv_in i5_x_0 (by decide)) dX11_of_22 (fun b8 g_b8 r_b8 e_b8 a_b8 => ?_)
    refine lv_astore_n (lv' := [(3, .ref b8), (0, .ref h0), (1, .int x_0), (2, .int x_1)]) hx hb dX11_of_23 rfl hl (by decide) rfl (fun ls hl => ?_)
    refine lv_iload_n hx hb dX11_of_24 rfl (lv_at hl 3 rfl) ?_
    by_cases w9 : x_1.toInt = 0
    · skip
      refine lv_tableIn (tgt := 88) hx hb dX11_of_25 (by omega) (by omega) (by rw [w9]; rfl) (by decide) ?_
      have w9i : iv_R 0 0 x_1 := iv_lit w9
      refine lv_aload_n hx hb dX11_of_88 rfl (lv_at hl 0 rfl) ?_
      refine iv_geti X ft_X1 hB a_b8 sh_1 0 (by decide) rfl k_fl_X11_244 dX11_of_89 (fun x10 e_x10 i_x10 => ?_)
      exact iv_iret X hr hlocks hB ⟨hM, i_x10⟩ dX11_of_92
    skip
    by_cases w11 : x_1.toInt = 1
    · skip
      refine lv_tableIn (tgt := 93) hx hb dX11_of_25 (by omega) (by omega) (by rw [w11]; rfl) (by decide) ?_
      have w11i : iv_R 1 1 x_1 := iv_lit w11
      refine lv_aload_n hx hb dX11_of_93 rfl (lv_at hl 0 rfl) ?_
      refine iv_geti X ft_X1 hB a_b8 sh_1 1 (by decide) rfl k_fl_X11_128 dX11_of_94 (fun x12 e_x12 i_x12 => ?_)
      exact iv_iret X hr hlocks hB ⟨hM, i_x12⟩ dX11_of_97
    skip
    by_cases w13 : x_1.toInt = 2
    · skip
      refine lv_tableIn (tgt := 98) hx hb dX11_of_25 (by omega) (by omega) (by rw [w13]; rfl) (by decide) ?_
      have w13i : iv_R 2 2 x_1 := iv_lit w13
      refine lv_aload_n hx hb dX11_of_98 rfl (lv_at hl 0 rfl) ?_
      refine iv_geti X ft_X1 hB a_b8 sh_1 2 (by decide) rfl k_fl_X11_247 dX11_of_99 (fun x14 e_x14 i_x14 => ?_)
      exact iv_iret X hr hlocks hB ⟨hM, i_x14⟩ dX11_of_102
    skip
    by_cases w15 : x_1.toInt = 3
    · skip
      refine lv_tableIn (tgt := 103) hx hb dX11_of_25 (by omega) (by omega) (by rw [w15]; rfl) (by decide) ?_
      have w15i : iv_R 3 3 x_1 := iv_lit w15
      refine lv_aload_n hx hb dX11_of_103 rfl (lv_at hl 0 rfl) ?_
      refine iv_geti X ft_X1 hB a_b8 sh_1 3 (by decide) rfl k_fl_X11_122 dX11_of_104 (fun x16 e_x16 i_x16 => ?_)
      exact iv_iret X hr hlocks hB ⟨hM, i_x16⟩ dX11_of_107
    skip
    by_cases w17 : x_1.toInt = 4
    · skip
      refine lv_tableIn (tgt := 108) hx hb dX11_of_25 (by omega) (by omega) (by rw [w17]; rfl) (by decide) ?_
      have w17i : iv_R 4 4 x_1 := iv_lit w17
      refine lv_aload_n hx hb dX11_of_108 rfl (lv_at hl 0 rfl) ?_
      refine iv_geti X ft_X1 hB a_b8 sh_1 4 (by decide) rfl k_fl_X11_125 dX11_of_109 (fun x18 e_x18 i_x18 => ?_)
      exact iv_iret X hr hlocks hB ⟨hM, i_x18⟩ dX11_of_112
    skip
    by_cases w19 : x_1.toInt = 5
    · skip
      refine lv_tableIn (tgt := 113) hx hb dX11_of_25 (by omega) (by omega) (by rw [w19]; rfl) (by decide) ?_
      have w19i : iv_R 5 5 x_1 := iv_lit w19
      refine lv_aload_n hx hb dX11_of_113 rfl (lv_at hl 0 rfl) ?_
      refine iv_geti X ft_X1 hB a_b8 sh_1 5 (by decide) rfl k_fl_X11_149 dX11_of_114 (fun x20 e_x20 i_x20 => ?_)
      exact iv_iret X hr hlocks hB ⟨hM, i_x20⟩ dX11_of_117
    skip
    by_cases w21 : x_1.toInt = 6
    · skip
      refine lv_tableIn (tgt := 118) hx hb dX11_of_25 (by omega) (by omega) (by rw [w21]; rfl) (by decide) ?_
      have w21i : iv_R 6 6 x_1 := iv_lit w21
      refine lv_aload_n hx hb dX11_of_118 rfl (lv_at hl 0 rfl) ?_
      refine iv_geti X ft_X1 hB a_b8 sh_1 6 (by decide) rfl k_fl_X11_131 dX11_of_119 (fun x22 e_x22 i_x22 => ?_)
      exact iv_iret X hr hlocks hB ⟨hM, i_x22⟩ dX11_of_122
    skip
    by_cases w23 : x_1.toInt = 7
    · skip
      refine lv_tableIn (tgt := 123) hx hb dX11_of_25 (by omega) (by omega) (by rw [w23]; rfl) (by decide) ?_
      have w23i : iv_R 7 7 x_1 := iv_lit w23
      refine lv_aload_n hx hb dX11_of_123 rfl (lv_at hl 0 rfl) ?_
      refine iv_geti X ft_X1 hB a_b8 sh_1 7 (by decide) rfl k_fl_X11_250 dX11_of_124 (fun x24 e_x24 i_x24 => ?_)
      exact iv_iret X hr hlocks hB ⟨hM, i_x24⟩ dX11_of_127
    skip
    by_cases w25 : x_1.toInt = 8
    · skip
      refine lv_tableIn (tgt := 128) hx hb dX11_of_25 (by omega) (by omega) (by rw [w25]; rfl) (by decide) ?_
      have w25i : iv_R 8 8 x_1 := iv_lit w25
      refine lv_aload_n hx hb dX11_of_128 rfl (lv_at hl 1 rfl) ?_
      refine iv_getr0 X ft_X11 hB a_h0 sh_11 0 (by decide) rfl k_fl_X11_12 dX11_of_129 e_b1 ?_
      refine lv_iload_n hx hb dX11_of_132 rfl (lv_at hl 2 rfl) ?_
      refine iv_cVi X k_good k_mf_X5_soundsIn k_im_X5_soundsIn k_sel_X5_soundsIn k_ml_X11_253 ft_X5 hB a_b1 sh_5 (As := [.int x_0]) (c_X5_soundsIn l D tys base G b1 g_b1 r_b1 a_b1 x_0 i5_x_0) ⟨rfl, rfl⟩ ⟨Nat.le_of_ble_eq_true rfl, Nat.le_of_ble_eq_true rfl⟩ ⟨Nat.le_of_ble_eq_true rfl, Nat.le_of_ble_eq_true rfl⟩ rfl rfl hl.1 (Nat.le_of_ble_eq_true rfl) dX11_of_133 (fun x26 G9 H locs hq hB => ?_)
      obtain ⟨rfl, i_x26⟩ := hq
      exact iv_iret X hr hlocks hB ⟨hM, i_x26⟩ dX11_of_136
    skip
    by_cases w27 : x_1.toInt = 9
    · skip
      refine lv_tableIn (tgt := 137) hx hb dX11_of_25 (by omega) (by omega) (by rw [w27]; rfl) (by decide) ?_
      have w27i : iv_R 9 9 x_1 := iv_lit w27
      refine lv_aload_n hx hb dX11_of_137 rfl (lv_at hl 1 rfl) ?_
      refine iv_getr X ft_X11 hB a_h0 sh_11 7 (by decide) rfl k_fl_X11_42 dX11_of_138 (fun b28 g_b28 r_b28 e_b28 a_b28 => ?_)
      refine lv_iload_n hx hb dX11_of_141 rfl (lv_at hl 2 rfl) ?_
      refine lv_aload_n hx hb dX11_of_142 rfl (lv_at hl 0 rfl) ?_
      refine iv_geti X ft_X1 hB a_b8 sh_1 0 (by decide) rfl k_fl_X11_244 dX11_of_143 (fun x29 e_x29 i_x29 => ?_)
      refine lv_aload_n hx hb dX11_of_146 rfl (lv_at hl 1 rfl) ?_
      refine iv_getr0 X ft_X11 hB a_h0 sh_11 0 (by decide) rfl k_fl_X11_12 dX11_of_147 e_b1 ?_
      refine lv_iload_n hx hb dX11_of_150 rfl (lv_at hl 2 rfl) ?_
      refine iv_cVi X k_good k_mf_X5_soundsIn k_im_X5_soundsIn k_sel_X5_soundsIn k_ml_X11_253 ft_X5 hB a_b1 sh_5 (As := [.int x_0]) (c_X5_soundsIn l D tys base G b1 g_b1 r_b1 a_b1 x_0 i5_x_0) ⟨rfl, rfl⟩ ⟨Nat.le_of_ble_eq_true rfl, Nat.le_of_ble_eq_true rfl⟩ ⟨Nat.le_of_ble_eq_true rfl, Nat.le_of_ble_eq_true rfl⟩ rfl rfl hl.1 (Nat.le_of_ble_eq_true rfl) dX11_of_151 (fun x30 G9 H locs hq hB => ?_)
      obtain ⟨rfl, i_x30⟩ := hq
      refine iv_cVi X k_good k_mf_X2_clearHours k_im_X2_clearHours k_sel_X2_clearHours k_ml_X11_257 ft_X2 hB a_b28 sh_2 (As := [.int x_0, .int x29, .int x30]) (c_X2_clearHours l D tys base G b28 g_b28 r_b28 a_b28 x_0 i5_x_0 x29 i_x29 x30 i_x30) ⟨rfl, rfl⟩ ⟨Nat.le_of_ble_eq_true rfl, Nat.le_of_ble_eq_true rfl⟩ ⟨Nat.le_of_ble_eq_true rfl, Nat.le_of_ble_eq_true rfl⟩ rfl rfl hl.1 (Nat.le_of_ble_eq_true rfl) dX11_of_154 (fun x31 G9 H locs hq hB => ?_)
      obtain ⟨hm, i_x31⟩ := hq
      obtain ⟨G32, hG9⟩ : ∃ g, g = G9 := ⟨_, rfl⟩
      rw [← hG9] at hm hB
      have hM := hM.stp hm (by decide)
      have a_h0 := hm.at a_h0 (by decide)
      have a_b8 := hm.at a_b8 (by decide)
      exact iv_iret X hr hlocks hB ⟨hM, i_x31⟩ dX11_of_157
    skip
    by_cases w33 : x_1.toInt = 10
    · skip
      refine lv_tableIn (tgt := 158) hx hb dX11_of_25 (by omega) (by omega) (by rw [w33]; rfl) (by decide) ?_
      have w33i : iv_R 10 10 x_1 := iv_lit w33
      refine lv_aload_n hx hb dX11_of_158 rfl (lv_at hl 1 rfl) ?_
      refine iv_getr X ft_X11 hB a_h0 sh_11 7 (by decide) rfl k_fl_X11_42 dX11_of_159 (fun b34 g_b34 r_b34 e_b34 a_b34 => ?_)
      refine lv_iload_n hx hb dX11_of_162 rfl (lv_at hl 2 rfl) ?_
      refine lv_sipush (v := 132) hx hb dX11_of_163 (by decide) ?_
      refine iv_cVi X k_good k_mf_X2_comingOf k_im_X2_comingOf k_sel_X2_comingOf k_ml_X11_261 ft_X2 hB a_b34 sh_2 (As := [.int x_0, .int 132]) (c_X2_comingOf l D tys base G b34 g_b34 r_b34 a_b34 x_0 i5_x_0 132 (q_132.wk (by decide))) ⟨rfl, rfl⟩ ⟨Nat.le_of_ble_eq_true rfl, Nat.le_of_ble_eq_true rfl⟩ ⟨Nat.le_of_ble_eq_true rfl, Nat.le_of_ble_eq_true rfl⟩ rfl rfl hl.1 (Nat.le_of_ble_eq_true rfl) dX11_of_166 (fun x35 G9 H locs hq hB => ?_)
      obtain ⟨hm, i_x35⟩ := hq
      obtain ⟨G36, hG9⟩ : ∃ g, g = G9 := ⟨_, rfl⟩
      rw [← hG9] at hm hB
      have hM := hM.stp hm (by decide)
      have a_h0 := hm.at a_h0 (by decide)
      have a_b8 := hm.at a_b8 (by decide)
      exact iv_iret X hr hlocks hB ⟨hM, (i_x35.wk (by decide))⟩ dX11_of_169
    skip
    by_cases w37 : x_1.toInt = 11
    · skip
      refine lv_tableIn (tgt := 170) hx hb dX11_of_25 (by omega) (by omega) (by rw [w37]; rfl) (by decide) ?_
      have w37i : iv_R 11 11 x_1 := iv_lit w37
      refine lv_aload_n hx hb dX11_of_170 rfl (lv_at hl 1 rfl) ?_
      refine iv_getr X ft_X11 hB a_h0 sh_11 7 (by decide) rfl k_fl_X11_42 dX11_of_171 (fun b38 g_b38 r_b38 e_b38 a_b38 => ?_)
      refine lv_iload_n hx hb dX11_of_174 rfl (lv_at hl 2 rfl) ?_
      refine lv_sipush (v := 133) hx hb dX11_of_175 (by decide) ?_
      refine iv_cVi X k_good k_mf_X2_comingOf k_im_X2_comingOf k_sel_X2_comingOf k_ml_X11_261 ft_X2 hB a_b38 sh_2 (As := [.int x_0, .int 133]) (c_X2_comingOf l D tys base G b38 g_b38 r_b38 a_b38 x_0 i5_x_0 133 (q_133.wk (by decide))) ⟨rfl, rfl⟩ ⟨Nat.le_of_ble_eq_true rfl, Nat.le_of_ble_eq_true rfl⟩ ⟨Nat.le_of_ble_eq_true rfl, Nat.le_of_ble_eq_true rfl⟩ rfl rfl hl.1 (Nat.le_of_ble_eq_true rfl) dX11_of_178 (fun x39 G9 H locs hq hB => ?_)
      obtain ⟨hm, i_x39⟩ := hq
      obtain ⟨G40, hG9⟩ : ∃ g, g = G9 := ⟨_, rfl⟩
      rw [← hG9] at hm hB
      have hM := hM.stp hm (by decide)
      have a_h0 := hm.at a_h0 (by decide)
      have a_b8 := hm.at a_b8 (by decide)
      exact iv_iret X hr hlocks hB ⟨hM, (i_x39.wk (by decide))⟩ dX11_of_181
    skip
    refine lv_tableOut (tgt := 182) hx hb dX11_of_25 (by have := i_x_1.1; have := i_x_1.2; omega) (by decide) ?_
    refine lv_bipush (v := (-2)) hx hb dX11_of_182 (by decide) ?_
    exact iv_iret X hr hlocks hB ⟨hM, (q_n2.wk (by decide))⟩ dX11_of_184
  · skip
    have i40_x2 : iv_R 0 0 x2 := (i_x2.cutHi (n := 0) (iv_eq_r c4 q_0).2)
    refine lv_bipush (v := (-2)) hx hb dX11_of_11 (by decide) ?_
    exact iv_iret X hr hlocks hB ⟨hM, (q_n2.wk (by decide))⟩ dX11_of_13
theorem dX4_gather_0 : decode cX4_gather 0 = .ok (.aload_n 0, 1) := by decide +kernel
theorem dX4_gather_1 : decode cX4_gather 1 = .ok (.iconst 0, 1) := by decide +kernel
theorem dX4_gather_2 : decode cX4_gather 2 = .ok (.putfield 61, 3) := by decide +kernel
theorem dX4_gather_5 : decode cX4_gather 5 = .ok (.iconst 0, 1) := by decide +kernel
theorem dX4_gather_6 : decode cX4_gather 6 = .ok (.istore_n 2, 1) := by decide +kernel
theorem dX4_gather_7 : decode cX4_gather 7 = .ok (.iload_n 2, 1) := by decide +kernel
theorem dX4_gather_8 : decode cX4_gather 8 = .ok (.aload_n 0, 1) := by decide +kernel
theorem dX4_gather_9 : decode cX4_gather 9 = .ok (.getfield 21, 3) := by decide +kernel
theorem dX4_gather_12 : decode cX4_gather 12 = .ok (.getfield 33, 3) := by decide +kernel
theorem dX4_gather_15 : decode cX4_gather 15 = .ok (.if_icmp .ge 47, 3) := by decide +kernel
theorem dX4_gather_18 : decode cX4_gather 18 = .ok (.iload_n 1, 1) := by decide +kernel
theorem dX4_gather_19 : decode cX4_gather 19 = .ok (.iload_n 2, 1) := by decide +kernel
theorem dX4_gather_20 : decode cX4_gather 20 = .ok (.iushr, 1) := by decide +kernel
theorem dX4_gather_21 : decode cX4_gather 21 = .ok (.iconst 1, 1) := by decide +kernel
theorem dX4_gather_22 : decode cX4_gather 22 = .ok (.iand, 1) := by decide +kernel
theorem dX4_gather_23 : decode cX4_gather 23 = .ok (.iconst 1, 1) := by decide +kernel
theorem dX4_gather_24 : decode cX4_gather 24 = .ok (.if_icmp .ne 32, 3) := by decide +kernel
theorem dX4_gather_27 : decode cX4_gather 27 = .ok (.aload_n 0, 1) := by decide +kernel
theorem dX4_gather_28 : decode cX4_gather 28 = .ok (.getfield 61, 3) := by decide +kernel
theorem dX4_gather_31 : decode cX4_gather 31 = .ok (.bipush 8, 2) := by decide +kernel
theorem dX4_gather_33 : decode cX4_gather 33 = .ok (.if_icmp .ge 23, 3) := by decide +kernel
theorem dX4_gather_36 : decode cX4_gather 36 = .ok (.aload_n 0, 1) := by decide +kernel
theorem dX4_gather_37 : decode cX4_gather 37 = .ok (.getfield 15, 3) := by decide +kernel
theorem dX4_gather_40 : decode cX4_gather 40 = .ok (.aload_n 0, 1) := by decide +kernel
theorem dX4_gather_41 : decode cX4_gather 41 = .ok (.getfield 61, 3) := by decide +kernel
theorem dX4_gather_44 : decode cX4_gather 44 = .ok (.iload_n 2, 1) := by decide +kernel
theorem dX4_gather_45 : decode cX4_gather 45 = .ok (.iastore, 1) := by decide +kernel
theorem dX4_gather_46 : decode cX4_gather 46 = .ok (.aload_n 0, 1) := by decide +kernel
theorem dX4_gather_47 : decode cX4_gather 47 = .ok (.dup, 1) := by decide +kernel
theorem dX4_gather_48 : decode cX4_gather 48 = .ok (.getfield 61, 3) := by decide +kernel
theorem dX4_gather_51 : decode cX4_gather 51 = .ok (.iconst 1, 1) := by decide +kernel
theorem dX4_gather_52 : decode cX4_gather 52 = .ok (.iadd, 1) := by decide +kernel
theorem dX4_gather_53 : decode cX4_gather 53 = .ok (.putfield 61, 3) := by decide +kernel
theorem dX4_gather_56 : decode cX4_gather 56 = .ok (.iinc 2 1, 3) := by decide +kernel
theorem dX4_gather_59 : decode cX4_gather 59 = .ok (.goto (-52), 3) := by decide +kernel
theorem dX4_gather_62 : decode cX4_gather 62 = .ok (.return_, 1) := by decide +kernel
set_option maxHeartbeats 4000000 in
set_option maxRecDepth 100000 in
theorem c_X4_gather (l : Launch) (D : va_G) (tys : List (ClassId × FieldType)) (base : Nat) (G : iv_G) (h0 : Nat) (g_h0 : Nat → Int32) (r_h0 : Nat → Nat) (a_h0 : G h0 = some (4, g_h0, r_h0)) (x_0 : Int32) (i_x_0 : iv_R (-2147483648) 2147483647 x_0) : Met l yX4_gather (Cond.code yX4_gather cX4_gather 3 none :: iv_W0) ({ frames := 0, cells := 0, slots := 0, locals := 0 }) (iv_Pc iv_sh D classes tys base G [.ref h0, .int x_0]) (iv_Qv iv_sh D classes tys base (fun G' => iv_Md [4, 32] G G')) 0 0 (iv_A base) := by
  refine iv_head (by decide) (Nat.le_of_ble_eq_true rfl) ?_
  intro p e s m args below meth c ls X hr hlocks hname hB hl
  have X := X
  have hx := X.1.1
  have hb := X.1.2.1
  have hM : iv_Md [4, 32] G G := iv_Md.rf
  have hl : lv_has ls 3 [(0, .ref h0), (1, .int x_0)] := hl
  refine lv_aload_n hx hb dX4_gather_0 rfl (lv_at hl 0 rfl) ?_
  refine lv_iconst (v := 0) hx hb dX4_gather_1 (by decide) ?_
  refine iv_puti X ft_X4 hB a_h0 sh_4 3 (by decide) rfl rfl k_fl_X4_61 rfl (q_0.wk (by decide)) rfl rfl dX4_gather_2 (fun H locs hB => ?_)
  have hm := iv_Md.put (x := 0) a_h0 (j := 3) (by decide) (by decide)
  have h9 := iv_up_eq (G := G) (a := h0) (k := (4, upd g_h0 3 0, r_h0))
  generalize iv_up G h0 _ = G1 at hB hm h9
  have hM := hM.stp hm (by decide)
  generalize hgn_g2 : upd g_h0 _ _ = g2 at h9
  have a_h0 := h9
  have e9_g2 : 0 = g2 3 := by rw [← hgn_g2]; simp [upd]
  refine lv_iconst (v := 0) hx hb dX4_gather_5 (by decide) ?_
  refine lv_istore_n (lv' := [(2, .int 0), (0, .ref h0), (1, .int x_0)]) hx hb dX4_gather_6 rfl hl (by decide) rfl (fun ls hl => ?_)
  have L_7 : ∀ (n_7 : Nat) (G6 : iv_G) (hM : iv_Md [4, 32] G G6) (H : Heap) (locs : List Loc) (hB : iv_B iv_sh D classes tys base G6 s.heap H locs) (g4 : Nat → Int32) (r5 : Nat → Nat) (a_h0 : G6 h0 = some (4, g4, r5)) (x3 : Int32) (i_x3 : iv_R 0 10 x3) (hn_7 : (11 - x3.toInt).toNat < n_7) (ls : Array Slot) (hl : lv_has ls 3 [(2, .int x3), (0, .ref h0), (1, .int x_0)]), W p l e ({ frames := 0, cells := 0, slots := 0, locals := 0 } : Room) s m args below meth c H locs 0 0 (MQ below (iv_Qv iv_sh D classes tys base (fun G' => iv_Md [4, 32] G G')) args s 0 0 (iv_A base)) (F0 m 7 ls []) := by
    intro n_7
    induction n_7 with
    | zero => intro G6 hM H locs hB g4 r5 a_h0 x3 i_x3 hn_7 ls hl; exact absurd hn_7 (Nat.not_lt_zero _)
    | succ n_7 ih_7 =>
      intro G6 hM H locs hB g4 r5 a_h0 x3 i_x3 hn_7 ls hl
      refine lv_iload_n hx hb dX4_gather_7 rfl (lv_at hl 0 rfl) ?_
      refine lv_aload_n hx hb dX4_gather_8 rfl (lv_at hl 1 rfl) ?_
      refine iv_getr X ft_X4 hB a_h0 sh_4 0 (by decide) rfl k_fl_X4_21 dX4_gather_9 (fun b7 g_b7 r_b7 e_b7 a_b7 => ?_)
      refine iv_geti X ft_X5 hB a_b7 sh_5 1 (by decide) rfl k_fl_X4_33 dX4_gather_12 (fun x8 e_x8 i_x8 => ?_)
      refine lv_icmp_ge (tgt := 62) hx hb dX4_gather_15 (by decide) (fun c9 => ?_) (fun c9 => ?_)
      · skip
        exact iv_vret X hr hlocks hB hM dX4_gather_62
      · skip
        have i9_x3 : iv_R 0 9 x3 := (i_x3.cutHi (n := 9) (iv_lt_r (iv_nle c9) i_x8 (by decide)))
        have i10_x8 : iv_R 1 10 x8 := (i_x8.cutLo (n := 1) (iv_lt_l (iv_nle c9) i_x3 (by decide)))
        refine lv_iload_n hx hb dX4_gather_18 rfl (lv_at hl 2 rfl) ?_
        refine lv_iload_n hx hb dX4_gather_19 rfl (lv_at hl 0 rfl) ?_
        refine lv_iushr hx hb dX4_gather_20 rfl ?_
        refine lv_topi (fun x12 e_x12 => ?_)
        have i_x12 := iv_R.all x12
        refine lv_iconst (v := 1) hx hb dX4_gather_21 (by decide) ?_
        refine iv_iand_r hx hb q_1 (by decide) dX4_gather_22 (fun x13 e_x13 i_x13 => ?_)
        refine lv_iconst (v := 1) hx hb dX4_gather_23 (by decide) ?_
        refine lv_icmp_ne (tgt := 56) hx hb dX4_gather_24 (by decide) (fun c14 => ?_) (fun c14 => ?_)
        · skip
          have i14_x13 : iv_R 0 0 x13 := iv_ne_hi c14 i_x13 q_1 (by decide)
          refine iv_iinc hx hb i9_x3 (lo := 1) (hi := 10) (by decide) dX4_gather_56 hl (k := 0) rfl (by decide) (fun x16 ls e_x16 i_x16 hl => ?_)
          have hl : lv_has ls 3 [(2, .int x16), (0, .ref h0), (1, .int x_0)] := hl
          refine lv_goto (tgt := 7) hx hb dX4_gather_59 (by decide) ?_
          exact ih_7 G6 hM _ _ hB g4 r5 a_h0 x16 (i_x16.wk (by decide)) (iv_mup (c := 1) i_x3 (by decide) (by decide) (by omega) hn_7) _ (lv_sub hl [0, 1, 2] rfl)
        · skip
          have i16_x13 : iv_R 1 1 x13 := (i_x13.cutLo (n := 1) (iv_eq_r c14 q_1).1)
          refine lv_aload_n hx hb dX4_gather_27 rfl (lv_at hl 1 rfl) ?_
          refine iv_geti X ft_X4 hB a_h0 sh_4 3 (by decide) rfl k_fl_X4_61 dX4_gather_28 (fun x18 e_x18 i_x18 => ?_)
          refine lv_bipush (v := 8) hx hb dX4_gather_31 (by decide) ?_
          refine lv_icmp_ge (tgt := 56) hx hb dX4_gather_33 (by decide) (fun c19 => ?_) (fun c19 => ?_)
          · skip
            have i19_x18 : iv_R 8 8 x18 := (i_x18.cutLo (n := 8) (iv_le_l c19 q_8))
            refine iv_iinc hx hb i9_x3 (lo := 1) (hi := 10) (by decide) dX4_gather_56 hl (k := 0) rfl (by decide) (fun x21 ls e_x21 i_x21 hl => ?_)
            have hl : lv_has ls 3 [(2, .int x21), (0, .ref h0), (1, .int x_0)] := hl
            refine lv_goto (tgt := 7) hx hb dX4_gather_59 (by decide) ?_
            exact ih_7 G6 hM _ _ hB g4 r5 a_h0 x21 (i_x21.wk (by decide)) (iv_mup (c := 1) i_x3 (by decide) (by decide) (by omega) hn_7) _ (lv_sub hl [0, 1, 2] rfl)
          · skip
            have i21_x18 : iv_R 0 7 x18 := (i_x18.cutHi (n := 7) (iv_lt_r (iv_nle c19) q_8 (by decide)))
            refine lv_aload_n hx hb dX4_gather_36 rfl (lv_at hl 1 rfl) ?_
            refine iv_getr X ft_X4 hB a_h0 sh_4 2 (by decide) rfl k_fl_X4_15 dX4_gather_37 (fun b23 g_b23 r_b23 e_b23 a_b23 => ?_)
            refine lv_aload_n hx hb dX4_gather_40 rfl (lv_at hl 1 rfl) ?_
            refine iv_geti0 X ft_X4 hB a_h0 sh_4 3 (by decide) rfl k_fl_X4_61 dX4_gather_41 e_x18 ?_
            refine lv_iload_n hx hb dX4_gather_44 rfl (lv_at hl 0 rfl) ?_
            refine iv_ast X hB a_b23 sh_32 (iv_in i21_x18 (by decide)) i9_x3 dX4_gather_45 (fun H locs hB => ?_)
            have hm := iv_Md.ast (j := x18.toNatClampNeg) (x := x3) a_b23 rfl (by decide)
            have h9 := iv_up_eq (G := G6) (a := b23) (k := (32, upd g_b23 x18.toNatClampNeg x3, r_b23))
            generalize iv_up G6 b23 _ = G24 at hB hm h9
            have hM := hM.stp hm (by decide)
            have a_h0 := hm.at a_h0 (by decide)
            refine lv_aload_n hx hb dX4_gather_46 rfl (lv_at hl 1 rfl) ?_
            refine lv_dup hx hb dX4_gather_47 rfl ?_
            refine iv_geti0 X ft_X4 hB a_h0 sh_4 3 (by decide) rfl k_fl_X4_61 dX4_gather_48 e_x18 ?_
            refine lv_iconst (v := 1) hx hb dX4_gather_51 (by decide) ?_
            refine iv_iadd hx hb i21_x18 q_1 (lo := 1) (hi := 8) (by decide) dX4_gather_52 (fun x26 e_x26 i_x26 => ?_)
            refine iv_puti X ft_X4 hB a_h0 sh_4 3 (by decide) rfl rfl k_fl_X4_61 rfl (i_x26.wk (by decide)) rfl rfl dX4_gather_53 (fun H locs hB => ?_)
            have hm := iv_Md.put (x := x26) a_h0 (j := 3) (by decide) (by decide)
            have h9 := iv_up_eq (G := G24) (a := h0) (k := (4, upd g4 3 x26, r5))
            generalize iv_up G24 h0 _ = G27 at hB hm h9
            have hM := hM.stp hm (by decide)
            generalize hgn_g28 : upd g4 _ _ = g28 at h9
            have a_h0 := h9
            have e9_g28 : x26 = g28 3 := by rw [← hgn_g28]; simp [upd]
            refine iv_iinc hx hb i9_x3 (lo := 1) (hi := 10) (by decide) dX4_gather_56 hl (k := 0) rfl (by decide) (fun x29 ls e_x29 i_x29 hl => ?_)
            have hl : lv_has ls 3 [(2, .int x29), (0, .ref h0), (1, .int x_0)] := hl
            refine lv_goto (tgt := 7) hx hb dX4_gather_59 (by decide) ?_
            exact ih_7 G27 hM _ _ hB g28 r5 a_h0 x29 (i_x29.wk (by decide)) (iv_mup (c := 1) i_x3 (by decide) (by decide) (by omega) hn_7) _ (lv_sub hl [0, 1, 2] rfl)
  exact L_7 _ G1 hM _ _ hB g2 r_h0 a_h0 0 (q_0.wk (by decide)) (Nat.lt_succ_self _) _ (lv_sub hl [0, 1, 2] rfl)
theorem dX4_canFollow_0 : decode cX4_canFollow 0 = .ok (.iload_n 1, 1) := by decide +kernel
theorem dX4_canFollow_1 : decode cX4_canFollow 1 = .ok (.iload_n 3, 1) := by decide +kernel
theorem dX4_canFollow_2 : decode cX4_canFollow 2 = .ok (.iushr, 1) := by decide +kernel
theorem dX4_canFollow_3 : decode cX4_canFollow 3 = .ok (.iconst 1, 1) := by decide +kernel
theorem dX4_canFollow_4 : decode cX4_canFollow 4 = .ok (.iand, 1) := by decide +kernel
theorem dX4_canFollow_5 : decode cX4_canFollow 5 = .ok (.iconst 1, 1) := by decide +kernel
theorem dX4_canFollow_6 : decode cX4_canFollow 6 = .ok (.if_icmp .ne 34, 3) := by decide +kernel
theorem dX4_canFollow_9 : decode cX4_canFollow 9 = .ok (.iload_n 2, 1) := by decide +kernel
theorem dX4_canFollow_10 : decode cX4_canFollow 10 = .ok (.iconst (-1), 1) := by decide +kernel
theorem dX4_canFollow_11 : decode cX4_canFollow 11 = .ok (.if_icmp .eq 25, 3) := by decide +kernel
theorem dX4_canFollow_14 : decode cX4_canFollow 14 = .ok (.aload_n 0, 1) := by decide +kernel
theorem dX4_canFollow_15 : decode cX4_canFollow 15 = .ok (.getfield 21, 3) := by decide +kernel
theorem dX4_canFollow_18 : decode cX4_canFollow 18 = .ok (.aload_n 0, 1) := by decide +kernel
theorem dX4_canFollow_19 : decode cX4_canFollow 19 = .ok (.getfield 15, 3) := by decide +kernel
theorem dX4_canFollow_22 : decode cX4_canFollow 22 = .ok (.iload_n 2, 1) := by decide +kernel
theorem dX4_canFollow_23 : decode cX4_canFollow 23 = .ok (.iaload, 1) := by decide +kernel
theorem dX4_canFollow_24 : decode cX4_canFollow 24 = .ok (.aload_n 0, 1) := by decide +kernel
theorem dX4_canFollow_25 : decode cX4_canFollow 25 = .ok (.getfield 15, 3) := by decide +kernel
theorem dX4_canFollow_28 : decode cX4_canFollow 28 = .ok (.iload_n 3, 1) := by decide +kernel
theorem dX4_canFollow_29 : decode cX4_canFollow 29 = .ok (.iaload, 1) := by decide +kernel
theorem dX4_canFollow_30 : decode cX4_canFollow 30 = .ok (.invokevirtual 53, 3) := by decide +kernel
theorem dX4_canFollow_33 : decode cX4_canFollow 33 = .ok (.ifCond .ne 7, 3) := by decide +kernel
theorem dX4_canFollow_36 : decode cX4_canFollow 36 = .ok (.iconst 1, 1) := by decide +kernel
theorem dX4_canFollow_37 : decode cX4_canFollow 37 = .ok (.goto 4, 3) := by decide +kernel
theorem dX4_canFollow_40 : decode cX4_canFollow 40 = .ok (.iconst 0, 1) := by decide +kernel
theorem dX4_canFollow_41 : decode cX4_canFollow 41 = .ok (.ireturn, 1) := by decide +kernel
set_option maxHeartbeats 4000000 in
set_option maxRecDepth 100000 in
theorem c_X4_canFollow (l : Launch) (D : va_G) (tys : List (ClassId × FieldType)) (base : Nat) (G : iv_G) (h0 : Nat) (g_h0 : Nat → Int32) (r_h0 : Nat → Nat) (a_h0 : G h0 = some (4, g_h0, r_h0)) (x_0 : Int32) (i_x_0 : iv_R 0 255 x_0) (x_1 : Int32) (i_x_1 : iv_R (-1) 7 x_1) (x_2 : Int32) (i_x_2 : iv_R 0 7 x_2) : Met l yX4_canFollow (Cond.code yX4_canFollow cX4_canFollow 4 (some .boolean) :: iv_W0) ({ frames := 2, cells := 0, slots := 0, locals := 35 }) (iv_Pc iv_sh D classes tys base G [.ref h0, .int x_0, .int x_1, .int x_2]) (iv_Qi iv_sh D classes tys base (fun v G' => G = G' ∧ iv_R 0 1 v)) 0 0 (iv_A base) := by
  refine iv_head (by decide) (Nat.le_of_ble_eq_true rfl) ?_
  intro p e s m args below meth c ls X hr hlocks hname hB hl
  have X := X
  have hx := X.1.1
  have hb := X.1.2.1
  have hl : lv_has ls 4 [(0, .ref h0), (1, .int x_0), (2, .int x_1), (3, .int x_2)] := hl
  refine lv_iload_n hx hb dX4_canFollow_0 rfl (lv_at hl 1 rfl) ?_
  refine lv_iload_n hx hb dX4_canFollow_1 rfl (lv_at hl 3 rfl) ?_
  refine lv_iushr hx hb dX4_canFollow_2 rfl ?_
  refine lv_topi (fun x1 e_x1 => ?_)
  have i_x1 := iv_R.all x1
  refine lv_iconst (v := 1) hx hb dX4_canFollow_3 (by decide) ?_
  refine iv_iand_r hx hb q_1 (by decide) dX4_canFollow_4 (fun x2 e_x2 i_x2 => ?_)
  refine lv_iconst (v := 1) hx hb dX4_canFollow_5 (by decide) ?_
  refine lv_icmp_ne (tgt := 40) hx hb dX4_canFollow_6 (by decide) (fun c3 => ?_) (fun c3 => ?_)
  · skip
    have i3_x2 : iv_R 0 0 x2 := iv_ne_hi c3 i_x2 q_1 (by decide)
    refine lv_iconst (v := 0) hx hb dX4_canFollow_40 (by decide) ?_
    exact iv_zret X hr hlocks hB (q_0.wk (by decide)) ⟨rfl, (q_0.wk (by decide))⟩ dX4_canFollow_41
  · skip
    have i4_x2 : iv_R 1 1 x2 := (i_x2.cutLo (n := 1) (iv_eq_r c3 q_1).1)
    refine lv_iload_n hx hb dX4_canFollow_9 rfl (lv_at hl 2 rfl) ?_
    refine lv_iconst (v := (-1)) hx hb dX4_canFollow_10 (by decide) ?_
    refine lv_icmp_eq (tgt := 36) hx hb dX4_canFollow_11 (by decide) (fun c6 => ?_) (fun c6 => ?_)
    · skip
      have i6_x_1 : iv_R (-1) (-1) x_1 := (i_x_1.cutHi (n := (-1)) (iv_eq_r c6 q_n1).2)
      refine lv_iconst (v := 1) hx hb dX4_canFollow_36 (by decide) ?_
      refine lv_goto (tgt := 41) hx hb dX4_canFollow_37 (by decide) ?_
      exact iv_zret X hr hlocks hB (q_1.wk (by decide)) ⟨rfl, (q_1.wk (by decide))⟩ dX4_canFollow_41
    · skip
      have i7_x_1 : iv_R 0 7 x_1 := iv_ne_lo c6 i_x_1 q_n1 (by decide)
      refine lv_aload_n hx hb dX4_canFollow_14 rfl (lv_at hl 0 rfl) ?_
      refine iv_getr X ft_X4 hB a_h0 sh_4 0 (by decide) rfl k_fl_X4_21 dX4_canFollow_15 (fun b9 g_b9 r_b9 e_b9 a_b9 => ?_)
      refine lv_aload_n hx hb dX4_canFollow_18 rfl (lv_at hl 0 rfl) ?_
      refine iv_getr X ft_X4 hB a_h0 sh_4 2 (by decide) rfl k_fl_X4_15 dX4_canFollow_19 (fun b10 g_b10 r_b10 e_b10 a_b10 => ?_)
      refine lv_iload_n hx hb dX4_canFollow_22 rfl (lv_at hl 2 rfl) ?_
      refine iv_ald X hB a_b10 sh_32 (iv_in i7_x_1 (by decide)) dX4_canFollow_23 (fun x11 e_x11 i_x11 => ?_)
      refine lv_aload_n hx hb dX4_canFollow_24 rfl (lv_at hl 0 rfl) ?_
      refine iv_getr0 X ft_X4 hB a_h0 sh_4 2 (by decide) rfl k_fl_X4_15 dX4_canFollow_25 e_b10 ?_
      refine lv_iload_n hx hb dX4_canFollow_28 rfl (lv_at hl 3 rfl) ?_
      refine iv_ald X hB a_b10 sh_32 (iv_in i_x_2 (by decide)) dX4_canFollow_29 (fun x12 e_x12 i_x12 => ?_)
      refine iv_cVi X k_good k_mf_X5_areNear k_im_X5_areNear k_sel_X5_areNear k_ml_X4_53 ft_X5 hB a_b9 sh_5 (As := [.int x11, .int x12]) (c_X5_areNear l D tys base G b9 g_b9 r_b9 a_b9 x11 i_x11 x12 i_x12) ⟨rfl, rfl⟩ ⟨Nat.le_of_ble_eq_true rfl, Nat.le_of_ble_eq_true rfl⟩ ⟨Nat.le_of_ble_eq_true rfl, Nat.le_of_ble_eq_true rfl⟩ rfl rfl hl.1 (Nat.le_of_ble_eq_true rfl) dX4_canFollow_30 (fun x13 G9 H locs hq hB => ?_)
      obtain ⟨rfl, i_x13⟩ := hq
      refine lv_if_ne (tgt := 40) hx hb dX4_canFollow_33 (by decide) (fun c14 => ?_) (fun c14 => ?_)
      · skip
        have i14_x13 : iv_R 1 1 x13 := iv_ne_lo c14 i_x13 q_0 (by decide)
        refine lv_iconst (v := 0) hx hb dX4_canFollow_40 (by decide) ?_
        exact iv_zret X hr hlocks hB (q_0.wk (by decide)) ⟨rfl, (q_0.wk (by decide))⟩ dX4_canFollow_41
      · skip
        have i15_x13 : iv_R 0 0 x13 := (i_x13.cutHi (n := 0) (iv_eq_r c14 q_0).2)
        refine lv_iconst (v := 1) hx hb dX4_canFollow_36 (by decide) ?_
        refine lv_goto (tgt := 41) hx hb dX4_canFollow_37 (by decide) ?_
        exact iv_zret X hr hlocks hB (q_1.wk (by decide)) ⟨rfl, (q_1.wk (by decide))⟩ dX4_canFollow_41
theorem dX4_waysAfter_0 : decode cX4_waysAfter 0 = .ok (.iload_n 1, 1) := by decide +kernel
theorem dX4_waysAfter_1 : decode cX4_waysAfter 1 = .ok (.ifCond .ne 5, 3) := by decide +kernel
theorem dX4_waysAfter_4 : decode cX4_waysAfter 4 = .ok (.iconst 1, 1) := by decide +kernel
theorem dX4_waysAfter_5 : decode cX4_waysAfter 5 = .ok (.ireturn, 1) := by decide +kernel
theorem dX4_waysAfter_6 : decode cX4_waysAfter 6 = .ok (.iconst 0, 1) := by decide +kernel
theorem dX4_waysAfter_7 : decode cX4_waysAfter 7 = .ok (.istore_n 3, 1) := by decide +kernel
theorem dX4_waysAfter_8 : decode cX4_waysAfter 8 = .ok (.iconst 0, 1) := by decide +kernel
theorem dX4_waysAfter_9 : decode cX4_waysAfter 9 = .ok (.istore 4, 2) := by decide +kernel
theorem dX4_waysAfter_11 : decode cX4_waysAfter 11 = .ok (.iload 4, 2) := by decide +kernel
theorem dX4_waysAfter_13 : decode cX4_waysAfter 13 = .ok (.aload_n 0, 1) := by decide +kernel
theorem dX4_waysAfter_14 : decode cX4_waysAfter 14 = .ok (.getfield 61, 3) := by decide +kernel
theorem dX4_waysAfter_17 : decode cX4_waysAfter 17 = .ok (.if_icmp .ge 40, 3) := by decide +kernel
theorem dX4_waysAfter_20 : decode cX4_waysAfter 20 = .ok (.aload_n 0, 1) := by decide +kernel
theorem dX4_waysAfter_21 : decode cX4_waysAfter 21 = .ok (.iload_n 1, 1) := by decide +kernel
theorem dX4_waysAfter_22 : decode cX4_waysAfter 22 = .ok (.iload_n 2, 1) := by decide +kernel
theorem dX4_waysAfter_23 : decode cX4_waysAfter 23 = .ok (.iload 4, 2) := by decide +kernel
theorem dX4_waysAfter_25 : decode cX4_waysAfter 25 = .ok (.invokevirtual 67, 3) := by decide +kernel
theorem dX4_waysAfter_28 : decode cX4_waysAfter 28 = .ok (.ifCond .eq 23, 3) := by decide +kernel
theorem dX4_waysAfter_31 : decode cX4_waysAfter 31 = .ok (.iload_n 3, 1) := by decide +kernel
theorem dX4_waysAfter_32 : decode cX4_waysAfter 32 = .ok (.aload_n 0, 1) := by decide +kernel
theorem dX4_waysAfter_33 : decode cX4_waysAfter 33 = .ok (.getfield 18, 3) := by decide +kernel
theorem dX4_waysAfter_36 : decode cX4_waysAfter 36 = .ok (.iload_n 1, 1) := by decide +kernel
theorem dX4_waysAfter_37 : decode cX4_waysAfter 37 = .ok (.iconst 1, 1) := by decide +kernel
theorem dX4_waysAfter_38 : decode cX4_waysAfter 38 = .ok (.iload 4, 2) := by decide +kernel
theorem dX4_waysAfter_40 : decode cX4_waysAfter 40 = .ok (.ishl, 1) := by decide +kernel
theorem dX4_waysAfter_41 : decode cX4_waysAfter 41 = .ok (.ixor, 1) := by decide +kernel
theorem dX4_waysAfter_42 : decode cX4_waysAfter 42 = .ok (.bipush 8, 2) := by decide +kernel
theorem dX4_waysAfter_44 : decode cX4_waysAfter 44 = .ok (.imul, 1) := by decide +kernel
theorem dX4_waysAfter_45 : decode cX4_waysAfter 45 = .ok (.iload 4, 2) := by decide +kernel
theorem dX4_waysAfter_47 : decode cX4_waysAfter 47 = .ok (.iadd, 1) := by decide +kernel
theorem dX4_waysAfter_48 : decode cX4_waysAfter 48 = .ok (.iaload, 1) := by decide +kernel
theorem dX4_waysAfter_49 : decode cX4_waysAfter 49 = .ok (.iadd, 1) := by decide +kernel
theorem dX4_waysAfter_50 : decode cX4_waysAfter 50 = .ok (.istore_n 3, 1) := by decide +kernel
theorem dX4_waysAfter_51 : decode cX4_waysAfter 51 = .ok (.iinc 4 1, 3) := by decide +kernel
theorem dX4_waysAfter_54 : decode cX4_waysAfter 54 = .ok (.goto (-43), 3) := by decide +kernel
theorem dX4_waysAfter_57 : decode cX4_waysAfter 57 = .ok (.iload_n 3, 1) := by decide +kernel
theorem dX4_waysAfter_58 : decode cX4_waysAfter 58 = .ok (.ireturn, 1) := by decide +kernel
set_option maxHeartbeats 4000000 in
set_option maxRecDepth 100000 in
theorem c_X4_waysAfter (l : Launch) (D : va_G) (tys : List (ClassId × FieldType)) (base : Nat) (G : iv_G) (h0 : Nat) (g_h0 : Nat → Int32) (r_h0 : Nat → Nat) (a_h0 : G h0 = some (4, g_h0, r_h0)) (x_0 : Int32) (i_x_0 : iv_R 0 255 x_0) (x_1 : Int32) (i_x_1 : iv_R (-1) 7 x_1) : Met l yX4_waysAfter (Cond.code yX4_waysAfter cX4_waysAfter 5 (some .int) :: iv_W0) ({ frames := 3, cells := 0, slots := 0, locals := 58 }) (iv_Pc iv_sh D classes tys base G [.ref h0, .int x_0, .int x_1]) (iv_Qi iv_sh D classes tys base (fun v G' => G = G' ∧ iv_R (-2147483648) 2147483647 v)) 0 0 (iv_A base) := by
  refine iv_head (by decide) (Nat.le_of_ble_eq_true rfl) ?_
  intro p e s m args below meth c ls X hr hlocks hname hB hl
  have X := X
  have hx := X.1.1
  have hb := X.1.2.1
  have hl : lv_has ls 5 [(0, .ref h0), (1, .int x_0), (2, .int x_1)] := hl
  refine lv_iload_n hx hb dX4_waysAfter_0 rfl (lv_at hl 1 rfl) ?_
  refine lv_if_ne (tgt := 6) hx hb dX4_waysAfter_1 (by decide) (fun c1 => ?_) (fun c1 => ?_)
  · skip
    have i1_x_0 : iv_R 1 255 x_0 := iv_ne_lo c1 i_x_0 q_0 (by decide)
    refine lv_iconst (v := 0) hx hb dX4_waysAfter_6 (by decide) ?_
    refine lv_istore_n (lv' := [(3, .int 0), (0, .ref h0), (1, .int x_0), (2, .int x_1)]) hx hb dX4_waysAfter_7 rfl hl (by decide) rfl (fun ls hl => ?_)
    refine lv_iconst (v := 0) hx hb dX4_waysAfter_8 (by decide) ?_
    refine lv_istore (lv' := [(4, .int 0), (3, .int 0), (0, .ref h0), (1, .int x_0), (2, .int x_1)]) hx hb dX4_waysAfter_9 hl (by decide) rfl (fun ls hl => ?_)
    have L_11 : ∀ (n_11 : Nat) (H : Heap) (locs : List Loc) (hB : iv_B iv_sh D classes tys base G s.heap H locs) (x3 : Int32) (i_x3 : iv_R (-2147483648) 2147483647 x3) (x4 : Int32) (i_x4 : iv_R 0 8 x4) (hn_11 : (9 - x4.toInt).toNat < n_11) (ls : Array Slot) (hl : lv_has ls 5 [(4, .int x4), (3, .int x3), (0, .ref h0), (1, .int x_0), (2, .int x_1)]), W p l e ({ frames := 3, cells := 0, slots := 0, locals := 58 } : Room) s m args below meth c H locs 0 0 (MQ below (iv_Qi iv_sh D classes tys base (fun v G' => G = G' ∧ iv_R (-2147483648) 2147483647 v)) args s 0 0 (iv_A base)) (F0 m 11 ls []) := by
      intro n_11
      induction n_11 with
      | zero => intro H locs hB x3 i_x3 x4 i_x4 hn_11 ls hl; exact absurd hn_11 (Nat.not_lt_zero _)
      | succ n_11 ih_11 =>
        intro H locs hB x3 i_x3 x4 i_x4 hn_11 ls hl
        refine lv_iload hx hb dX4_waysAfter_11 (lv_at hl 0 rfl) ?_
        refine lv_aload_n hx hb dX4_waysAfter_13 rfl (lv_at hl 2 rfl) ?_
        refine iv_geti X ft_X4 hB a_h0 sh_4 3 (by decide) rfl k_fl_X4_61 dX4_waysAfter_14 (fun x5 e_x5 i_x5 => ?_)
        refine lv_icmp_ge (tgt := 57) hx hb dX4_waysAfter_17 (by decide) (fun c6 => ?_) (fun c6 => ?_)
        · skip
          refine lv_iload_n hx hb dX4_waysAfter_57 rfl (lv_at hl 1 rfl) ?_
          exact iv_iret X hr hlocks hB ⟨rfl, i_x3⟩ dX4_waysAfter_58
        · skip
          have i6_x4 : iv_R 0 7 x4 := (i_x4.cutHi (n := 7) (iv_lt_r (iv_nle c6) i_x5 (by decide)))
          have i7_x5 : iv_R 1 8 x5 := (i_x5.cutLo (n := 1) (iv_lt_l (iv_nle c6) i_x4 (by decide)))
          refine lv_aload_n hx hb dX4_waysAfter_20 rfl (lv_at hl 2 rfl) ?_
          refine lv_iload_n hx hb dX4_waysAfter_21 rfl (lv_at hl 3 rfl) ?_
          refine lv_iload_n hx hb dX4_waysAfter_22 rfl (lv_at hl 4 rfl) ?_
          refine lv_iload hx hb dX4_waysAfter_23 (lv_at hl 0 rfl) ?_
          refine iv_cVi X k_good k_mf_X4_canFollow k_im_X4_canFollow k_sel_X4_canFollow k_ml_X4_67 ft_X4 hB a_h0 sh_4 (As := [.int x_0, .int x_1, .int x4]) (c_X4_canFollow l D tys base G h0 g_h0 r_h0 a_h0 x_0 (i1_x_0.wk (by decide)) x_1 i_x_1 x4 i6_x4) ⟨rfl, rfl⟩ ⟨Nat.le_of_ble_eq_true rfl, Nat.le_of_ble_eq_true rfl⟩ ⟨Nat.le_of_ble_eq_true rfl, Nat.le_of_ble_eq_true rfl⟩ rfl rfl hl.1 (Nat.le_of_ble_eq_true rfl) dX4_waysAfter_25 (fun x9 G9 H locs hq hB => ?_)
          obtain ⟨rfl, i_x9⟩ := hq
          refine lv_if_eq (tgt := 51) hx hb dX4_waysAfter_28 (by decide) (fun c10 => ?_) (fun c10 => ?_)
          · skip
            have i10_x9 : iv_R 0 0 x9 := (i_x9.cutHi (n := 0) (iv_eq_r c10 q_0).2)
            refine iv_iinc hx hb i6_x4 (lo := 1) (hi := 8) (by decide) dX4_waysAfter_51 hl (k := 0) rfl (by decide) (fun x12 ls e_x12 i_x12 hl => ?_)
            have hl : lv_has ls 5 [(4, .int x12), (3, .int x3), (0, .ref h0), (1, .int x_0), (2, .int x_1)] := hl
            refine lv_goto (tgt := 11) hx hb dX4_waysAfter_54 (by decide) ?_
            exact ih_11 _ _ hB x3 i_x3 x12 (i_x12.wk (by decide)) (iv_mup (c := 1) i_x4 (by decide) (by decide) (by omega) hn_11) _ (lv_sub hl [0, 1, 2, 3, 4] rfl)
          · skip
            have i12_x9 : iv_R 1 1 x9 := iv_ne_lo c10 i_x9 q_0 (by decide)
            refine lv_iload_n hx hb dX4_waysAfter_31 rfl (lv_at hl 1 rfl) ?_
            refine lv_aload_n hx hb dX4_waysAfter_32 rfl (lv_at hl 2 rfl) ?_
            refine iv_getr X ft_X4 hB a_h0 sh_4 4 (by decide) rfl k_fl_X4_18 dX4_waysAfter_33 (fun b14 g_b14 r_b14 e_b14 a_b14 => ?_)
            refine lv_iload_n hx hb dX4_waysAfter_36 rfl (lv_at hl 3 rfl) ?_
            refine lv_iconst (v := 1) hx hb dX4_waysAfter_37 (by decide) ?_
            refine lv_iload hx hb dX4_waysAfter_38 (lv_at hl 0 rfl) ?_
            refine iv_shl1 hx hb i6_x4 (lo := 1) (hi := 128) (by decide) dX4_waysAfter_40 (fun x15 e_x15 i_x15 => ?_)
            refine iv_ixor hx hb i1_x_0 i_x15 (k := 8) (hi := 255) (by decide) dX4_waysAfter_41 (fun x16 e_x16 i_x16 => ?_)
            refine lv_bipush (v := 8) hx hb dX4_waysAfter_42 (by decide) ?_
            refine iv_imul hx hb i_x16 q_8 (lo := 0) (hi := 2040) (by decide) dX4_waysAfter_44 (fun x17 e_x17 i_x17 => ?_)
            refine lv_iload hx hb dX4_waysAfter_45 (lv_at hl 0 rfl) ?_
            refine iv_iadd hx hb i_x17 i6_x4 (lo := 0) (hi := 2047) (by decide) dX4_waysAfter_47 (fun x18 e_x18 i_x18 => ?_)
            refine iv_ald X hB a_b14 sh_33 (iv_in i_x18 (by decide)) dX4_waysAfter_48 (fun x19 e_x19 i_x19 => ?_)
            refine lv_iadd hx hb dX4_waysAfter_49 ?_
            refine lv_topi (fun x20 e_x20 => ?_)
            have i_x20 := iv_R.all x20
            refine lv_istore_n (lv' := [(3, .int x20), (4, .int x4), (0, .ref h0), (1, .int x_0), (2, .int x_1)]) hx hb dX4_waysAfter_50 rfl hl (by decide) rfl (fun ls hl => ?_)
            refine iv_iinc hx hb i6_x4 (lo := 1) (hi := 8) (by decide) dX4_waysAfter_51 hl (k := 1) rfl (by decide) (fun x21 ls e_x21 i_x21 hl => ?_)
            have hl : lv_has ls 5 [(4, .int x21), (3, .int x20), (0, .ref h0), (1, .int x_0), (2, .int x_1)] := hl
            refine lv_goto (tgt := 11) hx hb dX4_waysAfter_54 (by decide) ?_
            exact ih_11 _ _ hB x20 i_x20 x21 (i_x21.wk (by decide)) (iv_mup (c := 1) i_x4 (by decide) (by decide) (by omega) hn_11) _ (lv_sub hl [0, 1, 2, 3, 4] rfl)
    exact L_11 _ _ _ hB 0 (q_0.wk (by decide)) 0 (q_0.wk (by decide)) (Nat.lt_succ_self _) _ (lv_sub hl [0, 1, 2, 3, 4] rfl)
  · skip
    have i21_x_0 : iv_R 0 0 x_0 := (i_x_0.cutHi (n := 0) (iv_eq_r c1 q_0).2)
    refine lv_iconst (v := 1) hx hb dX4_waysAfter_4 (by decide) ?_
    exact iv_iret X hr hlocks hB ⟨rfl, (q_1.wk (by decide))⟩ dX4_waysAfter_5
