theorem dX12_look_0 : decode cX12_look 0 = .ok (.iload_n 1, 1) := by decide +kernel
theorem dX12_look_1 : decode cX12_look 1 = .ok (.tableswitch 170 0 12 #[67, 76, 83, 90, 99, 106, 115, 122, 129, 138, 147, 156, 165], 67) := by decide +kernel
theorem dX12_look_68 : decode cX12_look 68 = .ok (.aload_n 0, 1) := by decide +kernel
theorem dX12_look_69 : decode cX12_look 69 = .ok (.getfield 7, 3) := by decide +kernel
theorem dX12_look_72 : decode cX12_look 72 = .ok (.sipush 146, 3) := by decide +kernel
theorem dX12_look_75 : decode cX12_look 75 = .ok (.iaload, 1) := by decide +kernel
theorem dX12_look_76 : decode cX12_look 76 = .ok (.ireturn, 1) := by decide +kernel
theorem dX12_look_77 : decode cX12_look 77 = .ok (.aload_n 0, 1) := by decide +kernel
theorem dX12_look_78 : decode cX12_look 78 = .ok (.getfield 7, 3) := by decide +kernel
theorem dX12_look_81 : decode cX12_look 81 = .ok (.iconst 4, 1) := by decide +kernel
theorem dX12_look_82 : decode cX12_look 82 = .ok (.iaload, 1) := by decide +kernel
theorem dX12_look_83 : decode cX12_look 83 = .ok (.ireturn, 1) := by decide +kernel
theorem dX12_look_84 : decode cX12_look 84 = .ok (.aload_n 0, 1) := by decide +kernel
theorem dX12_look_85 : decode cX12_look 85 = .ok (.getfield 7, 3) := by decide +kernel
theorem dX12_look_88 : decode cX12_look 88 = .ok (.iconst 0, 1) := by decide +kernel
theorem dX12_look_89 : decode cX12_look 89 = .ok (.iaload, 1) := by decide +kernel
theorem dX12_look_90 : decode cX12_look 90 = .ok (.ireturn, 1) := by decide +kernel
theorem dX12_look_91 : decode cX12_look 91 = .ok (.aload_n 0, 1) := by decide +kernel
theorem dX12_look_92 : decode cX12_look 92 = .ok (.getfield 7, 3) := by decide +kernel
theorem dX12_look_95 : decode cX12_look 95 = .ok (.sipush 147, 3) := by decide +kernel
theorem dX12_look_98 : decode cX12_look 98 = .ok (.iaload, 1) := by decide +kernel
theorem dX12_look_99 : decode cX12_look 99 = .ok (.ireturn, 1) := by decide +kernel
theorem dX12_look_100 : decode cX12_look 100 = .ok (.aload_n 0, 1) := by decide +kernel
theorem dX12_look_101 : decode cX12_look 101 = .ok (.getfield 7, 3) := by decide +kernel
theorem dX12_look_104 : decode cX12_look 104 = .ok (.iconst 1, 1) := by decide +kernel
theorem dX12_look_105 : decode cX12_look 105 = .ok (.iaload, 1) := by decide +kernel
theorem dX12_look_106 : decode cX12_look 106 = .ok (.ireturn, 1) := by decide +kernel
theorem dX12_look_107 : decode cX12_look 107 = .ok (.aload_n 0, 1) := by decide +kernel
theorem dX12_look_108 : decode cX12_look 108 = .ok (.getfield 7, 3) := by decide +kernel
theorem dX12_look_111 : decode cX12_look 111 = .ok (.sipush 148, 3) := by decide +kernel
theorem dX12_look_114 : decode cX12_look 114 = .ok (.iaload, 1) := by decide +kernel
theorem dX12_look_115 : decode cX12_look 115 = .ok (.ireturn, 1) := by decide +kernel
theorem dX12_look_116 : decode cX12_look 116 = .ok (.aload_n 0, 1) := by decide +kernel
theorem dX12_look_117 : decode cX12_look 117 = .ok (.getfield 7, 3) := by decide +kernel
theorem dX12_look_120 : decode cX12_look 120 = .ok (.iconst 3, 1) := by decide +kernel
theorem dX12_look_121 : decode cX12_look 121 = .ok (.iaload, 1) := by decide +kernel
theorem dX12_look_122 : decode cX12_look 122 = .ok (.ireturn, 1) := by decide +kernel
theorem dX12_look_123 : decode cX12_look 123 = .ok (.aload_n 0, 1) := by decide +kernel
theorem dX12_look_124 : decode cX12_look 124 = .ok (.getfield 7, 3) := by decide +kernel
theorem dX12_look_127 : decode cX12_look 127 = .ok (.iconst 2, 1) := by decide +kernel
theorem dX12_look_128 : decode cX12_look 128 = .ok (.iaload, 1) := by decide +kernel
theorem dX12_look_129 : decode cX12_look 129 = .ok (.ireturn, 1) := by decide +kernel
theorem dX12_look_130 : decode cX12_look 130 = .ok (.aload_n 0, 1) := by decide +kernel
theorem dX12_look_131 : decode cX12_look 131 = .ok (.getfield 7, 3) := by decide +kernel
theorem dX12_look_134 : decode cX12_look 134 = .ok (.sipush 149, 3) := by decide +kernel
theorem dX12_look_137 : decode cX12_look 137 = .ok (.iaload, 1) := by decide +kernel
theorem dX12_look_138 : decode cX12_look 138 = .ok (.ireturn, 1) := by decide +kernel
theorem dX12_look_139 : decode cX12_look 139 = .ok (.aload_n 0, 1) := by decide +kernel
theorem dX12_look_140 : decode cX12_look 140 = .ok (.getfield 7, 3) := by decide +kernel
theorem dX12_look_143 : decode cX12_look 143 = .ok (.sipush 150, 3) := by decide +kernel
theorem dX12_look_146 : decode cX12_look 146 = .ok (.iaload, 1) := by decide +kernel
theorem dX12_look_147 : decode cX12_look 147 = .ok (.ireturn, 1) := by decide +kernel
theorem dX12_look_148 : decode cX12_look 148 = .ok (.aload_n 0, 1) := by decide +kernel
theorem dX12_look_149 : decode cX12_look 149 = .ok (.getfield 7, 3) := by decide +kernel
theorem dX12_look_152 : decode cX12_look 152 = .ok (.sipush 151, 3) := by decide +kernel
theorem dX12_look_155 : decode cX12_look 155 = .ok (.iaload, 1) := by decide +kernel
theorem dX12_look_156 : decode cX12_look 156 = .ok (.ireturn, 1) := by decide +kernel
theorem dX12_look_157 : decode cX12_look 157 = .ok (.aload_n 0, 1) := by decide +kernel
theorem dX12_look_158 : decode cX12_look 158 = .ok (.getfield 7, 3) := by decide +kernel
theorem dX12_look_161 : decode cX12_look 161 = .ok (.sipush 152, 3) := by decide +kernel
theorem dX12_look_164 : decode cX12_look 164 = .ok (.iaload, 1) := by decide +kernel
theorem dX12_look_165 : decode cX12_look 165 = .ok (.ireturn, 1) := by decide +kernel
theorem dX12_look_166 : decode cX12_look 166 = .ok (.aload_n 0, 1) := by decide +kernel
theorem dX12_look_167 : decode cX12_look 167 = .ok (.getfield 60, 3) := by decide +kernel
theorem dX12_look_170 : decode cX12_look 170 = .ok (.ireturn, 1) := by decide +kernel
theorem dX12_look_171 : decode cX12_look 171 = .ok (.iload_n 1, 1) := by decide +kernel
theorem dX12_look_172 : decode cX12_look 172 = .ok (.bipush 20, 2) := by decide +kernel
theorem dX12_look_174 : decode cX12_look 174 = .ok (.bipush 35, 2) := by decide +kernel
theorem dX12_look_176 : decode cX12_look 176 = .ok (.invokestatic 56, 3) := by decide +kernel
theorem dX12_look_179 : decode cX12_look 179 = .ok (.ifCond .eq 19, 3) := by decide +kernel
theorem dX12_look_182 : decode cX12_look 182 = .ok (.aload_n 0, 1) := by decide +kernel
theorem dX12_look_183 : decode cX12_look 183 = .ok (.getfield 7, 3) := by decide +kernel
theorem dX12_look_186 : decode cX12_look 186 = .ok (.sipush 190, 3) := by decide +kernel
theorem dX12_look_189 : decode cX12_look 189 = .ok (.iload_n 1, 1) := by decide +kernel
theorem dX12_look_190 : decode cX12_look 190 = .ok (.iadd, 1) := by decide +kernel
theorem dX12_look_191 : decode cX12_look 191 = .ok (.bipush 20, 2) := by decide +kernel
theorem dX12_look_193 : decode cX12_look 193 = .ok (.isub, 1) := by decide +kernel
theorem dX12_look_194 : decode cX12_look 194 = .ok (.iaload, 1) := by decide +kernel
theorem dX12_look_195 : decode cX12_look 195 = .ok (.goto 4, 3) := by decide +kernel
theorem dX12_look_198 : decode cX12_look 198 = .ok (.iconst (-1), 1) := by decide +kernel
theorem dX12_look_199 : decode cX12_look 199 = .ok (.ireturn, 1) := by decide +kernel
set_option maxHeartbeats 4000000 in
set_option maxRecDepth 100000 in
theorem c_X12_look (l : Launch) (D : va_G) (tys : List (ClassId × FieldType)) (base : Nat) (G : iv_G) (h0 : Nat) (g_h0 : Nat → Int32) (r_h0 : Nat → Nat) (a_h0 : G h0 = some (12, g_h0, r_h0)) (x_0 : Int32) (i_x_0 : iv_R (-2147483648) 2147483647 x_0) : Met l yX12_look (Cond.code yX12_look cX12_look 2 (some .int) :: iv_W0) ({ frames := 1, cells := 0, slots := 0, locals := 22 }) (iv_Pc iv_sh D classes tys base G [.ref h0, .int x_0]) (iv_Qi iv_sh D classes tys base (fun v G' => G = G' ∧ iv_R (-2147483648) 2147483647 v)) 0 0 (iv_A base) := by
  refine iv_head (by decide) (Nat.le_of_ble_eq_true rfl) ?_
  intro p e s m args below meth c ls X hr hlocks hname hB hl
  have X := X
  have hx := X.1.1
  have hb := X.1.2.1
  have hl : lv_has ls 2 [(0, .ref h0), (1, .int x_0)] := hl
  refine lv_iload_n hx hb dX12_look_0 rfl (lv_at hl 1 rfl) ?_
  by_cases w1 : x_0.toInt = 0
  · skip
    refine lv_tableIn (tgt := 68) hx hb dX12_look_1 (by omega) (by omega) (by rw [w1]; rfl) (by decide) ?_
    have w1i : iv_R 0 0 x_0 := iv_lit w1
    refine lv_aload_n hx hb dX12_look_68 rfl (lv_at hl 0 rfl) ?_
    refine iv_getr X ft_X12 hB a_h0 sh_12 0 (by decide) rfl k_fl_X12_7 dX12_look_69 (fun b2 g_b2 r_b2 e_b2 a_b2 => ?_)
    refine lv_sipush (v := 146) hx hb dX12_look_72 (by decide) ?_
    refine iv_wald_c X hB a_b2 q_146 (by decide) (lo := 0) (hi' := 10) (by decide) dX12_look_75 (fun x3 e_x3 i_x3 => ?_)
    exact iv_iret X hr hlocks hB ⟨rfl, (i_x3.wk (by decide))⟩ dX12_look_76
  skip
  by_cases w4 : x_0.toInt = 1
  · skip
    refine lv_tableIn (tgt := 77) hx hb dX12_look_1 (by omega) (by omega) (by rw [w4]; rfl) (by decide) ?_
    have w4i : iv_R 1 1 x_0 := iv_lit w4
    refine lv_aload_n hx hb dX12_look_77 rfl (lv_at hl 0 rfl) ?_
    refine iv_getr X ft_X12 hB a_h0 sh_12 0 (by decide) rfl k_fl_X12_7 dX12_look_78 (fun b5 g_b5 r_b5 e_b5 a_b5 => ?_)
    refine lv_iconst (v := 4) hx hb dX12_look_81 (by decide) ?_
    refine iv_wald_c X hB a_b5 q_4 (by decide) (lo := 0) (hi' := 20) (by decide) dX12_look_82 (fun x6 e_x6 i_x6 => ?_)
    exact iv_iret X hr hlocks hB ⟨rfl, (i_x6.wk (by decide))⟩ dX12_look_83
  skip
  by_cases w7 : x_0.toInt = 2
  · skip
    refine lv_tableIn (tgt := 84) hx hb dX12_look_1 (by omega) (by omega) (by rw [w7]; rfl) (by decide) ?_
    have w7i : iv_R 2 2 x_0 := iv_lit w7
    refine lv_aload_n hx hb dX12_look_84 rfl (lv_at hl 0 rfl) ?_
    refine iv_getr X ft_X12 hB a_h0 sh_12 0 (by decide) rfl k_fl_X12_7 dX12_look_85 (fun b8 g_b8 r_b8 e_b8 a_b8 => ?_)
    refine lv_iconst (v := 0) hx hb dX12_look_88 (by decide) ?_
    refine iv_wald_c X hB a_b8 q_0 (by decide) (lo := (-2147483648)) (hi' := 2147483647) (by decide) dX12_look_89 (fun x9 e_x9 i_x9 => ?_)
    exact iv_iret X hr hlocks hB ⟨rfl, i_x9⟩ dX12_look_90
  skip
  by_cases w10 : x_0.toInt = 3
  · skip
    refine lv_tableIn (tgt := 91) hx hb dX12_look_1 (by omega) (by omega) (by rw [w10]; rfl) (by decide) ?_
    have w10i : iv_R 3 3 x_0 := iv_lit w10
    refine lv_aload_n hx hb dX12_look_91 rfl (lv_at hl 0 rfl) ?_
    refine iv_getr X ft_X12 hB a_h0 sh_12 0 (by decide) rfl k_fl_X12_7 dX12_look_92 (fun b11 g_b11 r_b11 e_b11 a_b11 => ?_)
    refine lv_sipush (v := 147) hx hb dX12_look_95 (by decide) ?_
    refine iv_wald_c X hB a_b11 q_147 (by decide) (lo := (-2147483648)) (hi' := 2147483647) (by decide) dX12_look_98 (fun x12 e_x12 i_x12 => ?_)
    exact iv_iret X hr hlocks hB ⟨rfl, i_x12⟩ dX12_look_99
  skip
  by_cases w13 : x_0.toInt = 4
  · skip
    refine lv_tableIn (tgt := 100) hx hb dX12_look_1 (by omega) (by omega) (by rw [w13]; rfl) (by decide) ?_
    have w13i : iv_R 4 4 x_0 := iv_lit w13
    refine lv_aload_n hx hb dX12_look_100 rfl (lv_at hl 0 rfl) ?_
    refine iv_getr X ft_X12 hB a_h0 sh_12 0 (by decide) rfl k_fl_X12_7 dX12_look_101 (fun b14 g_b14 r_b14 e_b14 a_b14 => ?_)
    refine lv_iconst (v := 1) hx hb dX12_look_104 (by decide) ?_
    refine iv_wald_c X hB a_b14 q_1 (by decide) (lo := (-2147483648)) (hi' := 2147483647) (by decide) dX12_look_105 (fun x15 e_x15 i_x15 => ?_)
    exact iv_iret X hr hlocks hB ⟨rfl, i_x15⟩ dX12_look_106
  skip
  by_cases w16 : x_0.toInt = 5
  · skip
    refine lv_tableIn (tgt := 107) hx hb dX12_look_1 (by omega) (by omega) (by rw [w16]; rfl) (by decide) ?_
    have w16i : iv_R 5 5 x_0 := iv_lit w16
    refine lv_aload_n hx hb dX12_look_107 rfl (lv_at hl 0 rfl) ?_
    refine iv_getr X ft_X12 hB a_h0 sh_12 0 (by decide) rfl k_fl_X12_7 dX12_look_108 (fun b17 g_b17 r_b17 e_b17 a_b17 => ?_)
    refine lv_sipush (v := 148) hx hb dX12_look_111 (by decide) ?_
    refine iv_wald_c X hB a_b17 q_148 (by decide) (lo := (-2147483648)) (hi' := 2147483647) (by decide) dX12_look_114 (fun x18 e_x18 i_x18 => ?_)
    exact iv_iret X hr hlocks hB ⟨rfl, i_x18⟩ dX12_look_115
  skip
  by_cases w19 : x_0.toInt = 6
  · skip
    refine lv_tableIn (tgt := 116) hx hb dX12_look_1 (by omega) (by omega) (by rw [w19]; rfl) (by decide) ?_
    have w19i : iv_R 6 6 x_0 := iv_lit w19
    refine lv_aload_n hx hb dX12_look_116 rfl (lv_at hl 0 rfl) ?_
    refine iv_getr X ft_X12 hB a_h0 sh_12 0 (by decide) rfl k_fl_X12_7 dX12_look_117 (fun b20 g_b20 r_b20 e_b20 a_b20 => ?_)
    refine lv_iconst (v := 3) hx hb dX12_look_120 (by decide) ?_
    refine iv_wald_c X hB a_b20 q_3 (by decide) (lo := 0) (hi' := 120) (by decide) dX12_look_121 (fun x21 e_x21 i_x21 => ?_)
    exact iv_iret X hr hlocks hB ⟨rfl, (i_x21.wk (by decide))⟩ dX12_look_122
  skip
  by_cases w22 : x_0.toInt = 7
  · skip
    refine lv_tableIn (tgt := 123) hx hb dX12_look_1 (by omega) (by omega) (by rw [w22]; rfl) (by decide) ?_
    have w22i : iv_R 7 7 x_0 := iv_lit w22
    refine lv_aload_n hx hb dX12_look_123 rfl (lv_at hl 0 rfl) ?_
    refine iv_getr X ft_X12 hB a_h0 sh_12 0 (by decide) rfl k_fl_X12_7 dX12_look_124 (fun b23 g_b23 r_b23 e_b23 a_b23 => ?_)
    refine lv_iconst (v := 2) hx hb dX12_look_127 (by decide) ?_
    refine iv_wald_c X hB a_b23 q_2 (by decide) (lo := (-2147483648)) (hi' := 2147483647) (by decide) dX12_look_128 (fun x24 e_x24 i_x24 => ?_)
    exact iv_iret X hr hlocks hB ⟨rfl, i_x24⟩ dX12_look_129
  skip
  by_cases w25 : x_0.toInt = 8
  · skip
    refine lv_tableIn (tgt := 130) hx hb dX12_look_1 (by omega) (by omega) (by rw [w25]; rfl) (by decide) ?_
    have w25i : iv_R 8 8 x_0 := iv_lit w25
    refine lv_aload_n hx hb dX12_look_130 rfl (lv_at hl 0 rfl) ?_
    refine iv_getr X ft_X12 hB a_h0 sh_12 0 (by decide) rfl k_fl_X12_7 dX12_look_131 (fun b26 g_b26 r_b26 e_b26 a_b26 => ?_)
    refine lv_sipush (v := 149) hx hb dX12_look_134 (by decide) ?_
    refine iv_wald_c X hB a_b26 q_149 (by decide) (lo := 0) (hi' := 20) (by decide) dX12_look_137 (fun x27 e_x27 i_x27 => ?_)
    exact iv_iret X hr hlocks hB ⟨rfl, (i_x27.wk (by decide))⟩ dX12_look_138
  skip
  by_cases w28 : x_0.toInt = 9
  · skip
    refine lv_tableIn (tgt := 139) hx hb dX12_look_1 (by omega) (by omega) (by rw [w28]; rfl) (by decide) ?_
    have w28i : iv_R 9 9 x_0 := iv_lit w28
    refine lv_aload_n hx hb dX12_look_139 rfl (lv_at hl 0 rfl) ?_
    refine iv_getr X ft_X12 hB a_h0 sh_12 0 (by decide) rfl k_fl_X12_7 dX12_look_140 (fun b29 g_b29 r_b29 e_b29 a_b29 => ?_)
    refine lv_sipush (v := 150) hx hb dX12_look_143 (by decide) ?_
    refine iv_wald_c X hB a_b29 q_150 (by decide) (lo := 0) (hi' := 16) (by decide) dX12_look_146 (fun x30 e_x30 i_x30 => ?_)
    exact iv_iret X hr hlocks hB ⟨rfl, (i_x30.wk (by decide))⟩ dX12_look_147
  skip
  by_cases w31 : x_0.toInt = 10
  · skip
    refine lv_tableIn (tgt := 148) hx hb dX12_look_1 (by omega) (by omega) (by rw [w31]; rfl) (by decide) ?_
    have w31i : iv_R 10 10 x_0 := iv_lit w31
    refine lv_aload_n hx hb dX12_look_148 rfl (lv_at hl 0 rfl) ?_
    refine iv_getr X ft_X12 hB a_h0 sh_12 0 (by decide) rfl k_fl_X12_7 dX12_look_149 (fun b32 g_b32 r_b32 e_b32 a_b32 => ?_)
    refine lv_sipush (v := 151) hx hb dX12_look_152 (by decide) ?_
    refine iv_wald_c X hB a_b32 q_151 (by decide) (lo := 0) (hi' := 16) (by decide) dX12_look_155 (fun x33 e_x33 i_x33 => ?_)
    exact iv_iret X hr hlocks hB ⟨rfl, (i_x33.wk (by decide))⟩ dX12_look_156
  skip
  by_cases w34 : x_0.toInt = 11
  · skip
    refine lv_tableIn (tgt := 157) hx hb dX12_look_1 (by omega) (by omega) (by rw [w34]; rfl) (by decide) ?_
    have w34i : iv_R 11 11 x_0 := iv_lit w34
    refine lv_aload_n hx hb dX12_look_157 rfl (lv_at hl 0 rfl) ?_
    refine iv_getr X ft_X12 hB a_h0 sh_12 0 (by decide) rfl k_fl_X12_7 dX12_look_158 (fun b35 g_b35 r_b35 e_b35 a_b35 => ?_)
    refine lv_sipush (v := 152) hx hb dX12_look_161 (by decide) ?_
    refine iv_wald_c X hB a_b35 q_152 (by decide) (lo := 0) (hi' := 12) (by decide) dX12_look_164 (fun x36 e_x36 i_x36 => ?_)
    exact iv_iret X hr hlocks hB ⟨rfl, (i_x36.wk (by decide))⟩ dX12_look_165
  skip
  by_cases w37 : x_0.toInt = 12
  · skip
    refine lv_tableIn (tgt := 166) hx hb dX12_look_1 (by omega) (by omega) (by rw [w37]; rfl) (by decide) ?_
    have w37i : iv_R 12 12 x_0 := iv_lit w37
    refine lv_aload_n hx hb dX12_look_166 rfl (lv_at hl 0 rfl) ?_
    refine iv_geti X ft_X12 hB a_h0 sh_12 3 (by decide) rfl k_fl_X12_60 dX12_look_167 (fun x38 e_x38 i_x38 => ?_)
    exact iv_iret X hr hlocks hB ⟨rfl, (i_x38.wk (by decide))⟩ dX12_look_170
  skip
  refine lv_tableOut (tgt := 171) hx hb dX12_look_1 (by have := i_x_0.1; have := i_x_0.2; omega) (by decide) ?_
  refine lv_iload_n hx hb dX12_look_171 rfl (lv_at hl 1 rfl) ?_
  refine lv_bipush (v := 20) hx hb dX12_look_172 (by decide) ?_
  refine lv_bipush (v := 35) hx hb dX12_look_174 (by decide) ?_
  refine iv_cSi X k_good k_mf_X12_isIn k_st_X12_isIn k_ml_X12_56 hB (As := [.int x_0, .int 20, .int 35]) (c_X12_isIn l D tys base G x_0 i_x_0 20 (q_20.wk (by decide)) 35 (q_35.wk (by decide))) ⟨rfl, rfl⟩ ⟨Nat.le_of_ble_eq_true rfl, Nat.le_of_ble_eq_true rfl⟩ ⟨Nat.le_of_ble_eq_true rfl, Nat.le_of_ble_eq_true rfl⟩ rfl rfl hl.1 (Nat.le_of_ble_eq_true rfl) dX12_look_176 (fun x39 G9 H locs hq hB => ?_)
  obtain ⟨rfl, i_x39, hp40⟩ := hq
  have k41 : ¬ x39 = 0 → iv_R 20 35 x_0 := fun h => ⟨iv_max i_x_0.1 (Int.le_trans q_20.1 (hp40.1 h).1) (by decide), iv_min i_x_0.2 (Int.le_trans (hp40.1 h).2 q_35.2) (by decide)⟩
  refine lv_if_eq (tgt := 198) hx hb dX12_look_179 (by decide) (fun c42 => ?_) (fun c42 => ?_)
  · skip
    have i42_x39 : iv_R 0 0 x39 := (i_x39.cutHi (n := 0) (iv_eq_r c42 q_0).2)
    refine lv_iconst (v := (-1)) hx hb dX12_look_198 (by decide) ?_
    exact iv_iret X hr hlocks hB ⟨rfl, (q_n1.wk (by decide))⟩ dX12_look_199
  · skip
    have i43_x39 : iv_R 1 1 x39 := iv_ne_lo c42 i_x39 q_0 (by decide)
    have i44_x_0 : iv_R 20 35 x_0 := ((i_x_0.cutLo (n := 20) (k41 c42).1).cutHi (n := 35) (k41 c42).2)
    refine lv_aload_n hx hb dX12_look_182 rfl (lv_at hl 0 rfl) ?_
    refine iv_getr X ft_X12 hB a_h0 sh_12 0 (by decide) rfl k_fl_X12_7 dX12_look_183 (fun b46 g_b46 r_b46 e_b46 a_b46 => ?_)
    refine lv_sipush (v := 190) hx hb dX12_look_186 (by decide) ?_
    refine lv_iload_n hx hb dX12_look_189 rfl (lv_at hl 1 rfl) ?_
    refine iv_iadd hx hb q_190 i44_x_0 (lo := 210) (hi := 225) (by decide) dX12_look_190 (fun x47 e_x47 i_x47 => ?_)
    refine lv_bipush (v := 20) hx hb dX12_look_191 (by decide) ?_
    refine iv_isub hx hb i_x47 q_20 (lo := 190) (hi := 205) (by decide) dX12_look_193 (fun x48 e_x48 i_x48 => ?_)
    refine iv_wald_f X hB a_b46 i_x48 (by decide) dX12_look_194 (fun x49 e_x49 i_x49 => ?_)
    refine lv_goto (tgt := 199) hx hb dX12_look_195 (by decide) ?_
    exact iv_iret X hr hlocks hB ⟨rfl, i_x49⟩ dX12_look_199
theorem dX12_loud_0 : decode cX12_loud 0 = .ok (.aload_n 0, 1) := by decide +kernel
theorem dX12_loud_1 : decode cX12_loud 1 = .ok (.iload_n 1, 1) := by decide +kernel
theorem dX12_loud_2 : decode cX12_loud 2 = .ok (.invokevirtual 76, 3) := by decide +kernel
theorem dX12_loud_5 : decode cX12_loud 5 = .ok (.ifCond .eq 27, 3) := by decide +kernel
theorem dX12_loud_8 : decode cX12_loud 8 = .ok (.iload_n 2, 1) := by decide +kernel
theorem dX12_loud_9 : decode cX12_loud 9 = .ok (.invokestatic 68, 3) := by decide +kernel
theorem dX12_loud_12 : decode cX12_loud 12 = .ok (.ifCond .eq 20, 3) := by decide +kernel
theorem dX12_loud_15 : decode cX12_loud 15 = .ok (.iload_n 3, 1) := by decide +kernel
theorem dX12_loud_16 : decode cX12_loud 16 = .ok (.invokestatic 371, 3) := by decide +kernel
theorem dX12_loud_19 : decode cX12_loud 19 = .ok (.ifCond .eq 13, 3) := by decide +kernel
theorem dX12_loud_22 : decode cX12_loud 22 = .ok (.aload_n 0, 1) := by decide +kernel
theorem dX12_loud_23 : decode cX12_loud 23 = .ok (.iload_n 1, 1) := by decide +kernel
theorem dX12_loud_24 : decode cX12_loud 24 = .ok (.iload_n 2, 1) := by decide +kernel
theorem dX12_loud_25 : decode cX12_loud 25 = .ok (.iload_n 3, 1) := by decide +kernel
theorem dX12_loud_26 : decode cX12_loud 26 = .ok (.invokevirtual 308, 3) := by decide +kernel
theorem dX12_loud_29 : decode cX12_loud 29 = .ok (.goto 4, 3) := by decide +kernel
theorem dX12_loud_32 : decode cX12_loud 32 = .ok (.iconst (-1), 1) := by decide +kernel
theorem dX12_loud_33 : decode cX12_loud 33 = .ok (.ireturn, 1) := by decide +kernel
set_option maxHeartbeats 4000000 in
set_option maxRecDepth 100000 in
theorem c_X12_loud (l : Launch) (D : va_G) (tys : List (ClassId × FieldType)) (base : Nat) (G : iv_G) (h0 : Nat) (g_h0 : Nat → Int32) (r_h0 : Nat → Nat) (a_h0 : G h0 = some (12, g_h0, r_h0)) (x_0 : Int32) (i_x_0 : iv_R (-2147483648) 2147483647 x_0) (x_1 : Int32) (i_x_1 : iv_R (-2147483648) 2147483647 x_1) (x_2 : Int32) (i_x_2 : iv_R (-2147483648) 2147483647 x_2) : Met l yX12_loud (Cond.code yX12_loud cX12_loud 4 (some .int) :: iv_W0) ({ frames := 5, cells := 0, slots := 0, locals := 119 }) (iv_Pc iv_sh D classes tys base G [.ref h0, .int x_0, .int x_1, .int x_2]) (iv_Qi iv_sh D classes tys base (fun v G' => iv_Md [67, 68] G G' ∧ iv_R (-2147483648) 2147483647 v)) 0 0 (iv_A base) := by
  refine iv_head (by decide) (Nat.le_of_ble_eq_true rfl) ?_
  intro p e s m args below meth c ls X hr hlocks hname hB hl
  have X := X
  have hx := X.1.1
  have hb := X.1.2.1
  have hM : iv_Md [67, 68] G G := iv_Md.rf
  have hl : lv_has ls 4 [(0, .ref h0), (1, .int x_0), (2, .int x_1), (3, .int x_2)] := hl
  refine lv_aload_n hx hb dX12_loud_0 rfl (lv_at hl 0 rfl) ?_
  refine lv_iload_n hx hb dX12_loud_1 rfl (lv_at hl 1 rfl) ?_
  refine iv_cVi X k_good k_mf_X12_isBell k_im_X12_isBell k_sel_X12_isBell k_ml_X12_76 ft_X12 hB a_h0 sh_12 (As := [.int x_0]) (c_X12_isBell l D tys base G h0 g_h0 r_h0 a_h0 x_0 i_x_0) ⟨rfl, rfl⟩ ⟨Nat.le_of_ble_eq_true rfl, Nat.le_of_ble_eq_true rfl⟩ ⟨Nat.le_of_ble_eq_true rfl, Nat.le_of_ble_eq_true rfl⟩ rfl rfl hl.1 (Nat.le_of_ble_eq_true rfl) dX12_loud_2 (fun x1 G9 H locs hq hB => ?_)
  obtain ⟨rfl, i_x1, hp2⟩ := hq
  refine lv_if_eq (tgt := 32) hx hb dX12_loud_5 (by decide) (fun c3 => ?_) (fun c3 => ?_)
  · skip
    have i3_x1 : iv_R 0 0 x1 := (i_x1.cutHi (n := 0) (iv_eq_r c3 q_0).2)
    refine lv_iconst (v := (-1)) hx hb dX12_loud_32 (by decide) ?_
    exact iv_iret X hr hlocks hB ⟨hM, (q_n1.wk (by decide))⟩ dX12_loud_33
  · skip
    have i4_x1 : iv_R 1 1 x1 := iv_ne_lo c3 i_x1 q_0 (by decide)
    have i5_x_0 : iv_R 0 9 x_0 := ((i_x_0.cutLo (n := 0) (hp2 c3).1).cutHi (n := 9) (hp2 c3).2)
    refine lv_iload_n hx hb dX12_loud_8 rfl (lv_at hl 2 rfl) ?_
    refine iv_cSi X k_good k_mf_X12_isTower k_st_X12_isTower k_ml_X12_68 hB (As := [.int x_1]) (c_X12_isTower l D tys base G x_1 i_x_1) ⟨rfl, rfl⟩ ⟨Nat.le_of_ble_eq_true rfl, Nat.le_of_ble_eq_true rfl⟩ ⟨Nat.le_of_ble_eq_true rfl, Nat.le_of_ble_eq_true rfl⟩ rfl rfl hl.1 (Nat.le_of_ble_eq_true rfl) dX12_loud_9 (fun x7 G9 H locs hq hB => ?_)
    obtain ⟨rfl, i_x7, hp8⟩ := hq
    refine lv_if_eq (tgt := 32) hx hb dX12_loud_12 (by decide) (fun c9 => ?_) (fun c9 => ?_)
    · skip
      have i9_x7 : iv_R 0 0 x7 := (i_x7.cutHi (n := 0) (iv_eq_r c9 q_0).2)
      refine lv_iconst (v := (-1)) hx hb dX12_loud_32 (by decide) ?_
      exact iv_iret X hr hlocks hB ⟨hM, (q_n1.wk (by decide))⟩ dX12_loud_33
    · skip
      have i10_x7 : iv_R 1 1 x7 := iv_ne_lo c9 i_x7 q_0 (by decide)
      have i11_x_1 : iv_R 0 3 x_1 := ((i_x_1.cutLo (n := 0) (hp8 c9).1).cutHi (n := 3) (hp8 c9).2)
      refine lv_iload_n hx hb dX12_loud_15 rfl (lv_at hl 3 rfl) ?_
      refine iv_cSi X k_good k_mf_X12_isHour k_st_X12_isHour k_ml_X12_371 hB (As := [.int x_2]) (c_X12_isHour l D tys base G x_2 i_x_2) ⟨rfl, rfl⟩ ⟨Nat.le_of_ble_eq_true rfl, Nat.le_of_ble_eq_true rfl⟩ ⟨Nat.le_of_ble_eq_true rfl, Nat.le_of_ble_eq_true rfl⟩ rfl rfl hl.1 (Nat.le_of_ble_eq_true rfl) dX12_loud_16 (fun x13 G9 H locs hq hB => ?_)
      obtain ⟨rfl, i_x13, hp14⟩ := hq
      refine lv_if_eq (tgt := 32) hx hb dX12_loud_19 (by decide) (fun c15 => ?_) (fun c15 => ?_)
      · skip
        have i15_x13 : iv_R 0 0 x13 := (i_x13.cutHi (n := 0) (iv_eq_r c15 q_0).2)
        refine lv_iconst (v := (-1)) hx hb dX12_loud_32 (by decide) ?_
        exact iv_iret X hr hlocks hB ⟨hM, (q_n1.wk (by decide))⟩ dX12_loud_33
      · skip
        have i16_x13 : iv_R 1 1 x13 := iv_ne_lo c15 i_x13 q_0 (by decide)
        have i17_x_2 : iv_R 0 23 x_2 := ((i_x_2.cutLo (n := 0) (hp14 c15).1).cutHi (n := 23) (hp14 c15).2)
        refine lv_aload_n hx hb dX12_loud_22 rfl (lv_at hl 0 rfl) ?_
        refine lv_iload_n hx hb dX12_loud_23 rfl (lv_at hl 1 rfl) ?_
        refine lv_iload_n hx hb dX12_loud_24 rfl (lv_at hl 2 rfl) ?_
        refine lv_iload_n hx hb dX12_loud_25 rfl (lv_at hl 3 rfl) ?_
        refine iv_cVi X k_good k_mf_X12_loudOf k_im_X12_loudOf k_sel_X12_loudOf k_ml_X12_308 ft_X12 hB a_h0 sh_12 (As := [.int x_0, .int x_1, .int x_2]) (c_X12_loudOf l D tys base G h0 g_h0 r_h0 a_h0 x_0 i5_x_0 x_1 i11_x_1 x_2 i17_x_2) ⟨rfl, rfl⟩ ⟨Nat.le_of_ble_eq_true rfl, Nat.le_of_ble_eq_true rfl⟩ ⟨Nat.le_of_ble_eq_true rfl, Nat.le_of_ble_eq_true rfl⟩ rfl rfl hl.1 (Nat.le_of_ble_eq_true rfl) dX12_loud_26 (fun x19 G9 H locs hq hB => ?_)
        obtain ⟨hm, i_x19⟩ := hq
        obtain ⟨G20, hG9⟩ : ∃ g, g = G9 := ⟨_, rfl⟩
        rw [← hG9] at hm hB
        have hM := hM.stp hm (by decide)
        have a_h0 := hm.at a_h0 (by decide)
        refine lv_goto (tgt := 33) hx hb dX12_loud_29 (by decide) ?_
        exact iv_iret X hr hlocks hB ⟨hM, i_x19⟩ dX12_loud_33
theorem dX12_louderBy_0 : decode cX12_louderBy 0 = .ok (.sipush 999, 3) := by decide +kernel
theorem dX12_louderBy_3 : decode cX12_louderBy 3 = .ok (.iload_n 1, 1) := by decide +kernel
theorem dX12_louderBy_4 : decode cX12_louderBy 4 = .ok (.iload_n 0, 1) := by decide +kernel
theorem dX12_louderBy_5 : decode cX12_louderBy 5 = .ok (.imul, 1) := by decide +kernel
theorem dX12_louderBy_6 : decode cX12_louderBy 6 = .ok (.iconst 4, 1) := by decide +kernel
theorem dX12_louderBy_7 : decode cX12_louderBy 7 = .ok (.idiv, 1) := by decide +kernel
theorem dX12_louderBy_8 : decode cX12_louderBy 8 = .ok (.iload_n 2, 1) := by decide +kernel
theorem dX12_louderBy_9 : decode cX12_louderBy 9 = .ok (.iadd, 1) := by decide +kernel
theorem dX12_louderBy_10 : decode cX12_louderBy 10 = .ok (.invokestatic 275, 3) := by decide +kernel
theorem dX12_louderBy_13 : decode cX12_louderBy 13 = .ok (.ireturn, 1) := by decide +kernel
set_option maxHeartbeats 4000000 in
set_option maxRecDepth 100000 in
theorem c_X12_louderBy (l : Launch) (D : va_G) (tys : List (ClassId × FieldType)) (base : Nat) (G : iv_G) (x_0 : Int32) (i_x_0 : iv_R (-2147483648) 2147483647 x_0) (x_1 : Int32) (i_x_1 : iv_R 0 9 x_1) (x_2 : Int32) (i_x_2 : iv_R 0 999 x_2) : Met l yX12_louderBy (Cond.code yX12_louderBy cX12_louderBy 3 (some .int) :: iv_W0) ({ frames := 1, cells := 0, slots := 0, locals := 21 }) (iv_Pc iv_sh D classes tys base G [.int x_0, .int x_1, .int x_2]) (iv_Qi iv_sh D classes tys base (fun v G' => G = G' ∧ iv_R (-2147483648) 2147483647 v)) 0 0 (iv_A base) := by
  refine iv_head (by decide) (Nat.le_of_ble_eq_true rfl) ?_
  intro p e s m args below meth c ls X hr hlocks hname hB hl
  have X := X
  have hx := X.1.1
  have hb := X.1.2.1
  have hl : lv_has ls 3 [(0, .int x_0), (1, .int x_1), (2, .int x_2)] := hl
  refine lv_sipush (v := 999) hx hb dX12_louderBy_0 (by decide) ?_
  refine lv_iload_n hx hb dX12_louderBy_3 rfl (lv_at hl 1 rfl) ?_
  refine lv_iload_n hx hb dX12_louderBy_4 rfl (lv_at hl 0 rfl) ?_
  refine lv_imul hx hb dX12_louderBy_5 ?_
  refine lv_topi (fun x1 e_x1 => ?_)
  have i_x1 := iv_R.all x1
  refine lv_iconst (v := 4) hx hb dX12_louderBy_6 (by decide) ?_
  refine lv_idiv hx hb dX12_louderBy_7 (iv_nz q_4 (by decide)) ?_
  refine lv_topi (fun x2 e_x2 => ?_)
  have i_x2 := iv_R.all x2
  refine lv_iload_n hx hb dX12_louderBy_8 rfl (lv_at hl 2 rfl) ?_
  refine lv_iadd hx hb dX12_louderBy_9 ?_
  refine lv_topi (fun x3 e_x3 => ?_)
  have i_x3 := iv_R.all x3
  refine iv_cSi X k_good k_mf_X12_lesser k_st_X12_lesser k_ml_X12_275 hB (As := [.int 999, .int x3]) (c_X12_lesser l D tys base G 999 (q_999.wk (by decide)) x3 i_x3) ⟨rfl, rfl⟩ ⟨Nat.le_of_ble_eq_true rfl, Nat.le_of_ble_eq_true rfl⟩ ⟨Nat.le_of_ble_eq_true rfl, Nat.le_of_ble_eq_true rfl⟩ rfl rfl hl.1 (Nat.le_of_ble_eq_true rfl) dX12_louderBy_10 (fun x4 G9 H locs hq hB => ?_)
  obtain ⟨rfl, i_x4⟩ := hq
  exact iv_iret X hr hlocks hB ⟨rfl, i_x4⟩ dX12_louderBy_13
theorem dX12_louder_0 : decode cX12_louder 0 = .ok (.iload_n 1, 1) := by decide +kernel
theorem dX12_louder_1 : decode cX12_louder 1 = .ok (.iconst 0, 1) := by decide +kernel
theorem dX12_louder_2 : decode cX12_louder 2 = .ok (.sipush 999, 3) := by decide +kernel
theorem dX12_louder_5 : decode cX12_louder 5 = .ok (.invokestatic 56, 3) := by decide +kernel
theorem dX12_louder_8 : decode cX12_louder 8 = .ok (.ifCond .eq 63, 3) := by decide +kernel
theorem dX12_louder_11 : decode cX12_louder 11 = .ok (.iload_n 2, 1) := by decide +kernel
theorem dX12_louder_12 : decode cX12_louder 12 = .ok (.iconst 0, 1) := by decide +kernel
theorem dX12_louder_13 : decode cX12_louder 13 = .ok (.sipush 999, 3) := by decide +kernel
theorem dX12_louder_16 : decode cX12_louder 16 = .ok (.invokestatic 56, 3) := by decide +kernel
theorem dX12_louder_19 : decode cX12_louder 19 = .ok (.ifCond .eq 52, 3) := by decide +kernel
theorem dX12_louder_22 : decode cX12_louder 22 = .ok (.iload_n 3, 1) := by decide +kernel
theorem dX12_louder_23 : decode cX12_louder 23 = .ok (.iconst 0, 1) := by decide +kernel
theorem dX12_louder_24 : decode cX12_louder 24 = .ok (.bipush 9, 2) := by decide +kernel
theorem dX12_louder_26 : decode cX12_louder 26 = .ok (.invokestatic 56, 3) := by decide +kernel
theorem dX12_louder_29 : decode cX12_louder 29 = .ok (.ifCond .eq 42, 3) := by decide +kernel
theorem dX12_louder_32 : decode cX12_louder 32 = .ok (.iload 4, 2) := by decide +kernel
theorem dX12_louder_34 : decode cX12_louder 34 = .ok (.iconst 0, 1) := by decide +kernel
theorem dX12_louder_35 : decode cX12_louder 35 = .ok (.sipush 999, 3) := by decide +kernel
theorem dX12_louder_38 : decode cX12_louder 38 = .ok (.invokestatic 56, 3) := by decide +kernel
theorem dX12_louder_41 : decode cX12_louder 41 = .ok (.ifCond .eq 30, 3) := by decide +kernel
theorem dX12_louder_44 : decode cX12_louder 44 = .ok (.iload 6, 2) := by decide +kernel
theorem dX12_louder_46 : decode cX12_louder 46 = .ok (.iconst 0, 1) := by decide +kernel
theorem dX12_louder_47 : decode cX12_louder 47 = .ok (.iconst 2, 1) := by decide +kernel
theorem dX12_louder_48 : decode cX12_louder 48 = .ok (.invokestatic 56, 3) := by decide +kernel
theorem dX12_louder_51 : decode cX12_louder 51 = .ok (.ifCond .eq 20, 3) := by decide +kernel
theorem dX12_louder_54 : decode cX12_louder 54 = .ok (.iload 6, 2) := by decide +kernel
theorem dX12_louder_56 : decode cX12_louder 56 = .ok (.iconst 2, 1) := by decide +kernel
theorem dX12_louder_57 : decode cX12_louder 57 = .ok (.if_icmp .ge 16, 3) := by decide +kernel
theorem dX12_louder_60 : decode cX12_louder 60 = .ok (.iload 5, 2) := by decide +kernel
theorem dX12_louder_62 : decode cX12_louder 62 = .ok (.iconst 0, 1) := by decide +kernel
theorem dX12_louder_63 : decode cX12_louder 63 = .ok (.bipush 60, 2) := by decide +kernel
theorem dX12_louder_65 : decode cX12_louder 65 = .ok (.invokestatic 56, 3) := by decide +kernel
theorem dX12_louder_68 : decode cX12_louder 68 = .ok (.ifCond .ne 5, 3) := by decide +kernel
theorem dX12_louder_71 : decode cX12_louder 71 = .ok (.iconst (-1), 1) := by decide +kernel
theorem dX12_louder_72 : decode cX12_louder 72 = .ok (.ireturn, 1) := by decide +kernel
theorem dX12_louder_73 : decode cX12_louder 73 = .ok (.iload_n 1, 1) := by decide +kernel
theorem dX12_louder_74 : decode cX12_louder 74 = .ok (.istore 7, 2) := by decide +kernel
theorem dX12_louder_76 : decode cX12_louder 76 = .ok (.iload_n 2, 1) := by decide +kernel
theorem dX12_louder_77 : decode cX12_louder 77 = .ok (.istore 8, 2) := by decide +kernel
theorem dX12_louder_79 : decode cX12_louder 79 = .ok (.iconst 1, 1) := by decide +kernel
theorem dX12_louder_80 : decode cX12_louder 80 = .ok (.istore 9, 2) := by decide +kernel
theorem dX12_louder_82 : decode cX12_louder 82 = .ok (.iload 9, 2) := by decide +kernel
theorem dX12_louder_84 : decode cX12_louder 84 = .ok (.iload 6, 2) := by decide +kernel
theorem dX12_louder_86 : decode cX12_louder 86 = .ok (.iconst 2, 1) := by decide +kernel
theorem dX12_louder_87 : decode cX12_louder 87 = .ok (.if_icmp .ne 8, 3) := by decide +kernel
theorem dX12_louder_90 : decode cX12_louder 90 = .ok (.bipush 60, 2) := by decide +kernel
theorem dX12_louder_92 : decode cX12_louder 92 = .ok (.goto 5, 3) := by decide +kernel
theorem dX12_louder_95 : decode cX12_louder 95 = .ok (.iload 5, 2) := by decide +kernel
theorem dX12_louder_97 : decode cX12_louder 97 = .ok (.if_icmp .gt 60, 3) := by decide +kernel
theorem dX12_louder_100 : decode cX12_louder 100 = .ok (.iload 8, 2) := by decide +kernel
theorem dX12_louder_102 : decode cX12_louder 102 = .ok (.iload_n 3, 1) := by decide +kernel
theorem dX12_louder_103 : decode cX12_louder 103 = .ok (.iload 4, 2) := by decide +kernel
theorem dX12_louder_105 : decode cX12_louder 105 = .ok (.invokestatic 444, 3) := by decide +kernel
theorem dX12_louder_108 : decode cX12_louder 108 = .ok (.istore 10, 2) := by decide +kernel
theorem dX12_louder_110 : decode cX12_louder 110 = .ok (.iload 7, 2) := by decide +kernel
theorem dX12_louder_112 : decode cX12_louder 112 = .ok (.iload_n 3, 1) := by decide +kernel
theorem dX12_louder_113 : decode cX12_louder 113 = .ok (.iload 4, 2) := by decide +kernel
theorem dX12_louder_115 : decode cX12_louder 115 = .ok (.invokestatic 444, 3) := by decide +kernel
theorem dX12_louder_118 : decode cX12_louder 118 = .ok (.istore 11, 2) := by decide +kernel
theorem dX12_louder_120 : decode cX12_louder 120 = .ok (.iload 6, 2) := by decide +kernel
theorem dX12_louder_122 : decode cX12_louder 122 = .ok (.iconst 2, 1) := by decide +kernel
theorem dX12_louder_123 : decode cX12_louder 123 = .ok (.if_icmp .ne 20, 3) := by decide +kernel
theorem dX12_louder_126 : decode cX12_louder 126 = .ok (.iload 10, 2) := by decide +kernel
theorem dX12_louder_128 : decode cX12_louder 128 = .ok (.iload 7, 2) := by decide +kernel
theorem dX12_louder_130 : decode cX12_louder 130 = .ok (.if_icmp .ne 13, 3) := by decide +kernel
theorem dX12_louder_133 : decode cX12_louder 133 = .ok (.iload 11, 2) := by decide +kernel
theorem dX12_louder_135 : decode cX12_louder 135 = .ok (.iload 8, 2) := by decide +kernel
theorem dX12_louder_137 : decode cX12_louder 137 = .ok (.if_icmp .ne 6, 3) := by decide +kernel
theorem dX12_louder_140 : decode cX12_louder 140 = .ok (.iload 9, 2) := by decide +kernel
theorem dX12_louder_142 : decode cX12_louder 142 = .ok (.ireturn, 1) := by decide +kernel
theorem dX12_louder_143 : decode cX12_louder 143 = .ok (.iload 10, 2) := by decide +kernel
theorem dX12_louder_145 : decode cX12_louder 145 = .ok (.istore 7, 2) := by decide +kernel
theorem dX12_louder_147 : decode cX12_louder 147 = .ok (.iload 11, 2) := by decide +kernel
theorem dX12_louder_149 : decode cX12_louder 149 = .ok (.istore 8, 2) := by decide +kernel
theorem dX12_louder_151 : decode cX12_louder 151 = .ok (.iinc 9 1, 3) := by decide +kernel
theorem dX12_louder_154 : decode cX12_louder 154 = .ok (.goto (-72), 3) := by decide +kernel
theorem dX12_louder_157 : decode cX12_louder 157 = .ok (.iload 6, 2) := by decide +kernel
theorem dX12_louder_159 : decode cX12_louder 159 = .ok (.iconst 2, 1) := by decide +kernel
theorem dX12_louder_160 : decode cX12_louder 160 = .ok (.if_icmp .ne 7, 3) := by decide +kernel
theorem dX12_louder_163 : decode cX12_louder 163 = .ok (.iconst (-1), 1) := by decide +kernel
theorem dX12_louder_164 : decode cX12_louder 164 = .ok (.goto 15, 3) := by decide +kernel
theorem dX12_louder_167 : decode cX12_louder 167 = .ok (.iload 6, 2) := by decide +kernel
theorem dX12_louder_169 : decode cX12_louder 169 = .ok (.ifCond .ne 8, 3) := by decide +kernel
theorem dX12_louder_172 : decode cX12_louder 172 = .ok (.iload 7, 2) := by decide +kernel
theorem dX12_louder_174 : decode cX12_louder 174 = .ok (.goto 5, 3) := by decide +kernel
theorem dX12_louder_177 : decode cX12_louder 177 = .ok (.iload 8, 2) := by decide +kernel
theorem dX12_louder_179 : decode cX12_louder 179 = .ok (.ireturn, 1) := by decide +kernel
set_option maxHeartbeats 4000000 in
set_option maxRecDepth 100000 in
theorem c_X12_louder (l : Launch) (D : va_G) (tys : List (ClassId × FieldType)) (base : Nat) (G : iv_G) (h0 : Nat) (g_h0 : Nat → Int32) (r_h0 : Nat → Nat) (a_h0 : G h0 = some (12, g_h0, r_h0)) (x_0 : Int32) (i_x_0 : iv_R (-2147483648) 2147483647 x_0) (x_1 : Int32) (i_x_1 : iv_R (-2147483648) 2147483647 x_1) (x_2 : Int32) (i_x_2 : iv_R (-2147483648) 2147483647 x_2) (x_3 : Int32) (i_x_3 : iv_R (-2147483648) 2147483647 x_3) (x_4 : Int32) (i_x_4 : iv_R (-2147483648) 2147483647 x_4) (x_5 : Int32) (i_x_5 : iv_R (-2147483648) 2147483647 x_5) : Met l yX12_louder (Cond.code yX12_louder cX12_louder 12 (some .int) :: iv_W0) ({ frames := 2, cells := 0, slots := 0, locals := 43 }) (iv_Pc iv_sh D classes tys base G [.ref h0, .int x_0, .int x_1, .int x_2, .int x_3, .int x_4, .int x_5]) (iv_Qi iv_sh D classes tys base (fun v G' => G = G' ∧ iv_R (-2147483648) 2147483647 v)) 0 0 (iv_A base) := by
  refine iv_head (by decide) (Nat.le_of_ble_eq_true rfl) ?_
  intro p e s m args below meth c ls X hr hlocks hname hB hl
  have X := X
  have hx := X.1.1
  have hb := X.1.2.1
  have hl : lv_has ls 12 [(0, .ref h0), (1, .int x_0), (2, .int x_1), (3, .int x_2), (4, .int x_3), (5, .int x_4), (6, .int x_5)] := hl
  refine lv_iload_n hx hb dX12_louder_0 rfl (lv_at hl 1 rfl) ?_
  refine lv_iconst (v := 0) hx hb dX12_louder_1 (by decide) ?_
  refine lv_sipush (v := 999) hx hb dX12_louder_2 (by decide) ?_
  refine iv_cSi X k_good k_mf_X12_isIn k_st_X12_isIn k_ml_X12_56 hB (As := [.int x_0, .int 0, .int 999]) (c_X12_isIn l D tys base G x_0 i_x_0 0 (q_0.wk (by decide)) 999 (q_999.wk (by decide))) ⟨rfl, rfl⟩ ⟨Nat.le_of_ble_eq_true rfl, Nat.le_of_ble_eq_true rfl⟩ ⟨Nat.le_of_ble_eq_true rfl, Nat.le_of_ble_eq_true rfl⟩ rfl rfl hl.1 (Nat.le_of_ble_eq_true rfl) dX12_louder_5 (fun x1 G9 H locs hq hB => ?_)
  obtain ⟨rfl, i_x1, hp2⟩ := hq
  have k3 : ¬ x1 = 0 → iv_R 0 999 x_0 := fun h => ⟨iv_max i_x_0.1 (Int.le_trans q_0.1 (hp2.1 h).1) (by decide), iv_min i_x_0.2 (Int.le_trans (hp2.1 h).2 q_999.2) (by decide)⟩
  refine lv_if_eq (tgt := 71) hx hb dX12_louder_8 (by decide) (fun c4 => ?_) (fun c4 => ?_)
  · skip
    have i4_x1 : iv_R 0 0 x1 := (i_x1.cutHi (n := 0) (iv_eq_r c4 q_0).2)
    refine lv_iconst (v := (-1)) hx hb dX12_louder_71 (by decide) ?_
    exact iv_iret X hr hlocks hB ⟨rfl, (q_n1.wk (by decide))⟩ dX12_louder_72
  · skip
    have i5_x1 : iv_R 1 1 x1 := iv_ne_lo c4 i_x1 q_0 (by decide)
    have i6_x_0 : iv_R 0 999 x_0 := ((i_x_0.cutLo (n := 0) (k3 c4).1).cutHi (n := 999) (k3 c4).2)
    refine lv_iload_n hx hb dX12_louder_11 rfl (lv_at hl 2 rfl) ?_
    refine lv_iconst (v := 0) hx hb dX12_louder_12 (by decide) ?_
    refine lv_sipush (v := 999) hx hb dX12_louder_13 (by decide) ?_
    refine iv_cSi X k_good k_mf_X12_isIn k_st_X12_isIn k_ml_X12_56 hB (As := [.int x_1, .int 0, .int 999]) (c_X12_isIn l D tys base G x_1 i_x_1 0 (q_0.wk (by decide)) 999 (q_999.wk (by decide))) ⟨rfl, rfl⟩ ⟨Nat.le_of_ble_eq_true rfl, Nat.le_of_ble_eq_true rfl⟩ ⟨Nat.le_of_ble_eq_true rfl, Nat.le_of_ble_eq_true rfl⟩ rfl rfl hl.1 (Nat.le_of_ble_eq_true rfl) dX12_louder_16 (fun x8 G9 H locs hq hB => ?_)
    obtain ⟨rfl, i_x8, hp9⟩ := hq
    have k10 : ¬ x8 = 0 → iv_R 0 999 x_1 := fun h => ⟨iv_max i_x_1.1 (Int.le_trans q_0.1 (hp9.1 h).1) (by decide), iv_min i_x_1.2 (Int.le_trans (hp9.1 h).2 q_999.2) (by decide)⟩
    refine lv_if_eq (tgt := 71) hx hb dX12_louder_19 (by decide) (fun c11 => ?_) (fun c11 => ?_)
    · skip
      have i11_x8 : iv_R 0 0 x8 := (i_x8.cutHi (n := 0) (iv_eq_r c11 q_0).2)
      refine lv_iconst (v := (-1)) hx hb dX12_louder_71 (by decide) ?_
      exact iv_iret X hr hlocks hB ⟨rfl, (q_n1.wk (by decide))⟩ dX12_louder_72
    · skip
      have i12_x8 : iv_R 1 1 x8 := iv_ne_lo c11 i_x8 q_0 (by decide)
      have i13_x_1 : iv_R 0 999 x_1 := ((i_x_1.cutLo (n := 0) (k10 c11).1).cutHi (n := 999) (k10 c11).2)
      refine lv_iload_n hx hb dX12_louder_22 rfl (lv_at hl 3 rfl) ?_
      refine lv_iconst (v := 0) hx hb dX12_louder_23 (by decide) ?_
      refine lv_bipush (v := 9) hx hb dX12_louder_24 (by decide) ?_
      refine iv_cSi X k_good k_mf_X12_isIn k_st_X12_isIn k_ml_X12_56 hB (As := [.int x_2, .int 0, .int 9]) (c_X12_isIn l D tys base G x_2 i_x_2 0 (q_0.wk (by decide)) 9 (q_9.wk (by decide))) ⟨rfl, rfl⟩ ⟨Nat.le_of_ble_eq_true rfl, Nat.le_of_ble_eq_true rfl⟩ ⟨Nat.le_of_ble_eq_true rfl, Nat.le_of_ble_eq_true rfl⟩ rfl rfl hl.1 (Nat.le_of_ble_eq_true rfl) dX12_louder_26 (fun x15 G9 H locs hq hB => ?_)
      obtain ⟨rfl, i_x15, hp16⟩ := hq
      have k17 : ¬ x15 = 0 → iv_R 0 9 x_2 := fun h => ⟨iv_max i_x_2.1 (Int.le_trans q_0.1 (hp16.1 h).1) (by decide), iv_min i_x_2.2 (Int.le_trans (hp16.1 h).2 q_9.2) (by decide)⟩
      refine lv_if_eq (tgt := 71) hx hb dX12_louder_29 (by decide) (fun c18 => ?_) (fun c18 => ?_)
      · skip
        have i18_x15 : iv_R 0 0 x15 := (i_x15.cutHi (n := 0) (iv_eq_r c18 q_0).2)
        refine lv_iconst (v := (-1)) hx hb dX12_louder_71 (by decide) ?_
        exact iv_iret X hr hlocks hB ⟨rfl, (q_n1.wk (by decide))⟩ dX12_louder_72
      · skip
        have i19_x15 : iv_R 1 1 x15 := iv_ne_lo c18 i_x15 q_0 (by decide)
        have i20_x_2 : iv_R 0 9 x_2 := ((i_x_2.cutLo (n := 0) (k17 c18).1).cutHi (n := 9) (k17 c18).2)
        refine lv_iload hx hb dX12_louder_32 (lv_at hl 4 rfl) ?_
        refine lv_iconst (v := 0) hx hb dX12_louder_34 (by decide) ?_
        refine lv_sipush (v := 999) hx hb dX12_louder_35 (by decide) ?_
        refine iv_cSi X k_good k_mf_X12_isIn k_st_X12_isIn k_ml_X12_56 hB (As := [.int x_3, .int 0, .int 999]) (c_X12_isIn l D tys base G x_3 i_x_3 0 (q_0.wk (by decide)) 999 (q_999.wk (by decide))) ⟨rfl, rfl⟩ ⟨Nat.le_of_ble_eq_true rfl, Nat.le_of_ble_eq_true rfl⟩ ⟨Nat.le_of_ble_eq_true rfl, Nat.le_of_ble_eq_true rfl⟩ rfl rfl hl.1 (Nat.le_of_ble_eq_true rfl) dX12_louder_38 (fun x22 G9 H locs hq hB => ?_)
        obtain ⟨rfl, i_x22, hp23⟩ := hq
        have k24 : ¬ x22 = 0 → iv_R 0 999 x_3 := fun h => ⟨iv_max i_x_3.1 (Int.le_trans q_0.1 (hp23.1 h).1) (by decide), iv_min i_x_3.2 (Int.le_trans (hp23.1 h).2 q_999.2) (by decide)⟩
        refine lv_if_eq (tgt := 71) hx hb dX12_louder_41 (by decide) (fun c25 => ?_) (fun c25 => ?_)
        · skip
          have i25_x22 : iv_R 0 0 x22 := (i_x22.cutHi (n := 0) (iv_eq_r c25 q_0).2)
          refine lv_iconst (v := (-1)) hx hb dX12_louder_71 (by decide) ?_
          exact iv_iret X hr hlocks hB ⟨rfl, (q_n1.wk (by decide))⟩ dX12_louder_72
        · skip
          have i26_x22 : iv_R 1 1 x22 := iv_ne_lo c25 i_x22 q_0 (by decide)
          have i27_x_3 : iv_R 0 999 x_3 := ((i_x_3.cutLo (n := 0) (k24 c25).1).cutHi (n := 999) (k24 c25).2)
          refine lv_iload hx hb dX12_louder_44 (lv_at hl 6 rfl) ?_
          refine lv_iconst (v := 0) hx hb dX12_louder_46 (by decide) ?_
          refine lv_iconst (v := 2) hx hb dX12_louder_47 (by decide) ?_
          refine iv_cSi X k_good k_mf_X12_isIn k_st_X12_isIn k_ml_X12_56 hB (As := [.int x_5, .int 0, .int 2]) (c_X12_isIn l D tys base G x_5 i_x_5 0 (q_0.wk (by decide)) 2 (q_2.wk (by decide))) ⟨rfl, rfl⟩ ⟨Nat.le_of_ble_eq_true rfl, Nat.le_of_ble_eq_true rfl⟩ ⟨Nat.le_of_ble_eq_true rfl, Nat.le_of_ble_eq_true rfl⟩ rfl rfl hl.1 (Nat.le_of_ble_eq_true rfl) dX12_louder_48 (fun x29 G9 H locs hq hB => ?_)
          obtain ⟨rfl, i_x29, hp30⟩ := hq
          have k31 : ¬ x29 = 0 → iv_R 0 2 x_5 := fun h => ⟨iv_max i_x_5.1 (Int.le_trans q_0.1 (hp30.1 h).1) (by decide), iv_min i_x_5.2 (Int.le_trans (hp30.1 h).2 q_2.2) (by decide)⟩
          refine lv_if_eq (tgt := 71) hx hb dX12_louder_51 (by decide) (fun c32 => ?_) (fun c32 => ?_)
          · skip
            have i32_x29 : iv_R 0 0 x29 := (i_x29.cutHi (n := 0) (iv_eq_r c32 q_0).2)
            refine lv_iconst (v := (-1)) hx hb dX12_louder_71 (by decide) ?_
            exact iv_iret X hr hlocks hB ⟨rfl, (q_n1.wk (by decide))⟩ dX12_louder_72
          · skip
            have i33_x29 : iv_R 1 1 x29 := iv_ne_lo c32 i_x29 q_0 (by decide)
            have i34_x_5 : iv_R 0 2 x_5 := ((i_x_5.cutLo (n := 0) (k31 c32).1).cutHi (n := 2) (k31 c32).2)
            refine lv_iload hx hb dX12_louder_54 (lv_at hl 6 rfl) ?_
            refine lv_iconst (v := 2) hx hb dX12_louder_56 (by decide) ?_
            refine lv_icmp_ge (tgt := 73) hx hb dX12_louder_57 (by decide) (fun c36 => ?_) (fun c36 => ?_)
            · skip
              have i36_x_5 : iv_R 2 2 x_5 := (i34_x_5.cutLo (n := 2) (iv_le_l c36 q_2))
              refine lv_iload_n hx hb dX12_louder_73 rfl (lv_at hl 1 rfl) ?_
              refine lv_istore (lv' := [(7, .int x_0), (0, .ref h0), (1, .int x_0), (2, .int x_1), (3, .int x_2), (4, .int x_3), (5, .int x_4), (6, .int x_5)]) hx hb dX12_louder_74 hl (by decide) rfl (fun ls hl => ?_)
              refine lv_iload_n hx hb dX12_louder_76 rfl (lv_at hl 3 rfl) ?_
              refine lv_istore (lv' := [(8, .int x_1), (7, .int x_0), (0, .ref h0), (1, .int x_0), (2, .int x_1), (3, .int x_2), (4, .int x_3), (5, .int x_4), (6, .int x_5)]) hx hb dX12_louder_77 hl (by decide) rfl (fun ls hl => ?_)
              refine lv_iconst (v := 1) hx hb dX12_louder_79 (by decide) ?_
              refine lv_istore (lv' := [(9, .int 1), (8, .int x_1), (7, .int x_0), (0, .ref h0), (1, .int x_0), (2, .int x_1), (3, .int x_2), (4, .int x_3), (5, .int x_4), (6, .int x_5)]) hx hb dX12_louder_80 hl (by decide) rfl (fun ls hl => ?_)
              have L_82 : ∀ (n_82 : Nat) (H : Heap) (locs : List Loc) (hB : iv_B iv_sh D classes tys base G s.heap H locs) (x38 : Int32) (i_x38 : iv_R (-2147483648) 2147483647 x38) (x39 : Int32) (i_x39 : iv_R (-2147483648) 2147483647 x39) (x40 : Int32) (i_x40 : iv_R 1 61 x40) (hn_82 : (62 - x40.toInt).toNat < n_82) (ls : Array Slot) (hl : lv_has ls 12 [(9, .int x40), (8, .int x39), (7, .int x38), (3, .int x_2), (4, .int x_3), (5, .int x_4), (6, .int x_5)]), W p l e ({ frames := 2, cells := 0, slots := 0, locals := 43 } : Room) s m args below meth c H locs 0 0 (MQ below (iv_Qi iv_sh D classes tys base (fun v G' => G = G' ∧ iv_R (-2147483648) 2147483647 v)) args s 0 0 (iv_A base)) (F0 m 82 ls []) := by
                intro n_82
                induction n_82 with
                | zero => intro H locs hB x38 i_x38 x39 i_x39 x40 i_x40 hn_82 ls hl; exact absurd hn_82 (Nat.not_lt_zero _)
                | succ n_82 ih_82 =>
                  intro H locs hB x38 i_x38 x39 i_x39 x40 i_x40 hn_82 ls hl
                  refine lv_iload hx hb dX12_louder_82 (lv_at hl 0 rfl) ?_
                  refine lv_iload hx hb dX12_louder_84 (lv_at hl 6 rfl) ?_
                  refine lv_iconst (v := 2) hx hb dX12_louder_86 (by decide) ?_
                  refine lv_icmp_ne (tgt := 95) hx hb dX12_louder_87 (by decide) (fun c41 => ?_) (fun c41 => ?_)
                  · skip
                    exact (iv_ne_lo c41 i36_x_5 q_2 (a' := 3) (by decide)).no (by decide)
                  · skip
                    refine lv_bipush (v := 60) hx hb dX12_louder_90 (by decide) ?_
                    refine lv_goto (tgt := 97) hx hb dX12_louder_92 (by decide) ?_
                    refine lv_icmp_gt (tgt := 157) hx hb dX12_louder_97 (by decide) (fun c42 => ?_) (fun c42 => ?_)
                    · skip
                      have i42_x40 : iv_R 61 61 x40 := (i_x40.cutLo (n := 61) (iv_lt_l c42 q_60 (by decide)))
                      refine lv_iload hx hb dX12_louder_157 (lv_at hl 6 rfl) ?_
                      refine lv_iconst (v := 2) hx hb dX12_louder_159 (by decide) ?_
                      refine lv_icmp_ne (tgt := 167) hx hb dX12_louder_160 (by decide) (fun c44 => ?_) (fun c44 => ?_)
                      · skip
                        exact (iv_ne_lo c44 i36_x_5 q_2 (a' := 3) (by decide)).no (by decide)
                      · skip
                        refine lv_iconst (v := (-1)) hx hb dX12_louder_163 (by decide) ?_
                        refine lv_goto (tgt := 179) hx hb dX12_louder_164 (by decide) ?_
                        exact iv_iret X hr hlocks hB ⟨rfl, (q_n1.wk (by decide))⟩ dX12_louder_179
                    · skip
                      have i44_x40 : iv_R 1 60 x40 := (i_x40.cutHi (n := 60) (iv_le_r (iv_nlt c42) q_60))
                      refine lv_iload hx hb dX12_louder_100 (lv_at hl 1 rfl) ?_
                      refine lv_iload_n hx hb dX12_louder_102 rfl (lv_at hl 3 rfl) ?_
                      refine lv_iload hx hb dX12_louder_103 (lv_at hl 4 rfl) ?_
                      refine iv_cSi X k_good k_mf_X12_louderBy k_st_X12_louderBy k_ml_X12_444 hB (As := [.int x39, .int x_2, .int x_3]) (c_X12_louderBy l D tys base G x39 i_x39 x_2 i20_x_2 x_3 i27_x_3) ⟨rfl, rfl⟩ ⟨Nat.le_of_ble_eq_true rfl, Nat.le_of_ble_eq_true rfl⟩ ⟨Nat.le_of_ble_eq_true rfl, Nat.le_of_ble_eq_true rfl⟩ rfl rfl hl.1 (Nat.le_of_ble_eq_true rfl) dX12_louder_105 (fun x46 G9 H locs hq hB => ?_)
                      obtain ⟨rfl, i_x46⟩ := hq
                      refine lv_istore (lv' := [(10, .int x46), (9, .int x40), (8, .int x39), (7, .int x38), (3, .int x_2), (4, .int x_3), (5, .int x_4), (6, .int x_5)]) hx hb dX12_louder_108 hl (by decide) rfl (fun ls hl => ?_)
                      refine lv_iload hx hb dX12_louder_110 (lv_at hl 3 rfl) ?_
                      refine lv_iload_n hx hb dX12_louder_112 rfl (lv_at hl 4 rfl) ?_
                      refine lv_iload hx hb dX12_louder_113 (lv_at hl 5 rfl) ?_
                      refine iv_cSi X k_good k_mf_X12_louderBy k_st_X12_louderBy k_ml_X12_444 hB (As := [.int x38, .int x_2, .int x_3]) (c_X12_louderBy l D tys base G x38 i_x38 x_2 i20_x_2 x_3 i27_x_3) ⟨rfl, rfl⟩ ⟨Nat.le_of_ble_eq_true rfl, Nat.le_of_ble_eq_true rfl⟩ ⟨Nat.le_of_ble_eq_true rfl, Nat.le_of_ble_eq_true rfl⟩ rfl rfl hl.1 (Nat.le_of_ble_eq_true rfl) dX12_louder_115 (fun x47 G9 H locs hq hB => ?_)
                      obtain ⟨rfl, i_x47⟩ := hq
                      refine lv_istore (lv' := [(11, .int x47), (10, .int x46), (9, .int x40), (8, .int x39), (7, .int x38), (3, .int x_2), (4, .int x_3), (5, .int x_4), (6, .int x_5)]) hx hb dX12_louder_118 hl (by decide) rfl (fun ls hl => ?_)
                      refine lv_iload hx hb dX12_louder_120 (lv_at hl 8 rfl) ?_
                      refine lv_iconst (v := 2) hx hb dX12_louder_122 (by decide) ?_
                      refine lv_icmp_ne (tgt := 143) hx hb dX12_louder_123 (by decide) (fun c48 => ?_) (fun c48 => ?_)
                      · skip
                        exact (iv_ne_lo c48 i36_x_5 q_2 (a' := 3) (by decide)).no (by decide)
                      · skip
                        refine lv_iload hx hb dX12_louder_126 (lv_at hl 1 rfl) ?_
                        refine lv_iload hx hb dX12_louder_128 (lv_at hl 4 rfl) ?_
                        refine lv_icmp_ne (tgt := 143) hx hb dX12_louder_130 (by decide) (fun c49 => ?_) (fun c49 => ?_)
                        · skip
                          refine lv_iload hx hb dX12_louder_143 (lv_at hl 1 rfl) ?_
                          refine lv_istore (lv' := [(7, .int x46), (11, .int x47), (10, .int x46), (9, .int x40), (8, .int x39), (3, .int x_2), (4, .int x_3), (5, .int x_4), (6, .int x_5)]) hx hb dX12_louder_145 hl (by decide) rfl (fun ls hl => ?_)
                          refine lv_iload hx hb dX12_louder_147 (lv_at hl 1 rfl) ?_
                          refine lv_istore (lv' := [(8, .int x47), (7, .int x46), (11, .int x47), (10, .int x46), (9, .int x40), (3, .int x_2), (4, .int x_3), (5, .int x_4), (6, .int x_5)]) hx hb dX12_louder_149 hl (by decide) rfl (fun ls hl => ?_)
                          refine iv_iinc hx hb i44_x40 (lo := 2) (hi := 61) (by decide) dX12_louder_151 hl (k := 4) rfl (by decide) (fun x50 ls e_x50 i_x50 hl => ?_)
                          have hl : lv_has ls 12 [(9, .int x50), (8, .int x47), (7, .int x46), (11, .int x47), (10, .int x46), (3, .int x_2), (4, .int x_3), (5, .int x_4), (6, .int x_5)] := hl
                          refine lv_goto (tgt := 82) hx hb dX12_louder_154 (by decide) ?_
                          exact ih_82 _ _ hB x46 i_x46 x47 i_x47 x50 (i_x50.wk (by decide)) (iv_mup (c := 1) i_x40 (by decide) (by decide) (by omega) hn_82) _ (lv_sub hl [0, 1, 2, 5, 6, 7, 8] rfl)
                        · skip
                          refine lv_iload hx hb dX12_louder_133 (lv_at hl 0 rfl) ?_
                          refine lv_iload hx hb dX12_louder_135 (lv_at hl 3 rfl) ?_
                          refine lv_icmp_ne (tgt := 143) hx hb dX12_louder_137 (by decide) (fun c51 => ?_) (fun c51 => ?_)
                          · skip
                            refine lv_iload hx hb dX12_louder_143 (lv_at hl 1 rfl) ?_
                            refine lv_istore (lv' := [(7, .int x46), (11, .int x47), (10, .int x46), (9, .int x40), (8, .int x39), (3, .int x_2), (4, .int x_3), (5, .int x_4), (6, .int x_5)]) hx hb dX12_louder_145 hl (by decide) rfl (fun ls hl => ?_)
                            refine lv_iload hx hb dX12_louder_147 (lv_at hl 1 rfl) ?_
                            refine lv_istore (lv' := [(8, .int x47), (7, .int x46), (11, .int x47), (10, .int x46), (9, .int x40), (3, .int x_2), (4, .int x_3), (5, .int x_4), (6, .int x_5)]) hx hb dX12_louder_149 hl (by decide) rfl (fun ls hl => ?_)
                            refine iv_iinc hx hb i44_x40 (lo := 2) (hi := 61) (by decide) dX12_louder_151 hl (k := 4) rfl (by decide) (fun x52 ls e_x52 i_x52 hl => ?_)
                            have hl : lv_has ls 12 [(9, .int x52), (8, .int x47), (7, .int x46), (11, .int x47), (10, .int x46), (3, .int x_2), (4, .int x_3), (5, .int x_4), (6, .int x_5)] := hl
                            refine lv_goto (tgt := 82) hx hb dX12_louder_154 (by decide) ?_
                            exact ih_82 _ _ hB x46 i_x46 x47 i_x47 x52 (i_x52.wk (by decide)) (iv_mup (c := 1) i_x40 (by decide) (by decide) (by omega) hn_82) _ (lv_sub hl [0, 1, 2, 5, 6, 7, 8] rfl)
                          · skip
                            refine lv_iload hx hb dX12_louder_140 (lv_at hl 2 rfl) ?_
                            exact iv_iret X hr hlocks hB ⟨rfl, (i44_x40.wk (by decide))⟩ dX12_louder_142
              exact L_82 _ _ _ hB x_0 (i6_x_0.wk (by decide)) x_1 (i13_x_1.wk (by decide)) 1 (q_1.wk (by decide)) (Nat.lt_succ_self _) _ (lv_sub hl [0, 1, 2, 6, 7, 8, 9] rfl)
            · skip
              have i52_x_5 : iv_R 0 1 x_5 := (i34_x_5.cutHi (n := 1) (iv_lt_r (iv_nle c36) q_2 (by decide)))
              refine lv_iload hx hb dX12_louder_60 (lv_at hl 5 rfl) ?_
              refine lv_iconst (v := 0) hx hb dX12_louder_62 (by decide) ?_
              refine lv_bipush (v := 60) hx hb dX12_louder_63 (by decide) ?_
              refine iv_cSi X k_good k_mf_X12_isIn k_st_X12_isIn k_ml_X12_56 hB (As := [.int x_4, .int 0, .int 60]) (c_X12_isIn l D tys base G x_4 i_x_4 0 (q_0.wk (by decide)) 60 (q_60.wk (by decide))) ⟨rfl, rfl⟩ ⟨Nat.le_of_ble_eq_true rfl, Nat.le_of_ble_eq_true rfl⟩ ⟨Nat.le_of_ble_eq_true rfl, Nat.le_of_ble_eq_true rfl⟩ rfl rfl hl.1 (Nat.le_of_ble_eq_true rfl) dX12_louder_65 (fun x54 G9 H locs hq hB => ?_)
              obtain ⟨rfl, i_x54, hp55⟩ := hq
              have k56 : ¬ x54 = 0 → iv_R 0 60 x_4 := fun h => ⟨iv_max i_x_4.1 (Int.le_trans q_0.1 (hp55.1 h).1) (by decide), iv_min i_x_4.2 (Int.le_trans (hp55.1 h).2 q_60.2) (by decide)⟩
              refine lv_if_ne (tgt := 73) hx hb dX12_louder_68 (by decide) (fun c57 => ?_) (fun c57 => ?_)
              · skip
                have i57_x54 : iv_R 1 1 x54 := iv_ne_lo c57 i_x54 q_0 (by decide)
                have i58_x_4 : iv_R 0 60 x_4 := ((i_x_4.cutLo (n := 0) (k56 c57).1).cutHi (n := 60) (k56 c57).2)
                refine lv_iload_n hx hb dX12_louder_73 rfl (lv_at hl 1 rfl) ?_
                refine lv_istore (lv' := [(7, .int x_0), (0, .ref h0), (1, .int x_0), (2, .int x_1), (3, .int x_2), (4, .int x_3), (5, .int x_4), (6, .int x_5)]) hx hb dX12_louder_74 hl (by decide) rfl (fun ls hl => ?_)
                refine lv_iload_n hx hb dX12_louder_76 rfl (lv_at hl 3 rfl) ?_
                refine lv_istore (lv' := [(8, .int x_1), (7, .int x_0), (0, .ref h0), (1, .int x_0), (2, .int x_1), (3, .int x_2), (4, .int x_3), (5, .int x_4), (6, .int x_5)]) hx hb dX12_louder_77 hl (by decide) rfl (fun ls hl => ?_)
                refine lv_iconst (v := 1) hx hb dX12_louder_79 (by decide) ?_
                refine lv_istore (lv' := [(9, .int 1), (8, .int x_1), (7, .int x_0), (0, .ref h0), (1, .int x_0), (2, .int x_1), (3, .int x_2), (4, .int x_3), (5, .int x_4), (6, .int x_5)]) hx hb dX12_louder_80 hl (by decide) rfl (fun ls hl => ?_)
                have L_82 : ∀ (n_82 : Nat) (H : Heap) (locs : List Loc) (hB : iv_B iv_sh D classes tys base G s.heap H locs) (x60 : Int32) (i_x60 : iv_R (-2147483648) 2147483647 x60) (x61 : Int32) (i_x61 : iv_R (-2147483648) 2147483647 x61) (x62 : Int32) (i_x62 : iv_R 1 61 x62) (hn_82 : (62 - x62.toInt).toNat < n_82) (ls : Array Slot) (hl : lv_has ls 12 [(9, .int x62), (8, .int x61), (7, .int x60), (3, .int x_2), (4, .int x_3), (5, .int x_4), (6, .int x_5)]), W p l e ({ frames := 2, cells := 0, slots := 0, locals := 43 } : Room) s m args below meth c H locs 0 0 (MQ below (iv_Qi iv_sh D classes tys base (fun v G' => G = G' ∧ iv_R (-2147483648) 2147483647 v)) args s 0 0 (iv_A base)) (F0 m 82 ls []) := by
                  intro n_82
                  induction n_82 with
                  | zero => intro H locs hB x60 i_x60 x61 i_x61 x62 i_x62 hn_82 ls hl; exact absurd hn_82 (Nat.not_lt_zero _)
                  | succ n_82 ih_82 =>
                    intro H locs hB x60 i_x60 x61 i_x61 x62 i_x62 hn_82 ls hl
                    refine lv_iload hx hb dX12_louder_82 (lv_at hl 0 rfl) ?_
                    refine lv_iload hx hb dX12_louder_84 (lv_at hl 6 rfl) ?_
                    refine lv_iconst (v := 2) hx hb dX12_louder_86 (by decide) ?_
                    refine lv_icmp_ne (tgt := 95) hx hb dX12_louder_87 (by decide) (fun c63 => ?_) (fun c63 => ?_)
                    · skip
                      refine lv_iload hx hb dX12_louder_95 (lv_at hl 5 rfl) ?_
                      refine lv_icmp_gt (tgt := 157) hx hb dX12_louder_97 (by decide) (fun c64 => ?_) (fun c64 => ?_)
                      · skip
                        refine lv_iload hx hb dX12_louder_157 (lv_at hl 6 rfl) ?_
                        refine lv_iconst (v := 2) hx hb dX12_louder_159 (by decide) ?_
                        refine lv_icmp_ne (tgt := 167) hx hb dX12_louder_160 (by decide) (fun c65 => ?_) (fun c65 => ?_)
                        · skip
                          refine lv_iload hx hb dX12_louder_167 (lv_at hl 6 rfl) ?_
                          refine lv_if_ne (tgt := 177) hx hb dX12_louder_169 (by decide) (fun c66 => ?_) (fun c66 => ?_)
                          · skip
                            have i66_x_5 : iv_R 1 1 x_5 := iv_ne_lo c66 i52_x_5 q_0 (by decide)
                            refine lv_iload hx hb dX12_louder_177 (lv_at hl 1 rfl) ?_
                            exact iv_iret X hr hlocks hB ⟨rfl, i_x61⟩ dX12_louder_179
                          · skip
                            have i67_x_5 : iv_R 0 0 x_5 := (i52_x_5.cutHi (n := 0) (iv_eq_r c66 q_0).2)
                            refine lv_iload hx hb dX12_louder_172 (lv_at hl 2 rfl) ?_
                            refine lv_goto (tgt := 179) hx hb dX12_louder_174 (by decide) ?_
                            exact iv_iret X hr hlocks hB ⟨rfl, i_x60⟩ dX12_louder_179
                        · skip
                          exact absurd c65 c63
                      · skip
                        have i68_x62 : iv_R 1 60 x62 := (i_x62.cutHi (n := 60) (iv_le_r (iv_nlt c64) i58_x_4))
                        have i69_x_4 : iv_R 1 60 x_4 := (i58_x_4.cutLo (n := 1) (iv_le_l (iv_nlt c64) i_x62))
                        refine lv_iload hx hb dX12_louder_100 (lv_at hl 1 rfl) ?_
                        refine lv_iload_n hx hb dX12_louder_102 rfl (lv_at hl 3 rfl) ?_
                        refine lv_iload hx hb dX12_louder_103 (lv_at hl 4 rfl) ?_
                        refine iv_cSi X k_good k_mf_X12_louderBy k_st_X12_louderBy k_ml_X12_444 hB (As := [.int x61, .int x_2, .int x_3]) (c_X12_louderBy l D tys base G x61 i_x61 x_2 i20_x_2 x_3 i27_x_3) ⟨rfl, rfl⟩ ⟨Nat.le_of_ble_eq_true rfl, Nat.le_of_ble_eq_true rfl⟩ ⟨Nat.le_of_ble_eq_true rfl, Nat.le_of_ble_eq_true rfl⟩ rfl rfl hl.1 (Nat.le_of_ble_eq_true rfl) dX12_louder_105 (fun x71 G9 H locs hq hB => ?_)
                        obtain ⟨rfl, i_x71⟩ := hq
                        refine lv_istore (lv' := [(10, .int x71), (9, .int x62), (8, .int x61), (7, .int x60), (3, .int x_2), (4, .int x_3), (5, .int x_4), (6, .int x_5)]) hx hb dX12_louder_108 hl (by decide) rfl (fun ls hl => ?_)
                        refine lv_iload hx hb dX12_louder_110 (lv_at hl 3 rfl) ?_
                        refine lv_iload_n hx hb dX12_louder_112 rfl (lv_at hl 4 rfl) ?_
                        refine lv_iload hx hb dX12_louder_113 (lv_at hl 5 rfl) ?_
                        refine iv_cSi X k_good k_mf_X12_louderBy k_st_X12_louderBy k_ml_X12_444 hB (As := [.int x60, .int x_2, .int x_3]) (c_X12_louderBy l D tys base G x60 i_x60 x_2 i20_x_2 x_3 i27_x_3) ⟨rfl, rfl⟩ ⟨Nat.le_of_ble_eq_true rfl, Nat.le_of_ble_eq_true rfl⟩ ⟨Nat.le_of_ble_eq_true rfl, Nat.le_of_ble_eq_true rfl⟩ rfl rfl hl.1 (Nat.le_of_ble_eq_true rfl) dX12_louder_115 (fun x72 G9 H locs hq hB => ?_)
                        obtain ⟨rfl, i_x72⟩ := hq
                        refine lv_istore (lv' := [(11, .int x72), (10, .int x71), (9, .int x62), (8, .int x61), (7, .int x60), (3, .int x_2), (4, .int x_3), (5, .int x_4), (6, .int x_5)]) hx hb dX12_louder_118 hl (by decide) rfl (fun ls hl => ?_)
                        refine lv_iload hx hb dX12_louder_120 (lv_at hl 8 rfl) ?_
                        refine lv_iconst (v := 2) hx hb dX12_louder_122 (by decide) ?_
                        refine lv_icmp_ne (tgt := 143) hx hb dX12_louder_123 (by decide) (fun c73 => ?_) (fun c73 => ?_)
                        · skip
                          refine lv_iload hx hb dX12_louder_143 (lv_at hl 1 rfl) ?_
                          refine lv_istore (lv' := [(7, .int x71), (11, .int x72), (10, .int x71), (9, .int x62), (8, .int x61), (3, .int x_2), (4, .int x_3), (5, .int x_4), (6, .int x_5)]) hx hb dX12_louder_145 hl (by decide) rfl (fun ls hl => ?_)
                          refine lv_iload hx hb dX12_louder_147 (lv_at hl 1 rfl) ?_
                          refine lv_istore (lv' := [(8, .int x72), (7, .int x71), (11, .int x72), (10, .int x71), (9, .int x62), (3, .int x_2), (4, .int x_3), (5, .int x_4), (6, .int x_5)]) hx hb dX12_louder_149 hl (by decide) rfl (fun ls hl => ?_)
                          refine iv_iinc hx hb i68_x62 (lo := 2) (hi := 61) (by decide) dX12_louder_151 hl (k := 4) rfl (by decide) (fun x74 ls e_x74 i_x74 hl => ?_)
                          have hl : lv_has ls 12 [(9, .int x74), (8, .int x72), (7, .int x71), (11, .int x72), (10, .int x71), (3, .int x_2), (4, .int x_3), (5, .int x_4), (6, .int x_5)] := hl
                          refine lv_goto (tgt := 82) hx hb dX12_louder_154 (by decide) ?_
                          exact ih_82 _ _ hB x71 i_x71 x72 i_x72 x74 (i_x74.wk (by decide)) (iv_mup (c := 1) i_x62 (by decide) (by decide) (by omega) hn_82) _ (lv_sub hl [0, 1, 2, 5, 6, 7, 8] rfl)
                        · skip
                          exact absurd c73 c63
                    · skip
                      exact (i52_x_5.cutLo (n := 2) (iv_eq_r c63 q_2).1).no (by decide)
                exact L_82 _ _ _ hB x_0 (i6_x_0.wk (by decide)) x_1 (i13_x_1.wk (by decide)) 1 (q_1.wk (by decide)) (Nat.lt_succ_self _) _ (lv_sub hl [0, 1, 2, 6, 7, 8, 9] rfl)
              · skip
                have i74_x54 : iv_R 0 0 x54 := (i_x54.cutHi (n := 0) (iv_eq_r c57 q_0).2)
                refine lv_iconst (v := (-1)) hx hb dX12_louder_71 (by decide) ?_
                exact iv_iret X hr hlocks hB ⟨rfl, (q_n1.wk (by decide))⟩ dX12_louder_72
theorem dX12_notes_0 : decode cX12_notes 0 = .ok (.aload_n 0, 1) := by decide +kernel
theorem dX12_notes_1 : decode cX12_notes 1 = .ok (.getfield 7, 3) := by decide +kernel
theorem dX12_notes_4 : decode cX12_notes 4 = .ok (.iconst 3, 1) := by decide +kernel
theorem dX12_notes_5 : decode cX12_notes 5 = .ok (.iaload, 1) := by decide +kernel
theorem dX12_notes_6 : decode cX12_notes 6 = .ok (.bipush 120, 2) := by decide +kernel
theorem dX12_notes_8 : decode cX12_notes 8 = .ok (.if_icmp .ne 4, 3) := by decide +kernel
theorem dX12_notes_11 : decode cX12_notes 11 = .ok (.return_, 1) := by decide +kernel
theorem dX12_notes_12 : decode cX12_notes 12 = .ok (.sipush 266, 3) := by decide +kernel
theorem dX12_notes_15 : decode cX12_notes 15 = .ok (.iconst 4, 1) := by decide +kernel
theorem dX12_notes_16 : decode cX12_notes 16 = .ok (.aload_n 0, 1) := by decide +kernel
theorem dX12_notes_17 : decode cX12_notes 17 = .ok (.getfield 7, 3) := by decide +kernel
theorem dX12_notes_20 : decode cX12_notes 20 = .ok (.iconst 3, 1) := by decide +kernel
theorem dX12_notes_21 : decode cX12_notes 21 = .ok (.iaload, 1) := by decide +kernel
theorem dX12_notes_22 : decode cX12_notes 22 = .ok (.imul, 1) := by decide +kernel
theorem dX12_notes_23 : decode cX12_notes 23 = .ok (.iadd, 1) := by decide +kernel
theorem dX12_notes_24 : decode cX12_notes 24 = .ok (.istore 4, 2) := by decide +kernel
theorem dX12_notes_26 : decode cX12_notes 26 = .ok (.aload_n 0, 1) := by decide +kernel
theorem dX12_notes_27 : decode cX12_notes 27 = .ok (.getfield 7, 3) := by decide +kernel
theorem dX12_notes_30 : decode cX12_notes 30 = .ok (.iload 4, 2) := by decide +kernel
theorem dX12_notes_32 : decode cX12_notes 32 = .ok (.aload_n 0, 1) := by decide +kernel
theorem dX12_notes_33 : decode cX12_notes 33 = .ok (.getfield 7, 3) := by decide +kernel
theorem dX12_notes_36 : decode cX12_notes 36 = .ok (.iconst 0, 1) := by decide +kernel
theorem dX12_notes_37 : decode cX12_notes 37 = .ok (.iaload, 1) := by decide +kernel
theorem dX12_notes_38 : decode cX12_notes 38 = .ok (.iastore, 1) := by decide +kernel
theorem dX12_notes_39 : decode cX12_notes 39 = .ok (.aload_n 0, 1) := by decide +kernel
theorem dX12_notes_40 : decode cX12_notes 40 = .ok (.getfield 7, 3) := by decide +kernel
theorem dX12_notes_43 : decode cX12_notes 43 = .ok (.iload 4, 2) := by decide +kernel
theorem dX12_notes_45 : decode cX12_notes 45 = .ok (.iconst 1, 1) := by decide +kernel
theorem dX12_notes_46 : decode cX12_notes 46 = .ok (.iadd, 1) := by decide +kernel
theorem dX12_notes_47 : decode cX12_notes 47 = .ok (.iload_n 1, 1) := by decide +kernel
theorem dX12_notes_48 : decode cX12_notes 48 = .ok (.iastore, 1) := by decide +kernel
theorem dX12_notes_49 : decode cX12_notes 49 = .ok (.aload_n 0, 1) := by decide +kernel
theorem dX12_notes_50 : decode cX12_notes 50 = .ok (.getfield 7, 3) := by decide +kernel
theorem dX12_notes_53 : decode cX12_notes 53 = .ok (.iload 4, 2) := by decide +kernel
theorem dX12_notes_55 : decode cX12_notes 55 = .ok (.iconst 2, 1) := by decide +kernel
theorem dX12_notes_56 : decode cX12_notes 56 = .ok (.iadd, 1) := by decide +kernel
theorem dX12_notes_57 : decode cX12_notes 57 = .ok (.iload_n 2, 1) := by decide +kernel
theorem dX12_notes_58 : decode cX12_notes 58 = .ok (.iastore, 1) := by decide +kernel
theorem dX12_notes_59 : decode cX12_notes 59 = .ok (.aload_n 0, 1) := by decide +kernel
theorem dX12_notes_60 : decode cX12_notes 60 = .ok (.getfield 7, 3) := by decide +kernel
theorem dX12_notes_63 : decode cX12_notes 63 = .ok (.iload 4, 2) := by decide +kernel
theorem dX12_notes_65 : decode cX12_notes 65 = .ok (.iconst 3, 1) := by decide +kernel
theorem dX12_notes_66 : decode cX12_notes 66 = .ok (.iadd, 1) := by decide +kernel
theorem dX12_notes_67 : decode cX12_notes 67 = .ok (.iload_n 3, 1) := by decide +kernel
theorem dX12_notes_68 : decode cX12_notes 68 = .ok (.iastore, 1) := by decide +kernel
theorem dX12_notes_69 : decode cX12_notes 69 = .ok (.aload_n 0, 1) := by decide +kernel
theorem dX12_notes_70 : decode cX12_notes 70 = .ok (.getfield 7, 3) := by decide +kernel
theorem dX12_notes_73 : decode cX12_notes 73 = .ok (.iconst 3, 1) := by decide +kernel
theorem dX12_notes_74 : decode cX12_notes 74 = .ok (.dup2, 1) := by decide +kernel
theorem dX12_notes_75 : decode cX12_notes 75 = .ok (.iaload, 1) := by decide +kernel
theorem dX12_notes_76 : decode cX12_notes 76 = .ok (.iconst 1, 1) := by decide +kernel
theorem dX12_notes_77 : decode cX12_notes 77 = .ok (.iadd, 1) := by decide +kernel
theorem dX12_notes_78 : decode cX12_notes 78 = .ok (.iastore, 1) := by decide +kernel
theorem dX12_notes_79 : decode cX12_notes 79 = .ok (.return_, 1) := by decide +kernel
set_option maxHeartbeats 4000000 in
set_option maxRecDepth 100000 in
theorem c_X12_notes (l : Launch) (D : va_G) (tys : List (ClassId × FieldType)) (base : Nat) (G : iv_G) (h0 : Nat) (g_h0 : Nat → Int32) (r_h0 : Nat → Nat) (a_h0 : G h0 = some (12, g_h0, r_h0)) (x_0 : Int32) (i_x_0 : iv_R 0 2 x_0) (x_1 : Int32) (i_x_1 : iv_R 0 19 x_1) (x_2 : Int32) (i_x_2 : iv_R (-1) 19 x_2) : Met l yX12_notes (Cond.code yX12_notes cX12_notes 5 none :: iv_W0) ({ frames := 0, cells := 0, slots := 0, locals := 0 }) (iv_Pc iv_sh D classes tys base G [.ref h0, .int x_0, .int x_1, .int x_2]) (iv_Qv iv_sh D classes tys base (fun G' => iv_Md [60] G G')) 0 0 (iv_A base) := by
  refine iv_head (by decide) (Nat.le_of_ble_eq_true rfl) ?_
  intro p e s m args below meth c ls X hr hlocks hname hB hl
  have X := X
  have hx := X.1.1
  have hb := X.1.2.1
  have hM : iv_Md [60] G G := iv_Md.rf
  have hl : lv_has ls 5 [(0, .ref h0), (1, .int x_0), (2, .int x_1), (3, .int x_2)] := hl
  refine lv_aload_n hx hb dX12_notes_0 rfl (lv_at hl 0 rfl) ?_
  refine iv_getr X ft_X12 hB a_h0 sh_12 0 (by decide) rfl k_fl_X12_7 dX12_notes_1 (fun b1 g_b1 r_b1 e_b1 a_b1 => ?_)
  refine lv_iconst (v := 3) hx hb dX12_notes_4 (by decide) ?_
  refine iv_wald_c X hB a_b1 q_3 (by decide) (lo := 0) (hi' := 120) (by decide) dX12_notes_5 (fun x2 e_x2 i_x2 => ?_)
  refine lv_bipush (v := 120) hx hb dX12_notes_6 (by decide) ?_
  refine lv_icmp_ne (tgt := 12) hx hb dX12_notes_8 (by decide) (fun c3 => ?_) (fun c3 => ?_)
  · skip
    have i3_x2 : iv_R 0 119 x2 := iv_ne_hi c3 i_x2 q_120 (by decide)
    refine lv_sipush (v := 266) hx hb dX12_notes_12 (by decide) ?_
    refine lv_iconst (v := 4) hx hb dX12_notes_15 (by decide) ?_
    refine lv_aload_n hx hb dX12_notes_16 rfl (lv_at hl 0 rfl) ?_
    refine iv_getr0 X ft_X12 hB a_h0 sh_12 0 (by decide) rfl k_fl_X12_7 dX12_notes_17 e_b1 ?_
    refine lv_iconst (v := 3) hx hb dX12_notes_20 (by decide) ?_
    refine iv_wald_c X hB a_b1 q_3 (by decide) (lo := 0) (hi' := 120) (by decide) dX12_notes_21 (fun x5 e_x5 k_x5 => ?_)
    obtain rfl : x2 = x5 := e_x2.trans e_x5.symm
    refine iv_imul hx hb q_4 i3_x2 (lo := 0) (hi := 476) (by decide) dX12_notes_22 (fun x6 e_x6 i_x6 => ?_)
    refine iv_iadd hx hb q_266 i_x6 (lo := 266) (hi := 742) (by decide) dX12_notes_23 (fun x7 e_x7 i_x7 => ?_)
    refine lv_istore (lv' := [(4, .int x7), (0, .ref h0), (1, .int x_0), (2, .int x_1), (3, .int x_2)]) hx hb dX12_notes_24 hl (by decide) rfl (fun ls hl => ?_)
    refine lv_aload_n hx hb dX12_notes_26 rfl (lv_at hl 1 rfl) ?_
    refine iv_getr0 X ft_X12 hB a_h0 sh_12 0 (by decide) rfl k_fl_X12_7 dX12_notes_27 e_b1 ?_
    refine lv_iload hx hb dX12_notes_30 (lv_at hl 0 rfl) ?_
    refine lv_aload_n hx hb dX12_notes_32 rfl (lv_at hl 1 rfl) ?_
    refine iv_getr0 X ft_X12 hB a_h0 sh_12 0 (by decide) rfl k_fl_X12_7 dX12_notes_33 e_b1 ?_
    refine lv_iconst (v := 0) hx hb dX12_notes_36 (by decide) ?_
    refine iv_wald_c X hB a_b1 q_0 (by decide) (lo := (-2147483648)) (hi' := 2147483647) (by decide) dX12_notes_37 (fun x8 e_x8 i_x8 => ?_)
    refine iv_wast_f X hB a_b1 i_x7 (by decide) dX12_notes_38 (fun H locs hB => ?_)
    have hm := iv_Md.put (x := x8) a_b1 (j := x7.toNatClampNeg) (iv_n146 i_x7 (by decide)) (fun h => absurd h (by decide))
    have h9 := iv_up_eq (G := G) (a := b1) (k := (60, upd g_b1 x7.toNatClampNeg x8, r_b1))
    generalize iv_up G b1 _ = G9 at hB hm h9
    have hM := hM.stp hm (by decide)
    generalize hgn_g10 : upd g_b1 _ _ = g10 at h9
    have a_h0 := hm.at a_h0 (by decide)
    have a_b1 := h9
    have e11 : x2 = g10 3 := by rw [← hgn_g10]; exact e_x2.trans (iv_updne (iv_neN i_x7 (by decide)))
    have e12 : x8 = g10 0 := by rw [← hgn_g10]; exact e_x8.trans (iv_updne (iv_neN i_x7 (by decide)))
    refine lv_aload_n hx hb dX12_notes_39 rfl (lv_at hl 1 rfl) ?_
    refine iv_getr0 X ft_X12 hB a_h0 sh_12 0 (by decide) rfl k_fl_X12_7 dX12_notes_40 e_b1 ?_
    refine lv_iload hx hb dX12_notes_43 (lv_at hl 0 rfl) ?_
    refine lv_iconst (v := 1) hx hb dX12_notes_45 (by decide) ?_
    refine iv_iadd hx hb i_x7 q_1 (lo := 267) (hi := 743) (by decide) dX12_notes_46 (fun x13 e_x13 i_x13 => ?_)
    refine lv_iload_n hx hb dX12_notes_47 rfl (lv_at hl 2 rfl) ?_
    refine iv_wast_f X hB a_b1 i_x13 (by decide) dX12_notes_48 (fun H locs hB => ?_)
    have hm := iv_Md.put (x := x_0) a_b1 (j := x13.toNatClampNeg) (iv_n146 i_x13 (by decide)) (fun h => absurd h (by decide))
    have h9 := iv_up_eq (G := G9) (a := b1) (k := (60, upd g10 x13.toNatClampNeg x_0, r_b1))
    generalize iv_up G9 b1 _ = G14 at hB hm h9
    have hM := hM.stp hm (by decide)
    generalize hgn_g15 : upd g10 _ _ = g15 at h9
    have a_h0 := hm.at a_h0 (by decide)
    have a_b1 := h9
    have e16 : x2 = g15 3 := by rw [← hgn_g15]; exact e11.trans (iv_updne (iv_neN i_x13 (by decide)))
    have e17 : x8 = g15 0 := by rw [← hgn_g15]; exact e12.trans (iv_updne (iv_neN i_x13 (by decide)))
    refine lv_aload_n hx hb dX12_notes_49 rfl (lv_at hl 1 rfl) ?_
    refine iv_getr0 X ft_X12 hB a_h0 sh_12 0 (by decide) rfl k_fl_X12_7 dX12_notes_50 e_b1 ?_
    refine lv_iload hx hb dX12_notes_53 (lv_at hl 0 rfl) ?_
    refine lv_iconst (v := 2) hx hb dX12_notes_55 (by decide) ?_
    refine iv_iadd hx hb i_x7 q_2 (lo := 268) (hi := 744) (by decide) dX12_notes_56 (fun x18 e_x18 i_x18 => ?_)
    refine lv_iload_n hx hb dX12_notes_57 rfl (lv_at hl 3 rfl) ?_
    refine iv_wast_f X hB a_b1 i_x18 (by decide) dX12_notes_58 (fun H locs hB => ?_)
    have hm := iv_Md.put (x := x_1) a_b1 (j := x18.toNatClampNeg) (iv_n146 i_x18 (by decide)) (fun h => absurd h (by decide))
    have h9 := iv_up_eq (G := G14) (a := b1) (k := (60, upd g15 x18.toNatClampNeg x_1, r_b1))
    generalize iv_up G14 b1 _ = G19 at hB hm h9
    have hM := hM.stp hm (by decide)
    generalize hgn_g20 : upd g15 _ _ = g20 at h9
    have a_h0 := hm.at a_h0 (by decide)
    have a_b1 := h9
    have e21 : x2 = g20 3 := by rw [← hgn_g20]; exact e16.trans (iv_updne (iv_neN i_x18 (by decide)))
    have e22 : x8 = g20 0 := by rw [← hgn_g20]; exact e17.trans (iv_updne (iv_neN i_x18 (by decide)))
    refine lv_aload_n hx hb dX12_notes_59 rfl (lv_at hl 1 rfl) ?_
    refine iv_getr0 X ft_X12 hB a_h0 sh_12 0 (by decide) rfl k_fl_X12_7 dX12_notes_60 e_b1 ?_
    refine lv_iload hx hb dX12_notes_63 (lv_at hl 0 rfl) ?_
    refine lv_iconst (v := 3) hx hb dX12_notes_65 (by decide) ?_
    refine iv_iadd hx hb i_x7 q_3 (lo := 269) (hi := 745) (by decide) dX12_notes_66 (fun x23 e_x23 i_x23 => ?_)
    refine lv_iload_n hx hb dX12_notes_67 rfl (lv_at hl 4 rfl) ?_
    refine iv_wast_f X hB a_b1 i_x23 (by decide) dX12_notes_68 (fun H locs hB => ?_)
    have hm := iv_Md.put (x := x_2) a_b1 (j := x23.toNatClampNeg) (iv_n146 i_x23 (by decide)) (fun h => absurd h (by decide))
    have h9 := iv_up_eq (G := G19) (a := b1) (k := (60, upd g20 x23.toNatClampNeg x_2, r_b1))
    generalize iv_up G19 b1 _ = G24 at hB hm h9
    have hM := hM.stp hm (by decide)
    generalize hgn_g25 : upd g20 _ _ = g25 at h9
    have a_h0 := hm.at a_h0 (by decide)
    have a_b1 := h9
    have e26 : x2 = g25 3 := by rw [← hgn_g25]; exact e21.trans (iv_updne (iv_neN i_x23 (by decide)))
    have e27 : x8 = g25 0 := by rw [← hgn_g25]; exact e22.trans (iv_updne (iv_neN i_x23 (by decide)))
    refine lv_aload_n hx hb dX12_notes_69 rfl (lv_at hl 1 rfl) ?_
    refine iv_getr0 X ft_X12 hB a_h0 sh_12 0 (by decide) rfl k_fl_X12_7 dX12_notes_70 e_b1 ?_
    refine lv_iconst (v := 3) hx hb dX12_notes_73 (by decide) ?_
    refine lv_dup2_11 hx hb dX12_notes_74 rfl rfl ?_
    refine iv_wald_c X hB a_b1 q_3 (by decide) (lo := 0) (hi' := 120) (by decide) dX12_notes_75 (fun x28 e_x28 k_x28 => ?_)
    obtain rfl : x2 = x28 := e26.trans e_x28.symm
    refine lv_iconst (v := 1) hx hb dX12_notes_76 (by decide) ?_
    refine iv_iadd hx hb i3_x2 q_1 (lo := 1) (hi := 120) (by decide) dX12_notes_77 (fun x29 e_x29 i_x29 => ?_)
    refine iv_wast_c X hB a_b1 q_3 (by decide) (lo := 0) (hi' := 120) (by decide) (i_x29.wk (by decide)) dX12_notes_78 (fun H locs hB => ?_)
    have hB : iv_B iv_sh D classes tys base (iv_up G24 b1 (60, upd g25 3 x29, r_b1)) s.heap H locs := hB
    have hm := iv_Md.put (x := x29) a_b1 (j := 3) (by decide) (fun h => absurd h (by decide))
    have h9 := iv_up_eq (G := G24) (a := b1) (k := (60, upd g25 3 x29, r_b1))
    generalize iv_up G24 b1 _ = G30 at hB hm h9
    have hM := hM.stp hm (by decide)
    generalize hgn_g31 : upd g25 _ _ = g31 at h9
    have a_h0 := hm.at a_h0 (by decide)
    have a_b1 := h9
    have e32 : x8 = g31 0 := by rw [← hgn_g31]; exact e27.trans (iv_updne (by decide))
    have e33 : x29 = g31 3 := by rw [← hgn_g31]; simp [upd]
    exact iv_vret X hr hlocks hB hM dX12_notes_79
  · skip
    have i33_x2 : iv_R 120 120 x2 := (i_x2.cutLo (n := 120) (iv_eq_r c3 q_120).1)
    exact iv_vret X hr hlocks hB hM dX12_notes_11
theorem dX12_melt_0 : decode cX12_melt 0 = .ok (.aload_n 0, 1) := by decide +kernel
theorem dX12_melt_1 : decode cX12_melt 1 = .ok (.iload_n 1, 1) := by decide +kernel
theorem dX12_melt_2 : decode cX12_melt 2 = .ok (.invokevirtual 76, 3) := by decide +kernel
theorem dX12_melt_5 : decode cX12_melt 5 = .ok (.ifCond .eq 14, 3) := by decide +kernel
theorem dX12_melt_8 : decode cX12_melt 8 = .ok (.aload_n 0, 1) := by decide +kernel
theorem dX12_melt_9 : decode cX12_melt 9 = .ok (.iload_n 1, 1) := by decide +kernel
theorem dX12_melt_10 : decode cX12_melt 10 = .ok (.bipush 6, 2) := by decide +kernel
theorem dX12_melt_12 : decode cX12_melt 12 = .ok (.invokevirtual 282, 3) := by decide +kernel
theorem dX12_melt_15 : decode cX12_melt 15 = .ok (.iconst 2, 1) := by decide +kernel
theorem dX12_melt_16 : decode cX12_melt 16 = .ok (.if_icmp .ne 5, 3) := by decide +kernel
theorem dX12_melt_19 : decode cX12_melt 19 = .ok (.iconst 0, 1) := by decide +kernel
theorem dX12_melt_20 : decode cX12_melt 20 = .ok (.ireturn, 1) := by decide +kernel
theorem dX12_melt_21 : decode cX12_melt 21 = .ok (.aload_n 0, 1) := by decide +kernel
theorem dX12_melt_22 : decode cX12_melt 22 = .ok (.invokevirtual 329, 3) := by decide +kernel
theorem dX12_melt_25 : decode cX12_melt 25 = .ok (.aload_n 0, 1) := by decide +kernel
theorem dX12_melt_26 : decode cX12_melt 26 = .ok (.iload_n 1, 1) := by decide +kernel
theorem dX12_melt_27 : decode cX12_melt 27 = .ok (.bipush 6, 2) := by decide +kernel
theorem dX12_melt_29 : decode cX12_melt 29 = .ok (.iconst 2, 1) := by decide +kernel
theorem dX12_melt_30 : decode cX12_melt 30 = .ok (.invokevirtual 72, 3) := by decide +kernel
theorem dX12_melt_33 : decode cX12_melt 33 = .ok (.aload_n 0, 1) := by decide +kernel
theorem dX12_melt_34 : decode cX12_melt 34 = .ok (.iconst 1, 1) := by decide +kernel
theorem dX12_melt_35 : decode cX12_melt 35 = .ok (.iload_n 1, 1) := by decide +kernel
theorem dX12_melt_36 : decode cX12_melt 36 = .ok (.iconst (-1), 1) := by decide +kernel
theorem dX12_melt_37 : decode cX12_melt 37 = .ok (.invokevirtual 332, 3) := by decide +kernel
theorem dX12_melt_40 : decode cX12_melt 40 = .ok (.iconst 1, 1) := by decide +kernel
theorem dX12_melt_41 : decode cX12_melt 41 = .ok (.ireturn, 1) := by decide +kernel
set_option maxHeartbeats 4000000 in
set_option maxRecDepth 100000 in
theorem c_X12_melt (l : Launch) (D : va_G) (tys : List (ClassId × FieldType)) (base : Nat) (G : iv_G) (h0 : Nat) (g_h0 : Nat → Int32) (r_h0 : Nat → Nat) (a_h0 : G h0 = some (12, g_h0, r_h0)) (x_0 : Int32) (i_x_0 : iv_R (-2147483648) 2147483647 x_0) : Met l yX12_melt (Cond.code yX12_melt cX12_melt 2 (some .boolean) :: iv_W0) ({ frames := 2, cells := 0, slots := 0, locals := 43 }) (iv_Pc iv_sh D classes tys base G [.ref h0, .int x_0]) (iv_Qi iv_sh D classes tys base (fun v G' => iv_Md [12, 60, 62] G G' ∧ iv_R 0 1 v ∧ (¬ v = 0 → iv_R 0 9 x_0))) 0 0 (iv_A base) := by
  refine iv_head (by decide) (Nat.le_of_ble_eq_true rfl) ?_
  intro p e s m args below meth c ls X hr hlocks hname hB hl
  have X := X
  have hx := X.1.1
  have hb := X.1.2.1
  have hM : iv_Md [12, 60, 62] G G := iv_Md.rf
  have hl : lv_has ls 2 [(0, .ref h0), (1, .int x_0)] := hl
  refine lv_aload_n hx hb dX12_melt_0 rfl (lv_at hl 0 rfl) ?_
  refine lv_iload_n hx hb dX12_melt_1 rfl (lv_at hl 1 rfl) ?_
  refine iv_cVi X k_good k_mf_X12_isBell k_im_X12_isBell k_sel_X12_isBell k_ml_X12_76 ft_X12 hB a_h0 sh_12 (As := [.int x_0]) (c_X12_isBell l D tys base G h0 g_h0 r_h0 a_h0 x_0 i_x_0) ⟨rfl, rfl⟩ ⟨Nat.le_of_ble_eq_true rfl, Nat.le_of_ble_eq_true rfl⟩ ⟨Nat.le_of_ble_eq_true rfl, Nat.le_of_ble_eq_true rfl⟩ rfl rfl hl.1 (Nat.le_of_ble_eq_true rfl) dX12_melt_2 (fun x1 G9 H locs hq hB => ?_)
  obtain ⟨rfl, i_x1, hp2⟩ := hq
  refine lv_if_eq (tgt := 19) hx hb dX12_melt_5 (by decide) (fun c3 => ?_) (fun c3 => ?_)
  · skip
    have i3_x1 : iv_R 0 0 x1 := (i_x1.cutHi (n := 0) (iv_eq_r c3 q_0).2)
    refine lv_iconst (v := 0) hx hb dX12_melt_19 (by decide) ?_
    exact iv_zret X hr hlocks hB (q_0.wk (by decide)) ⟨hM, (q_0.wk (by decide)), fun h => absurd (iv_z q_0) h⟩ dX12_melt_20
  · skip
    have i4_x1 : iv_R 1 1 x1 := iv_ne_lo c3 i_x1 q_0 (by decide)
    have i5_x_0 : iv_R 0 9 x_0 := ((i_x_0.cutLo (n := 0) (hp2 c3).1).cutHi (n := 9) (hp2 c3).2)
    refine lv_aload_n hx hb dX12_melt_8 rfl (lv_at hl 0 rfl) ?_
    refine lv_iload_n hx hb dX12_melt_9 rfl (lv_at hl 1 rfl) ?_
    refine lv_bipush (v := 6) hx hb dX12_melt_10 (by decide) ?_
    refine iv_cVi X k_good k_mf_X12_ofBell k_im_X12_ofBell k_sel_X12_ofBell k_ml_X12_282 ft_X12 hB a_h0 sh_12 (As := [.int x_0, .int 6]) (c_X12_ofBell l D tys base G h0 g_h0 r_h0 a_h0 x_0 i5_x_0 6 (q_6.wk (by decide))) ⟨rfl, rfl⟩ ⟨Nat.le_of_ble_eq_true rfl, Nat.le_of_ble_eq_true rfl⟩ ⟨Nat.le_of_ble_eq_true rfl, Nat.le_of_ble_eq_true rfl⟩ rfl rfl hl.1 (Nat.le_of_ble_eq_true rfl) dX12_melt_12 (fun x7 G9 H locs hq hB => ?_)
    obtain ⟨rfl, i_x7, cp8, cp9⟩ := hq
    refine lv_iconst (v := 2) hx hb dX12_melt_15 (by decide) ?_
    refine lv_icmp_ne (tgt := 21) hx hb dX12_melt_16 (by decide) (fun c10 => ?_) (fun c10 => ?_)
    · skip
      refine lv_aload_n hx hb dX12_melt_21 rfl (lv_at hl 0 rfl) ?_
      refine iv_cVv X k_good k_mf_X12_keeps k_im_X12_keeps k_sel_X12_keeps k_ml_X12_329 ft_X12 hB a_h0 sh_12 (As := []) (c_X12_keeps l D tys base G h0 g_h0 r_h0 a_h0) ⟨rfl, rfl⟩ ⟨Nat.le_of_ble_eq_true rfl, Nat.le_of_ble_eq_true rfl⟩ ⟨Nat.le_of_ble_eq_true rfl, Nat.le_of_ble_eq_true rfl⟩ rfl rfl hl.1 (Nat.le_of_ble_eq_true rfl) dX12_melt_22 (fun G9 H locs hq hB => ?_)
      have hm := hq
      obtain ⟨G11, hG9⟩ : ∃ g, g = G9 := ⟨_, rfl⟩
      rw [← hG9] at hm hB
      have hM := hM.stp hm (by decide)
      obtain ⟨g12, r13, a_h0, f_g12⟩ := hm.ex a_h0
      refine lv_aload_n hx hb dX12_melt_25 rfl (lv_at hl 0 rfl) ?_
      refine lv_iload_n hx hb dX12_melt_26 rfl (lv_at hl 1 rfl) ?_
      refine lv_bipush (v := 6) hx hb dX12_melt_27 (by decide) ?_
      refine lv_iconst (v := 2) hx hb dX12_melt_29 (by decide) ?_
      refine iv_cVv X k_good k_mf_X12_bells k_im_X12_bells k_sel_X12_bells k_ml_X12_72 ft_X12 hB a_h0 sh_12 (As := [.int x_0, .int 6, .int 2]) (c_X12_bells l D tys base G11 h0 g12 r13 a_h0 x_0 i5_x_0 6 (q_6.wk (by decide)) 2 (q_2.wk (by decide)) (fun h => absurd h (by decide)) (fun h => absurd h (by decide))) ⟨rfl, rfl⟩ ⟨Nat.le_of_ble_eq_true rfl, Nat.le_of_ble_eq_true rfl⟩ ⟨Nat.le_of_ble_eq_true rfl, Nat.le_of_ble_eq_true rfl⟩ rfl rfl hl.1 (Nat.le_of_ble_eq_true rfl) dX12_melt_30 (fun G9 H locs hq hB => ?_)
      have hm := hq
      obtain ⟨G14, hG9⟩ : ∃ g, g = G9 := ⟨_, rfl⟩
      rw [← hG9] at hm hB
      have hM := hM.stp hm (by decide)
      have a_h0 := hm.at a_h0 (by decide)
      refine lv_aload_n hx hb dX12_melt_33 rfl (lv_at hl 0 rfl) ?_
      refine lv_iconst (v := 1) hx hb dX12_melt_34 (by decide) ?_
      refine lv_iload_n hx hb dX12_melt_35 rfl (lv_at hl 1 rfl) ?_
      refine lv_iconst (v := (-1)) hx hb dX12_melt_36 (by decide) ?_
      refine iv_cVv X k_good k_mf_X12_notes k_im_X12_notes k_sel_X12_notes k_ml_X12_332 ft_X12 hB a_h0 sh_12 (As := [.int 1, .int x_0, .int (-1)]) (c_X12_notes l D tys base G14 h0 g12 r13 a_h0 1 (q_1.wk (by decide)) x_0 (i5_x_0.wk (by decide)) (-1) (q_n1.wk (by decide))) ⟨rfl, rfl⟩ ⟨Nat.le_of_ble_eq_true rfl, Nat.le_of_ble_eq_true rfl⟩ ⟨Nat.le_of_ble_eq_true rfl, Nat.le_of_ble_eq_true rfl⟩ rfl rfl hl.1 (Nat.le_of_ble_eq_true rfl) dX12_melt_37 (fun G9 H locs hq hB => ?_)
      have hm := hq
      obtain ⟨G15, hG9⟩ : ∃ g, g = G9 := ⟨_, rfl⟩
      rw [← hG9] at hm hB
      have hM := hM.stp hm (by decide)
      have a_h0 := hm.at a_h0 (by decide)
      refine lv_iconst (v := 1) hx hb dX12_melt_40 (by decide) ?_
      exact iv_zret X hr hlocks hB (q_1.wk (by decide)) ⟨hM, (q_1.wk (by decide)), fun _ => i5_x_0⟩ dX12_melt_41
    · skip
      have i15_x7 : iv_R 2 2 x7 := ((i_x7.cutLo (n := 2) (iv_eq_r c10 q_2).1).cutHi (n := 2) (iv_eq_r c10 q_2).2)
      refine lv_iconst (v := 0) hx hb dX12_melt_19 (by decide) ?_
      exact iv_zret X hr hlocks hB (q_0.wk (by decide)) ⟨hM, (q_0.wk (by decide)), fun _ => i5_x_0⟩ dX12_melt_20
theorem dX12_unmelted_0 : decode cX12_unmelted 0 = .ok (.iconst 0, 1) := by decide +kernel
theorem dX12_unmelted_1 : decode cX12_unmelted 1 = .ok (.istore_n 1, 1) := by decide +kernel
theorem dX12_unmelted_2 : decode cX12_unmelted 2 = .ok (.iconst 0, 1) := by decide +kernel
theorem dX12_unmelted_3 : decode cX12_unmelted 3 = .ok (.istore_n 2, 1) := by decide +kernel
theorem dX12_unmelted_4 : decode cX12_unmelted 4 = .ok (.iload_n 2, 1) := by decide +kernel
theorem dX12_unmelted_5 : decode cX12_unmelted 5 = .ok (.aload_n 0, 1) := by decide +kernel
theorem dX12_unmelted_6 : decode cX12_unmelted 6 = .ok (.getfield 7, 3) := by decide +kernel
theorem dX12_unmelted_9 : decode cX12_unmelted 9 = .ok (.sipush 146, 3) := by decide +kernel
theorem dX12_unmelted_12 : decode cX12_unmelted 12 = .ok (.iaload, 1) := by decide +kernel
theorem dX12_unmelted_13 : decode cX12_unmelted 13 = .ok (.if_icmp .ge 30, 3) := by decide +kernel
theorem dX12_unmelted_16 : decode cX12_unmelted 16 = .ok (.iload_n 1, 1) := by decide +kernel
theorem dX12_unmelted_17 : decode cX12_unmelted 17 = .ok (.aload_n 0, 1) := by decide +kernel
theorem dX12_unmelted_18 : decode cX12_unmelted 18 = .ok (.iload_n 2, 1) := by decide +kernel
theorem dX12_unmelted_19 : decode cX12_unmelted 19 = .ok (.bipush 6, 2) := by decide +kernel
theorem dX12_unmelted_21 : decode cX12_unmelted 21 = .ok (.invokevirtual 282, 3) := by decide +kernel
theorem dX12_unmelted_24 : decode cX12_unmelted 24 = .ok (.iconst 2, 1) := by decide +kernel
theorem dX12_unmelted_25 : decode cX12_unmelted 25 = .ok (.if_icmp .eq 9, 3) := by decide +kernel
theorem dX12_unmelted_28 : decode cX12_unmelted 28 = .ok (.iconst 1, 1) := by decide +kernel
theorem dX12_unmelted_29 : decode cX12_unmelted 29 = .ok (.iload_n 2, 1) := by decide +kernel
theorem dX12_unmelted_30 : decode cX12_unmelted 30 = .ok (.ishl, 1) := by decide +kernel
theorem dX12_unmelted_31 : decode cX12_unmelted 31 = .ok (.goto 4, 3) := by decide +kernel
theorem dX12_unmelted_34 : decode cX12_unmelted 34 = .ok (.iconst 0, 1) := by decide +kernel
theorem dX12_unmelted_35 : decode cX12_unmelted 35 = .ok (.ior, 1) := by decide +kernel
theorem dX12_unmelted_36 : decode cX12_unmelted 36 = .ok (.istore_n 1, 1) := by decide +kernel
theorem dX12_unmelted_37 : decode cX12_unmelted 37 = .ok (.iinc 2 1, 3) := by decide +kernel
theorem dX12_unmelted_40 : decode cX12_unmelted 40 = .ok (.goto (-36), 3) := by decide +kernel
theorem dX12_unmelted_43 : decode cX12_unmelted 43 = .ok (.iload_n 1, 1) := by decide +kernel
theorem dX12_unmelted_44 : decode cX12_unmelted 44 = .ok (.ireturn, 1) := by decide +kernel
set_option maxHeartbeats 4000000 in
set_option maxRecDepth 100000 in
theorem c_X12_unmelted (l : Launch) (D : va_G) (tys : List (ClassId × FieldType)) (base : Nat) (G : iv_G) (h0 : Nat) (g_h0 : Nat → Int32) (r_h0 : Nat → Nat) (a_h0 : G h0 = some (12, g_h0, r_h0)) : Met l yX12_unmelted (Cond.code yX12_unmelted cX12_unmelted 3 (some .int) :: iv_W0) ({ frames := 1, cells := 0, slots := 0, locals := 22 }) (iv_Pc iv_sh D classes tys base G [.ref h0]) (iv_Qi iv_sh D classes tys base (fun v G' => G = G' ∧ iv_R 0 2047 v)) 0 0 (iv_A base) := by
  refine iv_head (by decide) (Nat.le_of_ble_eq_true rfl) ?_
  intro p e s m args below meth c ls X hr hlocks hname hB hl
  have X := X
  have hx := X.1.1
  have hb := X.1.2.1
  have hl : lv_has ls 3 [(0, .ref h0)] := hl
  refine lv_iconst (v := 0) hx hb dX12_unmelted_0 (by decide) ?_
  refine lv_istore_n (lv' := [(1, .int 0), (0, .ref h0)]) hx hb dX12_unmelted_1 rfl hl (by decide) rfl (fun ls hl => ?_)
  refine lv_iconst (v := 0) hx hb dX12_unmelted_2 (by decide) ?_
  refine lv_istore_n (lv' := [(2, .int 0), (1, .int 0), (0, .ref h0)]) hx hb dX12_unmelted_3 rfl hl (by decide) rfl (fun ls hl => ?_)
  have L_4 : ∀ (n_4 : Nat) (H : Heap) (locs : List Loc) (hB : iv_B iv_sh D classes tys base G s.heap H locs) (x1 : Int32) (i_x1 : iv_R 0 2047 x1) (x2 : Int32) (i_x2 : iv_R 0 10 x2) (hn_4 : (11 - x2.toInt).toNat < n_4) (ls : Array Slot) (hl : lv_has ls 3 [(2, .int x2), (1, .int x1), (0, .ref h0)]), W p l e ({ frames := 1, cells := 0, slots := 0, locals := 22 } : Room) s m args below meth c H locs 0 0 (MQ below (iv_Qi iv_sh D classes tys base (fun v G' => G = G' ∧ iv_R 0 2047 v)) args s 0 0 (iv_A base)) (F0 m 4 ls []) := by
    intro n_4
    induction n_4 with
    | zero => intro H locs hB x1 i_x1 x2 i_x2 hn_4 ls hl; exact absurd hn_4 (Nat.not_lt_zero _)
    | succ n_4 ih_4 =>
      intro H locs hB x1 i_x1 x2 i_x2 hn_4 ls hl
      refine lv_iload_n hx hb dX12_unmelted_4 rfl (lv_at hl 0 rfl) ?_
      refine lv_aload_n hx hb dX12_unmelted_5 rfl (lv_at hl 2 rfl) ?_
      refine iv_getr X ft_X12 hB a_h0 sh_12 0 (by decide) rfl k_fl_X12_7 dX12_unmelted_6 (fun b3 g_b3 r_b3 e_b3 a_b3 => ?_)
      refine lv_sipush (v := 146) hx hb dX12_unmelted_9 (by decide) ?_
      refine iv_wald_c X hB a_b3 q_146 (by decide) (lo := 0) (hi' := 10) (by decide) dX12_unmelted_12 (fun x4 e_x4 i_x4 => ?_)
      refine lv_icmp_ge (tgt := 43) hx hb dX12_unmelted_13 (by decide) (fun c5 => ?_) (fun c5 => ?_)
      · skip
        refine lv_iload_n hx hb dX12_unmelted_43 rfl (lv_at hl 1 rfl) ?_
        exact iv_iret X hr hlocks hB ⟨rfl, i_x1⟩ dX12_unmelted_44
      · skip
        have i5_x2 : iv_R 0 9 x2 := (i_x2.cutHi (n := 9) (iv_lt_r (iv_nle c5) i_x4 (by decide)))
        have i6_x4 : iv_R 1 10 x4 := (i_x4.cutLo (n := 1) (iv_lt_l (iv_nle c5) i_x2 (by decide)))
        refine lv_iload_n hx hb dX12_unmelted_16 rfl (lv_at hl 1 rfl) ?_
        refine lv_aload_n hx hb dX12_unmelted_17 rfl (lv_at hl 2 rfl) ?_
        refine lv_iload_n hx hb dX12_unmelted_18 rfl (lv_at hl 0 rfl) ?_
        refine lv_bipush (v := 6) hx hb dX12_unmelted_19 (by decide) ?_
        refine iv_cVi X k_good k_mf_X12_ofBell k_im_X12_ofBell k_sel_X12_ofBell k_ml_X12_282 ft_X12 hB a_h0 sh_12 (As := [.int x2, .int 6]) (c_X12_ofBell l D tys base G h0 g_h0 r_h0 a_h0 x2 i5_x2 6 (q_6.wk (by decide))) ⟨rfl, rfl⟩ ⟨Nat.le_of_ble_eq_true rfl, Nat.le_of_ble_eq_true rfl⟩ ⟨Nat.le_of_ble_eq_true rfl, Nat.le_of_ble_eq_true rfl⟩ rfl rfl hl.1 (Nat.le_of_ble_eq_true rfl) dX12_unmelted_21 (fun x8 G9 H locs hq hB => ?_)
        obtain ⟨rfl, i_x8, cp9, cp10⟩ := hq
        refine lv_iconst (v := 2) hx hb dX12_unmelted_24 (by decide) ?_
        refine lv_icmp_eq (tgt := 34) hx hb dX12_unmelted_25 (by decide) (fun c11 => ?_) (fun c11 => ?_)
        · skip
          have i11_x8 : iv_R 2 2 x8 := ((i_x8.cutLo (n := 2) (iv_eq_r c11 q_2).1).cutHi (n := 2) (iv_eq_r c11 q_2).2)
          refine lv_iconst (v := 0) hx hb dX12_unmelted_34 (by decide) ?_
          refine iv_ior hx hb i_x1 q_0 (k := 11) (hi := 2047) (by decide) dX12_unmelted_35 (fun x13 e_x13 i_x13 => ?_)
          refine lv_istore_n (lv' := [(1, .int x13), (2, .int x2), (0, .ref h0)]) hx hb dX12_unmelted_36 rfl hl (by decide) rfl (fun ls hl => ?_)
          refine iv_iinc hx hb i5_x2 (lo := 1) (hi := 10) (by decide) dX12_unmelted_37 hl (k := 1) rfl (by decide) (fun x14 ls e_x14 i_x14 hl => ?_)
          have hl : lv_has ls 3 [(2, .int x14), (1, .int x13), (0, .ref h0)] := hl
          refine lv_goto (tgt := 4) hx hb dX12_unmelted_40 (by decide) ?_
          exact ih_4 _ _ hB x13 i_x13 x14 (i_x14.wk (by decide)) (iv_mup (c := 1) i_x2 (by decide) (by decide) (by omega) hn_4) _ (lv_sub hl [0, 1, 2] rfl)
        · skip
          refine lv_iconst (v := 1) hx hb dX12_unmelted_28 (by decide) ?_
          refine lv_iload_n hx hb dX12_unmelted_29 rfl (lv_at hl 0 rfl) ?_
          refine iv_shl1 hx hb i5_x2 (lo := 1) (hi := 512) (by decide) dX12_unmelted_30 (fun x15 e_x15 i_x15 => ?_)
          refine lv_goto (tgt := 35) hx hb dX12_unmelted_31 (by decide) ?_
          refine iv_ior hx hb i_x1 i_x15 (k := 11) (hi := 2047) (by decide) dX12_unmelted_35 (fun x16 e_x16 i_x16 => ?_)
          refine lv_istore_n (lv' := [(1, .int x16), (2, .int x2), (0, .ref h0)]) hx hb dX12_unmelted_36 rfl hl (by decide) rfl (fun ls hl => ?_)
          refine iv_iinc hx hb i5_x2 (lo := 1) (hi := 10) (by decide) dX12_unmelted_37 hl (k := 1) rfl (by decide) (fun x17 ls e_x17 i_x17 hl => ?_)
          have hl : lv_has ls 3 [(2, .int x17), (1, .int x16), (0, .ref h0)] := hl
          refine lv_goto (tgt := 4) hx hb dX12_unmelted_40 (by decide) ?_
          exact ih_4 _ _ hB x16 i_x16 x17 (i_x17.wk (by decide)) (iv_mup (c := 1) i_x2 (by decide) (by decide) (by omega) hn_4) _ (lv_sub hl [0, 1, 2] rfl)
  exact L_4 _ _ _ hB 0 (q_0.wk (by decide)) 0 (q_0.wk (by decide)) (Nat.lt_succ_self _) _ (lv_sub hl [0, 1, 2] rfl)
theorem dX12_melts_0 : decode cX12_melts 0 = .ok (.iload_n 1, 1) := by decide +kernel
theorem dX12_melts_1 : decode cX12_melts 1 = .ok (.iconst 1, 1) := by decide +kernel
theorem dX12_melts_2 : decode cX12_melts 2 = .ok (.sipush 999, 3) := by decide +kernel
theorem dX12_melts_5 : decode cX12_melts 5 = .ok (.invokestatic 56, 3) := by decide +kernel
theorem dX12_melts_8 : decode cX12_melts 8 = .ok (.ifCond .eq 12, 3) := by decide +kernel
theorem dX12_melts_11 : decode cX12_melts 11 = .ok (.iload_n 2, 1) := by decide +kernel
theorem dX12_melts_12 : decode cX12_melts 12 = .ok (.iconst 0, 1) := by decide +kernel
theorem dX12_melts_13 : decode cX12_melts 13 = .ok (.iconst 1, 1) := by decide +kernel
theorem dX12_melts_14 : decode cX12_melts 14 = .ok (.invokestatic 56, 3) := by decide +kernel
theorem dX12_melts_17 : decode cX12_melts 17 = .ok (.ifCond .ne 5, 3) := by decide +kernel
theorem dX12_melts_20 : decode cX12_melts 20 = .ok (.iconst (-1), 1) := by decide +kernel
theorem dX12_melts_21 : decode cX12_melts 21 = .ok (.ireturn, 1) := by decide +kernel
theorem dX12_melts_22 : decode cX12_melts 22 = .ok (.aload_n 0, 1) := by decide +kernel
theorem dX12_melts_23 : decode cX12_melts 23 = .ok (.invokevirtual 408, 3) := by decide +kernel
theorem dX12_melts_26 : decode cX12_melts 26 = .ok (.istore_n 3, 1) := by decide +kernel
theorem dX12_melts_27 : decode cX12_melts 27 = .ok (.iconst (-1), 1) := by decide +kernel
theorem dX12_melts_28 : decode cX12_melts 28 = .ok (.istore 4, 2) := by decide +kernel
theorem dX12_melts_30 : decode cX12_melts 30 = .ok (.iconst 0, 1) := by decide +kernel
theorem dX12_melts_31 : decode cX12_melts 31 = .ok (.istore 5, 2) := by decide +kernel
theorem dX12_melts_33 : decode cX12_melts 33 = .ok (.iload 5, 2) := by decide +kernel
theorem dX12_melts_35 : decode cX12_melts 35 = .ok (.iload_n 3, 1) := by decide +kernel
theorem dX12_melts_36 : decode cX12_melts 36 = .ok (.if_icmp .gt 44, 3) := by decide +kernel
theorem dX12_melts_39 : decode cX12_melts 39 = .ok (.iload 5, 2) := by decide +kernel
theorem dX12_melts_41 : decode cX12_melts 41 = .ok (.iload_n 3, 1) := by decide +kernel
theorem dX12_melts_42 : decode cX12_melts 42 = .ok (.iconst (-1), 1) := by decide +kernel
theorem dX12_melts_43 : decode cX12_melts 43 = .ok (.ixor, 1) := by decide +kernel
theorem dX12_melts_44 : decode cX12_melts 44 = .ok (.iand, 1) := by decide +kernel
theorem dX12_melts_45 : decode cX12_melts 45 = .ok (.ifCond .ne 29, 3) := by decide +kernel
theorem dX12_melts_48 : decode cX12_melts 48 = .ok (.aload_n 0, 1) := by decide +kernel
theorem dX12_melts_49 : decode cX12_melts 49 = .ok (.iload 5, 2) := by decide +kernel
theorem dX12_melts_51 : decode cX12_melts 51 = .ok (.iconst 2, 1) := by decide +kernel
theorem dX12_melts_52 : decode cX12_melts 52 = .ok (.invokevirtual 405, 3) := by decide +kernel
theorem dX12_melts_55 : decode cX12_melts 55 = .ok (.iload_n 1, 1) := by decide +kernel
theorem dX12_melts_56 : decode cX12_melts 56 = .ok (.if_icmp .lt 18, 3) := by decide +kernel
theorem dX12_melts_59 : decode cX12_melts 59 = .ok (.aload_n 0, 1) := by decide +kernel
theorem dX12_melts_60 : decode cX12_melts 60 = .ok (.iload 5, 2) := by decide +kernel
theorem dX12_melts_62 : decode cX12_melts 62 = .ok (.iload 4, 2) := by decide +kernel
theorem dX12_melts_64 : decode cX12_melts 64 = .ok (.invokevirtual 411, 3) := by decide +kernel
theorem dX12_melts_67 : decode cX12_melts 67 = .ok (.ifCond .eq 7, 3) := by decide +kernel
theorem dX12_melts_70 : decode cX12_melts 70 = .ok (.iload 5, 2) := by decide +kernel
theorem dX12_melts_72 : decode cX12_melts 72 = .ok (.istore 4, 2) := by decide +kernel
theorem dX12_melts_74 : decode cX12_melts 74 = .ok (.iinc 5 1, 3) := by decide +kernel
theorem dX12_melts_77 : decode cX12_melts 77 = .ok (.goto (-44), 3) := by decide +kernel
theorem dX12_melts_80 : decode cX12_melts 80 = .ok (.iload 4, 2) := by decide +kernel
theorem dX12_melts_82 : decode cX12_melts 82 = .ok (.iconst (-1), 1) := by decide +kernel
theorem dX12_melts_83 : decode cX12_melts 83 = .ok (.if_icmp .eq 8, 3) := by decide +kernel
theorem dX12_melts_86 : decode cX12_melts 86 = .ok (.iload_n 2, 1) := by decide +kernel
theorem dX12_melts_87 : decode cX12_melts 87 = .ok (.iconst 1, 1) := by decide +kernel
theorem dX12_melts_88 : decode cX12_melts 88 = .ok (.if_icmp .ne 8, 3) := by decide +kernel
theorem dX12_melts_91 : decode cX12_melts 91 = .ok (.iload 4, 2) := by decide +kernel
theorem dX12_melts_93 : decode cX12_melts 93 = .ok (.goto 10, 3) := by decide +kernel
theorem dX12_melts_96 : decode cX12_melts 96 = .ok (.aload_n 0, 1) := by decide +kernel
theorem dX12_melts_97 : decode cX12_melts 97 = .ok (.iload 4, 2) := by decide +kernel
theorem dX12_melts_99 : decode cX12_melts 99 = .ok (.iconst 3, 1) := by decide +kernel
theorem dX12_melts_100 : decode cX12_melts 100 = .ok (.invokevirtual 405, 3) := by decide +kernel
theorem dX12_melts_103 : decode cX12_melts 103 = .ok (.ireturn, 1) := by decide +kernel
set_option maxHeartbeats 4000000 in
set_option maxRecDepth 100000 in
theorem c_X12_melts (l : Launch) (D : va_G) (tys : List (ClassId × FieldType)) (base : Nat) (G : iv_G) (h0 : Nat) (g_h0 : Nat → Int32) (r_h0 : Nat → Nat) (a_h0 : G h0 = some (12, g_h0, r_h0)) (x_0 : Int32) (i_x_0 : iv_R (-2147483648) 2147483647 x_0) (x_1 : Int32) (i_x_1 : iv_R (-2147483648) 2147483647 x_1) : Met l yX12_melts (Cond.code yX12_melts cX12_melts 6 (some .int) :: iv_W0) ({ frames := 3, cells := 0, slots := 0, locals := 70 }) (iv_Pc iv_sh D classes tys base G [.ref h0, .int x_0, .int x_1]) (iv_Qi iv_sh D classes tys base (fun v G' => G = G' ∧ iv_R (-2147483648) 2147483647 v)) 0 0 (iv_A base) := by
  refine iv_head (by decide) (Nat.le_of_ble_eq_true rfl) ?_
  intro p e s m args below meth c ls X hr hlocks hname hB hl
  have X := X
  have hx := X.1.1
  have hb := X.1.2.1
  have hl : lv_has ls 6 [(0, .ref h0), (1, .int x_0), (2, .int x_1)] := hl
  refine lv_iload_n hx hb dX12_melts_0 rfl (lv_at hl 1 rfl) ?_
  refine lv_iconst (v := 1) hx hb dX12_melts_1 (by decide) ?_
  refine lv_sipush (v := 999) hx hb dX12_melts_2 (by decide) ?_
  refine iv_cSi X k_good k_mf_X12_isIn k_st_X12_isIn k_ml_X12_56 hB (As := [.int x_0, .int 1, .int 999]) (c_X12_isIn l D tys base G x_0 i_x_0 1 (q_1.wk (by decide)) 999 (q_999.wk (by decide))) ⟨rfl, rfl⟩ ⟨Nat.le_of_ble_eq_true rfl, Nat.le_of_ble_eq_true rfl⟩ ⟨Nat.le_of_ble_eq_true rfl, Nat.le_of_ble_eq_true rfl⟩ rfl rfl hl.1 (Nat.le_of_ble_eq_true rfl) dX12_melts_5 (fun x1 G9 H locs hq hB => ?_)
  obtain ⟨rfl, i_x1, hp2⟩ := hq
  have k3 : ¬ x1 = 0 → iv_R 1 999 x_0 := fun h => ⟨iv_max i_x_0.1 (Int.le_trans q_1.1 (hp2.1 h).1) (by decide), iv_min i_x_0.2 (Int.le_trans (hp2.1 h).2 q_999.2) (by decide)⟩
  refine lv_if_eq (tgt := 20) hx hb dX12_melts_8 (by decide) (fun c4 => ?_) (fun c4 => ?_)
  · skip
    have i4_x1 : iv_R 0 0 x1 := (i_x1.cutHi (n := 0) (iv_eq_r c4 q_0).2)
    refine lv_iconst (v := (-1)) hx hb dX12_melts_20 (by decide) ?_
    exact iv_iret X hr hlocks hB ⟨rfl, (q_n1.wk (by decide))⟩ dX12_melts_21
  · skip
    have i5_x1 : iv_R 1 1 x1 := iv_ne_lo c4 i_x1 q_0 (by decide)
    have i6_x_0 : iv_R 1 999 x_0 := ((i_x_0.cutLo (n := 1) (k3 c4).1).cutHi (n := 999) (k3 c4).2)
    refine lv_iload_n hx hb dX12_melts_11 rfl (lv_at hl 2 rfl) ?_
    refine lv_iconst (v := 0) hx hb dX12_melts_12 (by decide) ?_
    refine lv_iconst (v := 1) hx hb dX12_melts_13 (by decide) ?_
    refine iv_cSi X k_good k_mf_X12_isIn k_st_X12_isIn k_ml_X12_56 hB (As := [.int x_1, .int 0, .int 1]) (c_X12_isIn l D tys base G x_1 i_x_1 0 (q_0.wk (by decide)) 1 (q_1.wk (by decide))) ⟨rfl, rfl⟩ ⟨Nat.le_of_ble_eq_true rfl, Nat.le_of_ble_eq_true rfl⟩ ⟨Nat.le_of_ble_eq_true rfl, Nat.le_of_ble_eq_true rfl⟩ rfl rfl hl.1 (Nat.le_of_ble_eq_true rfl) dX12_melts_14 (fun x8 G9 H locs hq hB => ?_)
    obtain ⟨rfl, i_x8, hp9⟩ := hq
    have k10 : ¬ x8 = 0 → iv_R 0 1 x_1 := fun h => ⟨iv_max i_x_1.1 (Int.le_trans q_0.1 (hp9.1 h).1) (by decide), iv_min i_x_1.2 (Int.le_trans (hp9.1 h).2 q_1.2) (by decide)⟩
    refine lv_if_ne (tgt := 22) hx hb dX12_melts_17 (by decide) (fun c11 => ?_) (fun c11 => ?_)
    · skip
      have i11_x8 : iv_R 1 1 x8 := iv_ne_lo c11 i_x8 q_0 (by decide)
      have i12_x_1 : iv_R 0 1 x_1 := ((i_x_1.cutLo (n := 0) (k10 c11).1).cutHi (n := 1) (k10 c11).2)
      refine lv_aload_n hx hb dX12_melts_22 rfl (lv_at hl 0 rfl) ?_
      refine iv_cVi X k_good k_mf_X12_unmelted k_im_X12_unmelted k_sel_X12_unmelted k_ml_X12_408 ft_X12 hB a_h0 sh_12 (As := []) (c_X12_unmelted l D tys base G h0 g_h0 r_h0 a_h0) ⟨rfl, rfl⟩ ⟨Nat.le_of_ble_eq_true rfl, Nat.le_of_ble_eq_true rfl⟩ ⟨Nat.le_of_ble_eq_true rfl, Nat.le_of_ble_eq_true rfl⟩ rfl rfl hl.1 (Nat.le_of_ble_eq_true rfl) dX12_melts_23 (fun x14 G9 H locs hq hB => ?_)
      obtain ⟨rfl, i_x14⟩ := hq
      refine lv_istore_n (lv' := [(3, .int x14), (0, .ref h0), (1, .int x_0), (2, .int x_1)]) hx hb dX12_melts_26 rfl hl (by decide) rfl (fun ls hl => ?_)
      refine lv_iconst (v := (-1)) hx hb dX12_melts_27 (by decide) ?_
      refine lv_istore (lv' := [(4, .int (-1)), (3, .int x14), (0, .ref h0), (1, .int x_0), (2, .int x_1)]) hx hb dX12_melts_28 hl (by decide) rfl (fun ls hl => ?_)
      refine lv_iconst (v := 0) hx hb dX12_melts_30 (by decide) ?_
      refine lv_istore (lv' := [(5, .int 0), (4, .int (-1)), (3, .int x14), (0, .ref h0), (1, .int x_0), (2, .int x_1)]) hx hb dX12_melts_31 hl (by decide) rfl (fun ls hl => ?_)
      have L_33 : ∀ (n_33 : Nat) (H : Heap) (locs : List Loc) (hB : iv_B iv_sh D classes tys base G s.heap H locs) (x15 : Int32) (i_x15 : iv_R (-1) 2047 x15) (x16 : Int32) (i_x16 : iv_R 0 2048 x16) (hn_33 : (2049 - x16.toInt).toNat < n_33) (ls : Array Slot) (hl : lv_has ls 6 [(5, .int x16), (4, .int x15), (3, .int x14), (0, .ref h0), (1, .int x_0), (2, .int x_1)]), W p l e ({ frames := 3, cells := 0, slots := 0, locals := 70 } : Room) s m args below meth c H locs 0 0 (MQ below (iv_Qi iv_sh D classes tys base (fun v G' => G = G' ∧ iv_R (-2147483648) 2147483647 v)) args s 0 0 (iv_A base)) (F0 m 33 ls []) := by
        intro n_33
        induction n_33 with
        | zero => intro H locs hB x15 i_x15 x16 i_x16 hn_33 ls hl; exact absurd hn_33 (Nat.not_lt_zero _)
        | succ n_33 ih_33 =>
          intro H locs hB x15 i_x15 x16 i_x16 hn_33 ls hl
          refine lv_iload hx hb dX12_melts_33 (lv_at hl 0 rfl) ?_
          refine lv_iload_n hx hb dX12_melts_35 rfl (lv_at hl 2 rfl) ?_
          refine lv_icmp_gt (tgt := 80) hx hb dX12_melts_36 (by decide) (fun c17 => ?_) (fun c17 => ?_)
          · skip
            have i17_x16 : iv_R 1 2048 x16 := (i_x16.cutLo (n := 1) (iv_lt_l c17 i_x14 (by decide)))
            refine lv_iload hx hb dX12_melts_80 (lv_at hl 1 rfl) ?_
            refine lv_iconst (v := (-1)) hx hb dX12_melts_82 (by decide) ?_
            refine lv_icmp_eq (tgt := 91) hx hb dX12_melts_83 (by decide) (fun c19 => ?_) (fun c19 => ?_)
            · skip
              have i19_x15 : iv_R (-1) (-1) x15 := (i_x15.cutHi (n := (-1)) (iv_eq_r c19 q_n1).2)
              refine lv_iload hx hb dX12_melts_91 (lv_at hl 1 rfl) ?_
              refine lv_goto (tgt := 103) hx hb dX12_melts_93 (by decide) ?_
              exact iv_iret X hr hlocks hB ⟨rfl, (i19_x15.wk (by decide))⟩ dX12_melts_103
            · skip
              have i20_x15 : iv_R 0 2047 x15 := iv_ne_lo c19 i_x15 q_n1 (by decide)
              refine lv_iload_n hx hb dX12_melts_86 rfl (lv_at hl 5 rfl) ?_
              refine lv_iconst (v := 1) hx hb dX12_melts_87 (by decide) ?_
              refine lv_icmp_ne (tgt := 96) hx hb dX12_melts_88 (by decide) (fun c22 => ?_) (fun c22 => ?_)
              · skip
                have i22_x_1 : iv_R 0 0 x_1 := iv_ne_hi c22 i12_x_1 q_1 (by decide)
                refine lv_aload_n hx hb dX12_melts_96 rfl (lv_at hl 3 rfl) ?_
                refine lv_iload hx hb dX12_melts_97 (lv_at hl 1 rfl) ?_
                refine lv_iconst (v := 3) hx hb dX12_melts_99 (by decide) ?_
                refine iv_cVi X k_good k_mf_X12_sumOf k_im_X12_sumOf k_sel_X12_sumOf k_ml_X12_405 ft_X12 hB a_h0 sh_12 (As := [.int x15, .int 3]) (c_X12_sumOf l D tys base G h0 g_h0 r_h0 a_h0 x15 i20_x15 3 (q_3.wk (by decide))) ⟨rfl, rfl⟩ ⟨Nat.le_of_ble_eq_true rfl, Nat.le_of_ble_eq_true rfl⟩ ⟨Nat.le_of_ble_eq_true rfl, Nat.le_of_ble_eq_true rfl⟩ rfl rfl hl.1 (Nat.le_of_ble_eq_true rfl) dX12_melts_100 (fun x24 G9 H locs hq hB => ?_)
                obtain ⟨rfl, i_x24⟩ := hq
                exact iv_iret X hr hlocks hB ⟨rfl, i_x24⟩ dX12_melts_103
              · skip
                have i24_x_1 : iv_R 1 1 x_1 := (i12_x_1.cutLo (n := 1) (iv_eq_r c22 q_1).1)
                refine lv_iload hx hb dX12_melts_91 (lv_at hl 1 rfl) ?_
                refine lv_goto (tgt := 103) hx hb dX12_melts_93 (by decide) ?_
                exact iv_iret X hr hlocks hB ⟨rfl, (i20_x15.wk (by decide))⟩ dX12_melts_103
          · skip
            have i25_x16 : iv_R 0 2047 x16 := (i_x16.cutHi (n := 2047) (iv_le_r (iv_nlt c17) i_x14))
            refine lv_iload hx hb dX12_melts_39 (lv_at hl 0 rfl) ?_
            refine lv_iload_n hx hb dX12_melts_41 rfl (lv_at hl 2 rfl) ?_
            refine lv_iconst (v := (-1)) hx hb dX12_melts_42 (by decide) ?_
            refine lv_ixor hx hb dX12_melts_43 ?_
            refine lv_topi (fun x27 e_x27 => ?_)
            have i_x27 := iv_R.all x27
            refine iv_iand_l hx hb i25_x16 (by decide) dX12_melts_44 (fun x28 e_x28 i_x28 => ?_)
            refine lv_if_ne (tgt := 74) hx hb dX12_melts_45 (by decide) (fun c29 => ?_) (fun c29 => ?_)
            · skip
              have i29_x28 : iv_R 1 2047 x28 := iv_ne_lo c29 i_x28 q_0 (by decide)
              refine iv_iinc hx hb i25_x16 (lo := 1) (hi := 2048) (by decide) dX12_melts_74 hl (k := 0) rfl (by decide) (fun x31 ls e_x31 i_x31 hl => ?_)
              have hl : lv_has ls 6 [(5, .int x31), (4, .int x15), (3, .int x14), (0, .ref h0), (1, .int x_0), (2, .int x_1)] := hl
              refine lv_goto (tgt := 33) hx hb dX12_melts_77 (by decide) ?_
              exact ih_33 _ _ hB x15 i_x15 x31 (i_x31.wk (by decide)) (iv_mup (c := 1) i_x16 (by decide) (by decide) (by omega) hn_33) _ (lv_sub hl [0, 1, 2, 3, 4, 5] rfl)
            · skip
              have i31_x28 : iv_R 0 0 x28 := (i_x28.cutHi (n := 0) (iv_eq_r c29 q_0).2)
              refine lv_aload_n hx hb dX12_melts_48 rfl (lv_at hl 3 rfl) ?_
              refine lv_iload hx hb dX12_melts_49 (lv_at hl 0 rfl) ?_
              refine lv_iconst (v := 2) hx hb dX12_melts_51 (by decide) ?_
              refine iv_cVi X k_good k_mf_X12_sumOf k_im_X12_sumOf k_sel_X12_sumOf k_ml_X12_405 ft_X12 hB a_h0 sh_12 (As := [.int x16, .int 2]) (c_X12_sumOf l D tys base G h0 g_h0 r_h0 a_h0 x16 i25_x16 2 (q_2.wk (by decide))) ⟨rfl, rfl⟩ ⟨Nat.le_of_ble_eq_true rfl, Nat.le_of_ble_eq_true rfl⟩ ⟨Nat.le_of_ble_eq_true rfl, Nat.le_of_ble_eq_true rfl⟩ rfl rfl hl.1 (Nat.le_of_ble_eq_true rfl) dX12_melts_52 (fun x33 G9 H locs hq hB => ?_)
              obtain ⟨rfl, i_x33⟩ := hq
              refine lv_iload_n hx hb dX12_melts_55 rfl (lv_at hl 4 rfl) ?_
              refine lv_icmp_lt (tgt := 74) hx hb dX12_melts_56 (by decide) (fun c34 => ?_) (fun c34 => ?_)
              · skip
                have i34_x33 : iv_R (-2147483648) 998 x33 := (i_x33.cutHi (n := 998) (iv_lt_r c34 i6_x_0 (by decide)))
                refine iv_iinc hx hb i25_x16 (lo := 1) (hi := 2048) (by decide) dX12_melts_74 hl (k := 0) rfl (by decide) (fun x36 ls e_x36 i_x36 hl => ?_)
                have hl : lv_has ls 6 [(5, .int x36), (4, .int x15), (3, .int x14), (0, .ref h0), (1, .int x_0), (2, .int x_1)] := hl
                refine lv_goto (tgt := 33) hx hb dX12_melts_77 (by decide) ?_
                exact ih_33 _ _ hB x15 i_x15 x36 (i_x36.wk (by decide)) (iv_mup (c := 1) i_x16 (by decide) (by decide) (by omega) hn_33) _ (lv_sub hl [0, 1, 2, 3, 4, 5] rfl)
              · skip
                have i36_x33 : iv_R 1 2147483647 x33 := (i_x33.cutLo (n := 1) (iv_le_l (iv_nlt c34) i6_x_0))
                refine lv_aload_n hx hb dX12_melts_59 rfl (lv_at hl 3 rfl) ?_
                refine lv_iload hx hb dX12_melts_60 (lv_at hl 0 rfl) ?_
                refine lv_iload hx hb dX12_melts_62 (lv_at hl 1 rfl) ?_
                refine iv_cVi X k_good k_mf_X12_isBetter k_im_X12_isBetter k_sel_X12_isBetter k_ml_X12_411 ft_X12 hB a_h0 sh_12 (As := [.int x16, .int x15]) (c_X12_isBetter l D tys base G h0 g_h0 r_h0 a_h0 x16 i25_x16 x15 i_x15) ⟨rfl, rfl⟩ ⟨Nat.le_of_ble_eq_true rfl, Nat.le_of_ble_eq_true rfl⟩ ⟨Nat.le_of_ble_eq_true rfl, Nat.le_of_ble_eq_true rfl⟩ rfl rfl hl.1 (Nat.le_of_ble_eq_true rfl) dX12_melts_64 (fun x38 G9 H locs hq hB => ?_)
                obtain ⟨rfl, i_x38, hp39⟩ := hq
                refine lv_if_eq (tgt := 74) hx hb dX12_melts_67 (by decide) (fun c40 => ?_) (fun c40 => ?_)
                · skip
                  have i40_x38 : iv_R 0 0 x38 := (i_x38.cutHi (n := 0) (iv_eq_r c40 q_0).2)
                  have i41_x15 : iv_R 0 2047 x15 := (i_x15.cutLo (n := 0) (hp39 c40).1)
                  refine iv_iinc hx hb i25_x16 (lo := 1) (hi := 2048) (by decide) dX12_melts_74 hl (k := 0) rfl (by decide) (fun x43 ls e_x43 i_x43 hl => ?_)
                  have hl : lv_has ls 6 [(5, .int x43), (4, .int x15), (3, .int x14), (0, .ref h0), (1, .int x_0), (2, .int x_1)] := hl
                  refine lv_goto (tgt := 33) hx hb dX12_melts_77 (by decide) ?_
                  exact ih_33 _ _ hB x15 (i41_x15.wk (by decide)) x43 (i_x43.wk (by decide)) (iv_mup (c := 1) i_x16 (by decide) (by decide) (by omega) hn_33) _ (lv_sub hl [0, 1, 2, 3, 4, 5] rfl)
                · skip
                  have i43_x38 : iv_R 1 1 x38 := iv_ne_lo c40 i_x38 q_0 (by decide)
                  refine lv_iload hx hb dX12_melts_70 (lv_at hl 0 rfl) ?_
                  refine lv_istore (lv' := [(4, .int x16), (5, .int x16), (3, .int x14), (0, .ref h0), (1, .int x_0), (2, .int x_1)]) hx hb dX12_melts_72 hl (by decide) rfl (fun ls hl => ?_)
                  refine iv_iinc hx hb i25_x16 (lo := 1) (hi := 2048) (by decide) dX12_melts_74 hl (k := 1) rfl (by decide) (fun x45 ls e_x45 i_x45 hl => ?_)
                  have hl : lv_has ls 6 [(5, .int x45), (4, .int x16), (3, .int x14), (0, .ref h0), (1, .int x_0), (2, .int x_1)] := hl
                  refine lv_goto (tgt := 33) hx hb dX12_melts_77 (by decide) ?_
                  exact ih_33 _ _ hB x16 (i25_x16.wk (by decide)) x45 (i_x45.wk (by decide)) (iv_mup (c := 1) i_x16 (by decide) (by decide) (by omega) hn_33) _ (lv_sub hl [0, 1, 2, 3, 4, 5] rfl)
      exact L_33 _ _ _ hB (-1) (q_n1.wk (by decide)) 0 (q_0.wk (by decide)) (Nat.lt_succ_self _) _ (lv_sub hl [0, 1, 2, 3, 4, 5] rfl)
    · skip
      have i45_x8 : iv_R 0 0 x8 := (i_x8.cutHi (n := 0) (iv_eq_r c11 q_0).2)
      refine lv_iconst (v := (-1)) hx hb dX12_melts_20 (by decide) ?_
      exact iv_iret X hr hlocks hB ⟨rfl, (q_n1.wk (by decide))⟩ dX12_melts_21
theorem dX12_muffle_0 : decode cX12_muffle 0 = .ok (.aload_n 0, 1) := by decide +kernel
theorem dX12_muffle_1 : decode cX12_muffle 1 = .ok (.iload_n 1, 1) := by decide +kernel
theorem dX12_muffle_2 : decode cX12_muffle 2 = .ok (.invokevirtual 76, 3) := by decide +kernel
theorem dX12_muffle_5 : decode cX12_muffle 5 = .ok (.ifCond .eq 22, 3) := by decide +kernel
theorem dX12_muffle_8 : decode cX12_muffle 8 = .ok (.aload_n 0, 1) := by decide +kernel
theorem dX12_muffle_9 : decode cX12_muffle 9 = .ok (.iload_n 1, 1) := by decide +kernel
theorem dX12_muffle_10 : decode cX12_muffle 10 = .ok (.iconst 5, 1) := by decide +kernel
theorem dX12_muffle_11 : decode cX12_muffle 11 = .ok (.invokevirtual 282, 3) := by decide +kernel
theorem dX12_muffle_14 : decode cX12_muffle 14 = .ok (.iconst 1, 1) := by decide +kernel
theorem dX12_muffle_15 : decode cX12_muffle 15 = .ok (.if_icmp .ne 7, 3) := by decide +kernel
theorem dX12_muffle_18 : decode cX12_muffle 18 = .ok (.iconst 1, 1) := by decide +kernel
theorem dX12_muffle_19 : decode cX12_muffle 19 = .ok (.goto 4, 3) := by decide +kernel
theorem dX12_muffle_22 : decode cX12_muffle 22 = .ok (.iconst 0, 1) := by decide +kernel
theorem dX12_muffle_23 : decode cX12_muffle 23 = .ok (.iload_n 2, 1) := by decide +kernel
theorem dX12_muffle_24 : decode cX12_muffle 24 = .ok (.if_icmp .ne 5, 3) := by decide +kernel
theorem dX12_muffle_27 : decode cX12_muffle 27 = .ok (.iconst 0, 1) := by decide +kernel
theorem dX12_muffle_28 : decode cX12_muffle 28 = .ok (.ireturn, 1) := by decide +kernel
theorem dX12_muffle_29 : decode cX12_muffle 29 = .ok (.aload_n 0, 1) := by decide +kernel
theorem dX12_muffle_30 : decode cX12_muffle 30 = .ok (.invokevirtual 329, 3) := by decide +kernel
theorem dX12_muffle_33 : decode cX12_muffle 33 = .ok (.aload_n 0, 1) := by decide +kernel
theorem dX12_muffle_34 : decode cX12_muffle 34 = .ok (.iload_n 1, 1) := by decide +kernel
theorem dX12_muffle_35 : decode cX12_muffle 35 = .ok (.iconst 5, 1) := by decide +kernel
theorem dX12_muffle_36 : decode cX12_muffle 36 = .ok (.iload_n 2, 1) := by decide +kernel
theorem dX12_muffle_37 : decode cX12_muffle 37 = .ok (.ifCond .eq 7, 3) := by decide +kernel
theorem dX12_muffle_40 : decode cX12_muffle 40 = .ok (.iconst 1, 1) := by decide +kernel
theorem dX12_muffle_41 : decode cX12_muffle 41 = .ok (.goto 4, 3) := by decide +kernel
theorem dX12_muffle_44 : decode cX12_muffle 44 = .ok (.iconst 0, 1) := by decide +kernel
theorem dX12_muffle_45 : decode cX12_muffle 45 = .ok (.invokevirtual 72, 3) := by decide +kernel
theorem dX12_muffle_48 : decode cX12_muffle 48 = .ok (.iconst 1, 1) := by decide +kernel
theorem dX12_muffle_49 : decode cX12_muffle 49 = .ok (.ireturn, 1) := by decide +kernel
set_option maxHeartbeats 4000000 in
set_option maxRecDepth 100000 in
theorem c_X12_muffle (l : Launch) (D : va_G) (tys : List (ClassId × FieldType)) (base : Nat) (G : iv_G) (h0 : Nat) (g_h0 : Nat → Int32) (r_h0 : Nat → Nat) (a_h0 : G h0 = some (12, g_h0, r_h0)) (x_0 : Int32) (i_x_0 : iv_R (-2147483648) 2147483647 x_0) (x_1 : Int32) (i_x_1 : iv_R 0 1 x_1) : Met l yX12_muffle (Cond.code yX12_muffle cX12_muffle 3 (some .boolean) :: iv_W0) ({ frames := 2, cells := 0, slots := 0, locals := 43 }) (iv_Pc iv_sh D classes tys base G [.ref h0, .int x_0, .int x_1]) (iv_Qi iv_sh D classes tys base (fun v G' => iv_Md [12, 60, 62] G G' ∧ iv_R 0 1 v ∧ (¬ v = 0 → iv_R 0 9 x_0))) 0 0 (iv_A base) := by
  refine iv_head (by decide) (Nat.le_of_ble_eq_true rfl) ?_
  intro p e s m args below meth c ls X hr hlocks hname hB hl
  have X := X
  have hx := X.1.1
  have hb := X.1.2.1
  have hM : iv_Md [12, 60, 62] G G := iv_Md.rf
  have hl : lv_has ls 3 [(0, .ref h0), (1, .int x_0), (2, .int x_1)] := hl
  refine lv_aload_n hx hb dX12_muffle_0 rfl (lv_at hl 0 rfl) ?_
  refine lv_iload_n hx hb dX12_muffle_1 rfl (lv_at hl 1 rfl) ?_
  refine iv_cVi X k_good k_mf_X12_isBell k_im_X12_isBell k_sel_X12_isBell k_ml_X12_76 ft_X12 hB a_h0 sh_12 (As := [.int x_0]) (c_X12_isBell l D tys base G h0 g_h0 r_h0 a_h0 x_0 i_x_0) ⟨rfl, rfl⟩ ⟨Nat.le_of_ble_eq_true rfl, Nat.le_of_ble_eq_true rfl⟩ ⟨Nat.le_of_ble_eq_true rfl, Nat.le_of_ble_eq_true rfl⟩ rfl rfl hl.1 (Nat.le_of_ble_eq_true rfl) dX12_muffle_2 (fun x1 G9 H locs hq hB => ?_)
  obtain ⟨rfl, i_x1, hp2⟩ := hq
  refine lv_if_eq (tgt := 27) hx hb dX12_muffle_5 (by decide) (fun c3 => ?_) (fun c3 => ?_)
  · skip
    have i3_x1 : iv_R 0 0 x1 := (i_x1.cutHi (n := 0) (iv_eq_r c3 q_0).2)
    refine lv_iconst (v := 0) hx hb dX12_muffle_27 (by decide) ?_
    exact iv_zret X hr hlocks hB (q_0.wk (by decide)) ⟨hM, (q_0.wk (by decide)), fun h => absurd (iv_z q_0) h⟩ dX12_muffle_28
  · skip
    have i4_x1 : iv_R 1 1 x1 := iv_ne_lo c3 i_x1 q_0 (by decide)
    have i5_x_0 : iv_R 0 9 x_0 := ((i_x_0.cutLo (n := 0) (hp2 c3).1).cutHi (n := 9) (hp2 c3).2)
    refine lv_aload_n hx hb dX12_muffle_8 rfl (lv_at hl 0 rfl) ?_
    refine lv_iload_n hx hb dX12_muffle_9 rfl (lv_at hl 1 rfl) ?_
    refine lv_iconst (v := 5) hx hb dX12_muffle_10 (by decide) ?_
    refine iv_cVi X k_good k_mf_X12_ofBell k_im_X12_ofBell k_sel_X12_ofBell k_ml_X12_282 ft_X12 hB a_h0 sh_12 (As := [.int x_0, .int 5]) (c_X12_ofBell l D tys base G h0 g_h0 r_h0 a_h0 x_0 i5_x_0 5 (q_5.wk (by decide))) ⟨rfl, rfl⟩ ⟨Nat.le_of_ble_eq_true rfl, Nat.le_of_ble_eq_true rfl⟩ ⟨Nat.le_of_ble_eq_true rfl, Nat.le_of_ble_eq_true rfl⟩ rfl rfl hl.1 (Nat.le_of_ble_eq_true rfl) dX12_muffle_11 (fun x7 G9 H locs hq hB => ?_)
    obtain ⟨rfl, i_x7, cp8, cp9⟩ := hq
    refine lv_iconst (v := 1) hx hb dX12_muffle_14 (by decide) ?_
    refine lv_icmp_ne (tgt := 22) hx hb dX12_muffle_15 (by decide) (fun c10 => ?_) (fun c10 => ?_)
    · skip
      refine lv_iconst (v := 0) hx hb dX12_muffle_22 (by decide) ?_
      refine lv_iload_n hx hb dX12_muffle_23 rfl (lv_at hl 2 rfl) ?_
      refine lv_icmp_ne (tgt := 29) hx hb dX12_muffle_24 (by decide) (fun c11 => ?_) (fun c11 => ?_)
      · skip
        have i11_x_1 : iv_R 1 1 x_1 := iv_ne_lo (Ne.symm c11) i_x_1 q_0 (by decide)
        refine lv_aload_n hx hb dX12_muffle_29 rfl (lv_at hl 0 rfl) ?_
        refine iv_cVv X k_good k_mf_X12_keeps k_im_X12_keeps k_sel_X12_keeps k_ml_X12_329 ft_X12 hB a_h0 sh_12 (As := []) (c_X12_keeps l D tys base G h0 g_h0 r_h0 a_h0) ⟨rfl, rfl⟩ ⟨Nat.le_of_ble_eq_true rfl, Nat.le_of_ble_eq_true rfl⟩ ⟨Nat.le_of_ble_eq_true rfl, Nat.le_of_ble_eq_true rfl⟩ rfl rfl hl.1 (Nat.le_of_ble_eq_true rfl) dX12_muffle_30 (fun G9 H locs hq hB => ?_)
        have hm := hq
        obtain ⟨G13, hG9⟩ : ∃ g, g = G9 := ⟨_, rfl⟩
        rw [← hG9] at hm hB
        have hM := hM.stp hm (by decide)
        obtain ⟨g14, r15, a_h0, f_g14⟩ := hm.ex a_h0
        refine lv_aload_n hx hb dX12_muffle_33 rfl (lv_at hl 0 rfl) ?_
        refine lv_iload_n hx hb dX12_muffle_34 rfl (lv_at hl 1 rfl) ?_
        refine lv_iconst (v := 5) hx hb dX12_muffle_35 (by decide) ?_
        refine lv_iload_n hx hb dX12_muffle_36 rfl (lv_at hl 2 rfl) ?_
        refine lv_if_eq (tgt := 44) hx hb dX12_muffle_37 (by decide) (fun c16 => ?_) (fun c16 => ?_)
        · skip
          exact (i11_x_1.cutHi (n := 0) (iv_eq_r c16 q_0).2).no (by decide)
        · skip
          refine lv_iconst (v := 1) hx hb dX12_muffle_40 (by decide) ?_
          refine lv_goto (tgt := 45) hx hb dX12_muffle_41 (by decide) ?_
          refine iv_cVv X k_good k_mf_X12_bells k_im_X12_bells k_sel_X12_bells k_ml_X12_72 ft_X12 hB a_h0 sh_12 (As := [.int x_0, .int 5, .int 1]) (c_X12_bells l D tys base G13 h0 g14 r15 a_h0 x_0 i5_x_0 5 (q_5.wk (by decide)) 1 (q_1.wk (by decide)) (fun h => absurd h (by decide)) (fun h => absurd h (by decide))) ⟨rfl, rfl⟩ ⟨Nat.le_of_ble_eq_true rfl, Nat.le_of_ble_eq_true rfl⟩ ⟨Nat.le_of_ble_eq_true rfl, Nat.le_of_ble_eq_true rfl⟩ rfl rfl hl.1 (Nat.le_of_ble_eq_true rfl) dX12_muffle_45 (fun G9 H locs hq hB => ?_)
          have hm := hq
          obtain ⟨G17, hG9⟩ : ∃ g, g = G9 := ⟨_, rfl⟩
          rw [← hG9] at hm hB
          have hM := hM.stp hm (by decide)
          have a_h0 := hm.at a_h0 (by decide)
          refine lv_iconst (v := 1) hx hb dX12_muffle_48 (by decide) ?_
          exact iv_zret X hr hlocks hB (q_1.wk (by decide)) ⟨hM, (q_1.wk (by decide)), fun _ => i5_x_0⟩ dX12_muffle_49
      · skip
        have i17_x_1 : iv_R 0 0 x_1 := (i_x_1.cutHi (n := 0) (iv_eq_r c11.symm q_0).2)
        refine lv_iconst (v := 0) hx hb dX12_muffle_27 (by decide) ?_
        exact iv_zret X hr hlocks hB (q_0.wk (by decide)) ⟨hM, (q_0.wk (by decide)), fun _ => i5_x_0⟩ dX12_muffle_28
    · skip
      have i18_x7 : iv_R 1 1 x7 := ((i_x7.cutLo (n := 1) (iv_eq_r c10 q_1).1).cutHi (n := 1) (iv_eq_r c10 q_1).2)
      refine lv_iconst (v := 1) hx hb dX12_muffle_18 (by decide) ?_
      refine lv_goto (tgt := 23) hx hb dX12_muffle_19 (by decide) ?_
      refine lv_iload_n hx hb dX12_muffle_23 rfl (lv_at hl 2 rfl) ?_
      refine lv_icmp_ne (tgt := 29) hx hb dX12_muffle_24 (by decide) (fun c20 => ?_) (fun c20 => ?_)
      · skip
        have i20_x_1 : iv_R 0 0 x_1 := iv_ne_hi (Ne.symm c20) i_x_1 q_1 (by decide)
        refine lv_aload_n hx hb dX12_muffle_29 rfl (lv_at hl 0 rfl) ?_
        refine iv_cVv X k_good k_mf_X12_keeps k_im_X12_keeps k_sel_X12_keeps k_ml_X12_329 ft_X12 hB a_h0 sh_12 (As := []) (c_X12_keeps l D tys base G h0 g_h0 r_h0 a_h0) ⟨rfl, rfl⟩ ⟨Nat.le_of_ble_eq_true rfl, Nat.le_of_ble_eq_true rfl⟩ ⟨Nat.le_of_ble_eq_true rfl, Nat.le_of_ble_eq_true rfl⟩ rfl rfl hl.1 (Nat.le_of_ble_eq_true rfl) dX12_muffle_30 (fun G9 H locs hq hB => ?_)
        have hm := hq
        obtain ⟨G22, hG9⟩ : ∃ g, g = G9 := ⟨_, rfl⟩
        rw [← hG9] at hm hB
        have hM := hM.stp hm (by decide)
        obtain ⟨g23, r24, a_h0, f_g23⟩ := hm.ex a_h0
        refine lv_aload_n hx hb dX12_muffle_33 rfl (lv_at hl 0 rfl) ?_
        refine lv_iload_n hx hb dX12_muffle_34 rfl (lv_at hl 1 rfl) ?_
        refine lv_iconst (v := 5) hx hb dX12_muffle_35 (by decide) ?_
        refine lv_iload_n hx hb dX12_muffle_36 rfl (lv_at hl 2 rfl) ?_
        refine lv_if_eq (tgt := 44) hx hb dX12_muffle_37 (by decide) (fun c25 => ?_) (fun c25 => ?_)
        · skip
          refine lv_iconst (v := 0) hx hb dX12_muffle_44 (by decide) ?_
          refine iv_cVv X k_good k_mf_X12_bells k_im_X12_bells k_sel_X12_bells k_ml_X12_72 ft_X12 hB a_h0 sh_12 (As := [.int x_0, .int 5, .int 0]) (c_X12_bells l D tys base G22 h0 g23 r24 a_h0 x_0 i5_x_0 5 (q_5.wk (by decide)) 0 (q_0.wk (by decide)) (fun h => absurd h (by decide)) (fun h => absurd h (by decide))) ⟨rfl, rfl⟩ ⟨Nat.le_of_ble_eq_true rfl, Nat.le_of_ble_eq_true rfl⟩ ⟨Nat.le_of_ble_eq_true rfl, Nat.le_of_ble_eq_true rfl⟩ rfl rfl hl.1 (Nat.le_of_ble_eq_true rfl) dX12_muffle_45 (fun G9 H locs hq hB => ?_)
          have hm := hq
          obtain ⟨G26, hG9⟩ : ∃ g, g = G9 := ⟨_, rfl⟩
          rw [← hG9] at hm hB
          have hM := hM.stp hm (by decide)
          have a_h0 := hm.at a_h0 (by decide)
          refine lv_iconst (v := 1) hx hb dX12_muffle_48 (by decide) ?_
          exact iv_zret X hr hlocks hB (q_1.wk (by decide)) ⟨hM, (q_1.wk (by decide)), fun _ => i5_x_0⟩ dX12_muffle_49
        · skip
          exact (iv_ne_lo c25 i20_x_1 q_0 (a' := 1) (by decide)).no (by decide)
      · skip
        have i26_x_1 : iv_R 1 1 x_1 := (i_x_1.cutLo (n := 1) (iv_eq_r c20.symm q_1).1)
        refine lv_iconst (v := 0) hx hb dX12_muffle_27 (by decide) ?_
        exact iv_zret X hr hlocks hB (q_0.wk (by decide)) ⟨hM, (q_0.wk (by decide)), fun _ => i5_x_0⟩ dX12_muffle_28
theorem dX12_see_0 : decode cX12_see 0 = .ok (.iload_n 1, 1) := by decide +kernel
theorem dX12_see_1 : decode cX12_see 1 = .ok (.aload_n 0, 1) := by decide +kernel
theorem dX12_see_2 : decode cX12_see 2 = .ok (.getfield 82, 3) := by decide +kernel
theorem dX12_see_5 : decode cX12_see 5 = .ok (.if_icmp .ge 12, 3) := by decide +kernel
theorem dX12_see_8 : decode cX12_see 8 = .ok (.aload_n 0, 1) := by decide +kernel
theorem dX12_see_9 : decode cX12_see 9 = .ok (.getfield 28, 3) := by decide +kernel
theorem dX12_see_12 : decode cX12_see 12 = .ok (.iload_n 1, 1) := by decide +kernel
theorem dX12_see_13 : decode cX12_see 13 = .ok (.iaload, 1) := by decide +kernel
theorem dX12_see_14 : decode cX12_see 14 = .ok (.goto 4, 3) := by decide +kernel
theorem dX12_see_17 : decode cX12_see 17 = .ok (.iconst (-1), 1) := by decide +kernel
theorem dX12_see_18 : decode cX12_see 18 = .ok (.ireturn, 1) := by decide +kernel
set_option maxHeartbeats 4000000 in
set_option maxRecDepth 100000 in
theorem c_X12_see (l : Launch) (D : va_G) (tys : List (ClassId × FieldType)) (base : Nat) (G : iv_G) (h0 : Nat) (g_h0 : Nat → Int32) (r_h0 : Nat → Nat) (a_h0 : G h0 = some (12, g_h0, r_h0)) (x_0 : Int32) (i_x_0 : iv_R 0 400 x_0) : Met l yX12_see (Cond.code yX12_see cX12_see 2 (some .int) :: iv_W0) ({ frames := 0, cells := 0, slots := 0, locals := 0 }) (iv_Pc iv_sh D classes tys base G [.ref h0, .int x_0]) (iv_Qi iv_sh D classes tys base (fun v G' => G = G' ∧ iv_R (-1) 255 v ∧ (0 ≤ v.toInt → iv_R 0 399 x_0))) 0 0 (iv_A base) := by
  refine iv_head (by decide) (Nat.le_of_ble_eq_true rfl) ?_
  intro p e s m args below meth c ls X hr hlocks hname hB hl
  have X := X
  have hx := X.1.1
  have hb := X.1.2.1
  have hl : lv_has ls 2 [(0, .ref h0), (1, .int x_0)] := hl
  refine lv_iload_n hx hb dX12_see_0 rfl (lv_at hl 1 rfl) ?_
  refine lv_aload_n hx hb dX12_see_1 rfl (lv_at hl 0 rfl) ?_
  refine iv_geti X ft_X12 hB a_h0 sh_12 15 (by decide) rfl k_fl_X12_82 dX12_see_2 (fun x1 e_x1 i_x1 => ?_)
  refine lv_icmp_ge (tgt := 17) hx hb dX12_see_5 (by decide) (fun c2 => ?_) (fun c2 => ?_)
  · skip
    refine lv_iconst (v := (-1)) hx hb dX12_see_17 (by decide) ?_
    exact iv_iret X hr hlocks hB ⟨rfl, (q_n1.wk (by decide)), fun h => absurd (Int.le_trans h q_n1.2) (by decide)⟩ dX12_see_18
  · skip
    have i2_x_0 : iv_R 0 399 x_0 := (i_x_0.cutHi (n := 399) (iv_lt_r (iv_nle c2) i_x1 (by decide)))
    have i3_x1 : iv_R 1 400 x1 := (i_x1.cutLo (n := 1) (iv_lt_l (iv_nle c2) i_x_0 (by decide)))
    refine lv_aload_n hx hb dX12_see_8 rfl (lv_at hl 0 rfl) ?_
    refine iv_getr X ft_X12 hB a_h0 sh_12 8 (by decide) rfl k_fl_X12_28 dX12_see_9 (fun b5 g_b5 r_b5 e_b5 a_b5 => ?_)
    refine lv_iload_n hx hb dX12_see_12 rfl (lv_at hl 1 rfl) ?_
    refine iv_ald X hB a_b5 sh_66 (iv_in i2_x_0 (by decide)) dX12_see_13 (fun x6 e_x6 i_x6 => ?_)
    refine lv_goto (tgt := 18) hx hb dX12_see_14 (by decide) ?_
    exact iv_iret X hr hlocks hB ⟨rfl, (i_x6.wk (by decide)), fun _ => i2_x_0⟩ dX12_see_18
theorem dX12_ringWord_0 : decode cX12_ringWord 0 = .ok (.aload_n 0, 1) := by decide +kernel
theorem dX12_ringWord_1 : decode cX12_ringWord 1 = .ok (.ldc 101, 2) := by decide +kernel
theorem dX12_ringWord_3 : decode cX12_ringWord 3 = .ok (.invokevirtual 103, 3) := by decide +kernel
theorem dX12_ringWord_6 : decode cX12_ringWord 6 = .ok (.ifCond .eq 6, 3) := by decide +kernel
theorem dX12_ringWord_9 : decode cX12_ringWord 9 = .ok (.bipush 7, 2) := by decide +kernel
theorem dX12_ringWord_11 : decode cX12_ringWord 11 = .ok (.ireturn, 1) := by decide +kernel
theorem dX12_ringWord_12 : decode cX12_ringWord 12 = .ok (.aload_n 0, 1) := by decide +kernel
theorem dX12_ringWord_13 : decode cX12_ringWord 13 = .ok (.ldc 107, 2) := by decide +kernel
theorem dX12_ringWord_15 : decode cX12_ringWord 15 = .ok (.invokevirtual 103, 3) := by decide +kernel
theorem dX12_ringWord_18 : decode cX12_ringWord 18 = .ok (.ifCond .eq 6, 3) := by decide +kernel
theorem dX12_ringWord_21 : decode cX12_ringWord 21 = .ok (.bipush 8, 2) := by decide +kernel
theorem dX12_ringWord_23 : decode cX12_ringWord 23 = .ok (.ireturn, 1) := by decide +kernel
theorem dX12_ringWord_24 : decode cX12_ringWord 24 = .ok (.aload_n 0, 1) := by decide +kernel
theorem dX12_ringWord_25 : decode cX12_ringWord 25 = .ok (.ldc 108, 2) := by decide +kernel
theorem dX12_ringWord_27 : decode cX12_ringWord 27 = .ok (.invokevirtual 103, 3) := by decide +kernel
theorem dX12_ringWord_30 : decode cX12_ringWord 30 = .ok (.ifCond .eq 8, 3) := by decide +kernel
theorem dX12_ringWord_33 : decode cX12_ringWord 33 = .ok (.bipush 9, 2) := by decide +kernel
theorem dX12_ringWord_35 : decode cX12_ringWord 35 = .ok (.goto 4, 3) := by decide +kernel
theorem dX12_ringWord_38 : decode cX12_ringWord 38 = .ok (.iconst 1, 1) := by decide +kernel
theorem dX12_ringWord_39 : decode cX12_ringWord 39 = .ok (.ireturn, 1) := by decide +kernel
set_option maxHeartbeats 4000000 in
set_option maxRecDepth 100000 in
theorem c_X12_ringWord (l : Launch) (D : va_G) (tys : List (ClassId × FieldType)) (base : Nat) (G : iv_G) (h0 : Nat) (g_h0 : Nat → Int32) (r_h0 : Nat → Nat) (a_h0 : G h0 = some (12, g_h0, r_h0)) : Met l yX12_ringWord (Cond.code yX12_ringWord cX12_ringWord 1 (some .int) :: iv_W0) ({ frames := 5, cells := 0, slots := 0, locals := 108 }) (iv_Pc iv_sh D classes tys base G [.ref h0]) (iv_Qi iv_sh D classes tys base (fun v G' => G = G' ∧ iv_R 1 9 v)) 0 0 (iv_A base) := by
  refine iv_head (by decide) (Nat.le_of_ble_eq_true rfl) ?_
  intro p e s m args below meth c ls X hr hlocks hname hB hl
  have X := X
  have hx := X.1.1
  have hb := X.1.2.1
  have hl : lv_has ls 1 [(0, .ref h0)] := hl
  refine lv_aload_n hx hb dX12_ringWord_0 rfl (lv_at hl 0 rfl) ?_
  refine iv_sldc X (i := 2) rfl dX12_ringWord_1 ?_
  refine iv_cVi X k_good k_mf_X12_is k_im_X12_is k_sel_X12_is k_ml_X12_103 ft_X12 hB a_h0 sh_12 (As := [.ref (D.2 100 2)]) (c_X12_is l D tys base G h0 g_h0 r_h0 a_h0 2 (by decide)) ⟨rfl, rfl⟩ ⟨Nat.le_of_ble_eq_true rfl, Nat.le_of_ble_eq_true rfl⟩ ⟨Nat.le_of_ble_eq_true rfl, Nat.le_of_ble_eq_true rfl⟩ rfl rfl hl.1 (Nat.le_of_ble_eq_true rfl) dX12_ringWord_3 (fun x1 G9 H locs hq hB => ?_)
  obtain ⟨rfl, i_x1⟩ := hq
  refine lv_if_eq (tgt := 12) hx hb dX12_ringWord_6 (by decide) (fun c2 => ?_) (fun c2 => ?_)
  · skip
    have i2_x1 : iv_R 0 0 x1 := (i_x1.cutHi (n := 0) (iv_eq_r c2 q_0).2)
    refine lv_aload_n hx hb dX12_ringWord_12 rfl (lv_at hl 0 rfl) ?_
    refine iv_sldc X (i := 3) rfl dX12_ringWord_13 ?_
    refine iv_cVi X k_good k_mf_X12_is k_im_X12_is k_sel_X12_is k_ml_X12_103 ft_X12 hB a_h0 sh_12 (As := [.ref (D.2 100 3)]) (c_X12_is l D tys base G h0 g_h0 r_h0 a_h0 3 (by decide)) ⟨rfl, rfl⟩ ⟨Nat.le_of_ble_eq_true rfl, Nat.le_of_ble_eq_true rfl⟩ ⟨Nat.le_of_ble_eq_true rfl, Nat.le_of_ble_eq_true rfl⟩ rfl rfl hl.1 (Nat.le_of_ble_eq_true rfl) dX12_ringWord_15 (fun x4 G9 H locs hq hB => ?_)
    obtain ⟨rfl, i_x4⟩ := hq
    refine lv_if_eq (tgt := 24) hx hb dX12_ringWord_18 (by decide) (fun c5 => ?_) (fun c5 => ?_)
    · skip
      have i5_x4 : iv_R 0 0 x4 := (i_x4.cutHi (n := 0) (iv_eq_r c5 q_0).2)
      refine lv_aload_n hx hb dX12_ringWord_24 rfl (lv_at hl 0 rfl) ?_
      refine iv_sldc X (i := 4) rfl dX12_ringWord_25 ?_
      refine iv_cVi X k_good k_mf_X12_is k_im_X12_is k_sel_X12_is k_ml_X12_103 ft_X12 hB a_h0 sh_12 (As := [.ref (D.2 100 4)]) (c_X12_is l D tys base G h0 g_h0 r_h0 a_h0 4 (by decide)) ⟨rfl, rfl⟩ ⟨Nat.le_of_ble_eq_true rfl, Nat.le_of_ble_eq_true rfl⟩ ⟨Nat.le_of_ble_eq_true rfl, Nat.le_of_ble_eq_true rfl⟩ rfl rfl hl.1 (Nat.le_of_ble_eq_true rfl) dX12_ringWord_27 (fun x7 G9 H locs hq hB => ?_)
      obtain ⟨rfl, i_x7⟩ := hq
      refine lv_if_eq (tgt := 38) hx hb dX12_ringWord_30 (by decide) (fun c8 => ?_) (fun c8 => ?_)
      · skip
        have i8_x7 : iv_R 0 0 x7 := (i_x7.cutHi (n := 0) (iv_eq_r c8 q_0).2)
        refine lv_iconst (v := 1) hx hb dX12_ringWord_38 (by decide) ?_
        exact iv_iret X hr hlocks hB ⟨rfl, (q_1.wk (by decide))⟩ dX12_ringWord_39
      · skip
        have i9_x7 : iv_R 1 1 x7 := iv_ne_lo c8 i_x7 q_0 (by decide)
        refine lv_bipush (v := 9) hx hb dX12_ringWord_33 (by decide) ?_
        refine lv_goto (tgt := 39) hx hb dX12_ringWord_35 (by decide) ?_
        exact iv_iret X hr hlocks hB ⟨rfl, (q_9.wk (by decide))⟩ dX12_ringWord_39
    · skip
      have i10_x4 : iv_R 1 1 x4 := iv_ne_lo c5 i_x4 q_0 (by decide)
      refine lv_bipush (v := 8) hx hb dX12_ringWord_21 (by decide) ?_
      exact iv_iret X hr hlocks hB ⟨rfl, (q_8.wk (by decide))⟩ dX12_ringWord_23
  · skip
    have i11_x1 : iv_R 1 1 x1 := iv_ne_lo c2 i_x1 q_0 (by decide)
    refine lv_bipush (v := 7) hx hb dX12_ringWord_9 (by decide) ?_
    exact iv_iret X hr hlocks hB ⟨rfl, (q_7.wk (by decide))⟩ dX12_ringWord_11
theorem dX12_soundWord_0 : decode cX12_soundWord 0 = .ok (.aload_n 0, 1) := by decide +kernel
theorem dX12_soundWord_1 : decode cX12_soundWord 1 = .ok (.ldc 120, 2) := by decide +kernel
theorem dX12_soundWord_3 : decode cX12_soundWord 3 = .ok (.invokevirtual 103, 3) := by decide +kernel
theorem dX12_soundWord_6 : decode cX12_soundWord 6 = .ok (.ifCond .eq 6, 3) := by decide +kernel
theorem dX12_soundWord_9 : decode cX12_soundWord 9 = .ok (.bipush 20, 2) := by decide +kernel
theorem dX12_soundWord_11 : decode cX12_soundWord 11 = .ok (.ireturn, 1) := by decide +kernel
theorem dX12_soundWord_12 : decode cX12_soundWord 12 = .ok (.aload_n 0, 1) := by decide +kernel
theorem dX12_soundWord_13 : decode cX12_soundWord 13 = .ok (.ldc 122, 2) := by decide +kernel
theorem dX12_soundWord_15 : decode cX12_soundWord 15 = .ok (.invokevirtual 103, 3) := by decide +kernel
theorem dX12_soundWord_18 : decode cX12_soundWord 18 = .ok (.ifCond .eq 6, 3) := by decide +kernel
theorem dX12_soundWord_21 : decode cX12_soundWord 21 = .ok (.bipush 46, 2) := by decide +kernel
theorem dX12_soundWord_23 : decode cX12_soundWord 23 = .ok (.ireturn, 1) := by decide +kernel
theorem dX12_soundWord_24 : decode cX12_soundWord 24 = .ok (.aload_n 0, 1) := by decide +kernel
theorem dX12_soundWord_25 : decode cX12_soundWord 25 = .ok (.ldc 124, 2) := by decide +kernel
theorem dX12_soundWord_27 : decode cX12_soundWord 27 = .ok (.invokevirtual 103, 3) := by decide +kernel
theorem dX12_soundWord_30 : decode cX12_soundWord 30 = .ok (.ifCond .eq 6, 3) := by decide +kernel
theorem dX12_soundWord_33 : decode cX12_soundWord 33 = .ok (.bipush 47, 2) := by decide +kernel
theorem dX12_soundWord_35 : decode cX12_soundWord 35 = .ok (.ireturn, 1) := by decide +kernel
theorem dX12_soundWord_36 : decode cX12_soundWord 36 = .ok (.aload_n 0, 1) := by decide +kernel
theorem dX12_soundWord_37 : decode cX12_soundWord 37 = .ok (.ldc 126, 2) := by decide +kernel
theorem dX12_soundWord_39 : decode cX12_soundWord 39 = .ok (.invokevirtual 103, 3) := by decide +kernel
theorem dX12_soundWord_42 : decode cX12_soundWord 42 = .ok (.ifCond .eq 8, 3) := by decide +kernel
theorem dX12_soundWord_45 : decode cX12_soundWord 45 = .ok (.bipush 48, 2) := by decide +kernel
theorem dX12_soundWord_47 : decode cX12_soundWord 47 = .ok (.goto 7, 3) := by decide +kernel
theorem dX12_soundWord_50 : decode cX12_soundWord 50 = .ok (.aload_n 0, 1) := by decide +kernel
theorem dX12_soundWord_51 : decode cX12_soundWord 51 = .ok (.invokevirtual 128, 3) := by decide +kernel
theorem dX12_soundWord_54 : decode cX12_soundWord 54 = .ok (.ireturn, 1) := by decide +kernel
set_option maxHeartbeats 4000000 in
set_option maxRecDepth 100000 in
theorem c_X12_soundWord (l : Launch) (D : va_G) (tys : List (ClassId × FieldType)) (base : Nat) (G : iv_G) (h0 : Nat) (g_h0 : Nat → Int32) (r_h0 : Nat → Nat) (a_h0 : G h0 = some (12, g_h0, r_h0)) : Met l yX12_soundWord (Cond.code yX12_soundWord cX12_soundWord 1 (some .int) :: iv_W0) ({ frames := 6, cells := 0, slots := 0, locals := 128 }) (iv_Pc iv_sh D classes tys base G [.ref h0]) (iv_Qi iv_sh D classes tys base (fun v G' => G = G' ∧ iv_R 1 48 v)) 0 0 (iv_A base) := by
  refine iv_head (by decide) (Nat.le_of_ble_eq_true rfl) ?_
  intro p e s m args below meth c ls X hr hlocks hname hB hl
  have X := X
  have hx := X.1.1
  have hb := X.1.2.1
  have hl : lv_has ls 1 [(0, .ref h0)] := hl
  refine lv_aload_n hx hb dX12_soundWord_0 rfl (lv_at hl 0 rfl) ?_
  refine iv_sldc X (i := 9) rfl dX12_soundWord_1 ?_
  refine iv_cVi X k_good k_mf_X12_is k_im_X12_is k_sel_X12_is k_ml_X12_103 ft_X12 hB a_h0 sh_12 (As := [.ref (D.2 100 9)]) (c_X12_is l D tys base G h0 g_h0 r_h0 a_h0 9 (by decide)) ⟨rfl, rfl⟩ ⟨Nat.le_of_ble_eq_true rfl, Nat.le_of_ble_eq_true rfl⟩ ⟨Nat.le_of_ble_eq_true rfl, Nat.le_of_ble_eq_true rfl⟩ rfl rfl hl.1 (Nat.le_of_ble_eq_true rfl) dX12_soundWord_3 (fun x1 G9 H locs hq hB => ?_)
  obtain ⟨rfl, i_x1⟩ := hq
  refine lv_if_eq (tgt := 12) hx hb dX12_soundWord_6 (by decide) (fun c2 => ?_) (fun c2 => ?_)
  · skip
    have i2_x1 : iv_R 0 0 x1 := (i_x1.cutHi (n := 0) (iv_eq_r c2 q_0).2)
    refine lv_aload_n hx hb dX12_soundWord_12 rfl (lv_at hl 0 rfl) ?_
    refine iv_sldc X (i := 10) rfl dX12_soundWord_13 ?_
    refine iv_cVi X k_good k_mf_X12_is k_im_X12_is k_sel_X12_is k_ml_X12_103 ft_X12 hB a_h0 sh_12 (As := [.ref (D.2 100 10)]) (c_X12_is l D tys base G h0 g_h0 r_h0 a_h0 10 (by decide)) ⟨rfl, rfl⟩ ⟨Nat.le_of_ble_eq_true rfl, Nat.le_of_ble_eq_true rfl⟩ ⟨Nat.le_of_ble_eq_true rfl, Nat.le_of_ble_eq_true rfl⟩ rfl rfl hl.1 (Nat.le_of_ble_eq_true rfl) dX12_soundWord_15 (fun x4 G9 H locs hq hB => ?_)
    obtain ⟨rfl, i_x4⟩ := hq
    refine lv_if_eq (tgt := 24) hx hb dX12_soundWord_18 (by decide) (fun c5 => ?_) (fun c5 => ?_)
    · skip
      have i5_x4 : iv_R 0 0 x4 := (i_x4.cutHi (n := 0) (iv_eq_r c5 q_0).2)
      refine lv_aload_n hx hb dX12_soundWord_24 rfl (lv_at hl 0 rfl) ?_
      refine iv_sldc X (i := 11) rfl dX12_soundWord_25 ?_
      refine iv_cVi X k_good k_mf_X12_is k_im_X12_is k_sel_X12_is k_ml_X12_103 ft_X12 hB a_h0 sh_12 (As := [.ref (D.2 100 11)]) (c_X12_is l D tys base G h0 g_h0 r_h0 a_h0 11 (by decide)) ⟨rfl, rfl⟩ ⟨Nat.le_of_ble_eq_true rfl, Nat.le_of_ble_eq_true rfl⟩ ⟨Nat.le_of_ble_eq_true rfl, Nat.le_of_ble_eq_true rfl⟩ rfl rfl hl.1 (Nat.le_of_ble_eq_true rfl) dX12_soundWord_27 (fun x7 G9 H locs hq hB => ?_)
      obtain ⟨rfl, i_x7⟩ := hq
      refine lv_if_eq (tgt := 36) hx hb dX12_soundWord_30 (by decide) (fun c8 => ?_) (fun c8 => ?_)
      · skip
        have i8_x7 : iv_R 0 0 x7 := (i_x7.cutHi (n := 0) (iv_eq_r c8 q_0).2)
        refine lv_aload_n hx hb dX12_soundWord_36 rfl (lv_at hl 0 rfl) ?_
        refine iv_sldc X (i := 12) rfl dX12_soundWord_37 ?_
        refine iv_cVi X k_good k_mf_X12_is k_im_X12_is k_sel_X12_is k_ml_X12_103 ft_X12 hB a_h0 sh_12 (As := [.ref (D.2 100 12)]) (c_X12_is l D tys base G h0 g_h0 r_h0 a_h0 12 (by decide)) ⟨rfl, rfl⟩ ⟨Nat.le_of_ble_eq_true rfl, Nat.le_of_ble_eq_true rfl⟩ ⟨Nat.le_of_ble_eq_true rfl, Nat.le_of_ble_eq_true rfl⟩ rfl rfl hl.1 (Nat.le_of_ble_eq_true rfl) dX12_soundWord_39 (fun x10 G9 H locs hq hB => ?_)
        obtain ⟨rfl, i_x10⟩ := hq
        refine lv_if_eq (tgt := 50) hx hb dX12_soundWord_42 (by decide) (fun c11 => ?_) (fun c11 => ?_)
        · skip
          have i11_x10 : iv_R 0 0 x10 := (i_x10.cutHi (n := 0) (iv_eq_r c11 q_0).2)
          refine lv_aload_n hx hb dX12_soundWord_50 rfl (lv_at hl 0 rfl) ?_
          refine iv_cVi X k_good k_mf_X12_asked k_im_X12_asked k_sel_X12_asked k_ml_X12_128 ft_X12 hB a_h0 sh_12 (As := []) (c_X12_asked l D tys base G h0 g_h0 r_h0 a_h0) ⟨rfl, rfl⟩ ⟨Nat.le_of_ble_eq_true rfl, Nat.le_of_ble_eq_true rfl⟩ ⟨Nat.le_of_ble_eq_true rfl, Nat.le_of_ble_eq_true rfl⟩ rfl rfl hl.1 (Nat.le_of_ble_eq_true rfl) dX12_soundWord_51 (fun x13 G9 H locs hq hB => ?_)
          obtain ⟨rfl, i_x13⟩ := hq
          exact iv_iret X hr hlocks hB ⟨rfl, (i_x13.wk (by decide))⟩ dX12_soundWord_54
        · skip
          have i13_x10 : iv_R 1 1 x10 := iv_ne_lo c11 i_x10 q_0 (by decide)
          refine lv_bipush (v := 48) hx hb dX12_soundWord_45 (by decide) ?_
          refine lv_goto (tgt := 54) hx hb dX12_soundWord_47 (by decide) ?_
          exact iv_iret X hr hlocks hB ⟨rfl, (q_48.wk (by decide))⟩ dX12_soundWord_54
      · skip
        have i14_x7 : iv_R 1 1 x7 := iv_ne_lo c8 i_x7 q_0 (by decide)
        refine lv_bipush (v := 47) hx hb dX12_soundWord_33 (by decide) ?_
        exact iv_iret X hr hlocks hB ⟨rfl, (q_47.wk (by decide))⟩ dX12_soundWord_35
    · skip
      have i15_x4 : iv_R 1 1 x4 := iv_ne_lo c5 i_x4 q_0 (by decide)
      refine lv_bipush (v := 46) hx hb dX12_soundWord_21 (by decide) ?_
      exact iv_iret X hr hlocks hB ⟨rfl, (q_46.wk (by decide))⟩ dX12_soundWord_23
  · skip
    have i16_x1 : iv_R 1 1 x1 := iv_ne_lo c2 i_x1 q_0 (by decide)
    refine lv_bipush (v := 20) hx hb dX12_soundWord_9 (by decide) ?_
    exact iv_iret X hr hlocks hB ⟨rfl, (q_20.wk (by decide))⟩ dX12_soundWord_11
theorem dX12_word_0 : decode cX12_word 0 = .ok (.aload_n 0, 1) := by decide +kernel
theorem dX12_word_1 : decode cX12_word 1 = .ok (.getfield 141, 3) := by decide +kernel
theorem dX12_word_4 : decode cX12_word 4 = .ok (.ifCond .ne 8, 3) := by decide +kernel
theorem dX12_word_7 : decode cX12_word 7 = .ok (.aload_n 0, 1) := by decide +kernel
theorem dX12_word_8 : decode cX12_word 8 = .ok (.invokevirtual 144, 3) := by decide +kernel
theorem dX12_word_11 : decode cX12_word 11 = .ok (.ireturn, 1) := by decide +kernel
theorem dX12_word_12 : decode cX12_word 12 = .ok (.aload_n 0, 1) := by decide +kernel
theorem dX12_word_13 : decode cX12_word 13 = .ok (.ldc 147, 2) := by decide +kernel
theorem dX12_word_15 : decode cX12_word 15 = .ok (.invokevirtual 103, 3) := by decide +kernel
theorem dX12_word_18 : decode cX12_word 18 = .ok (.ifCond .eq 5, 3) := by decide +kernel
theorem dX12_word_21 : decode cX12_word 21 = .ok (.iconst 3, 1) := by decide +kernel
theorem dX12_word_22 : decode cX12_word 22 = .ok (.ireturn, 1) := by decide +kernel
theorem dX12_word_23 : decode cX12_word 23 = .ok (.aload_n 0, 1) := by decide +kernel
theorem dX12_word_24 : decode cX12_word 24 = .ok (.ldc 149, 2) := by decide +kernel
theorem dX12_word_26 : decode cX12_word 26 = .ok (.invokevirtual 103, 3) := by decide +kernel
theorem dX12_word_29 : decode cX12_word 29 = .ok (.ifCond .eq 5, 3) := by decide +kernel
theorem dX12_word_32 : decode cX12_word 32 = .ok (.iconst 4, 1) := by decide +kernel
theorem dX12_word_33 : decode cX12_word 33 = .ok (.ireturn, 1) := by decide +kernel
theorem dX12_word_34 : decode cX12_word 34 = .ok (.aload_n 0, 1) := by decide +kernel
theorem dX12_word_35 : decode cX12_word 35 = .ok (.ldc 151, 2) := by decide +kernel
theorem dX12_word_37 : decode cX12_word 37 = .ok (.invokevirtual 103, 3) := by decide +kernel
theorem dX12_word_40 : decode cX12_word 40 = .ok (.ifCond .eq 5, 3) := by decide +kernel
theorem dX12_word_43 : decode cX12_word 43 = .ok (.iconst 5, 1) := by decide +kernel
theorem dX12_word_44 : decode cX12_word 44 = .ok (.ireturn, 1) := by decide +kernel
theorem dX12_word_45 : decode cX12_word 45 = .ok (.aload_n 0, 1) := by decide +kernel
theorem dX12_word_46 : decode cX12_word 46 = .ok (.ldc 153, 2) := by decide +kernel
theorem dX12_word_48 : decode cX12_word 48 = .ok (.invokevirtual 103, 3) := by decide +kernel
theorem dX12_word_51 : decode cX12_word 51 = .ok (.ifCond .eq 6, 3) := by decide +kernel
theorem dX12_word_54 : decode cX12_word 54 = .ok (.bipush 6, 2) := by decide +kernel
theorem dX12_word_56 : decode cX12_word 56 = .ok (.ireturn, 1) := by decide +kernel
theorem dX12_word_57 : decode cX12_word 57 = .ok (.aload_n 0, 1) := by decide +kernel
theorem dX12_word_58 : decode cX12_word 58 = .ok (.getfield 141, 3) := by decide +kernel
theorem dX12_word_61 : decode cX12_word 61 = .ok (.iconst 1, 1) := by decide +kernel
theorem dX12_word_62 : decode cX12_word 62 = .ok (.if_icmp .ne 10, 3) := by decide +kernel
theorem dX12_word_65 : decode cX12_word 65 = .ok (.aload_n 0, 1) := by decide +kernel
theorem dX12_word_66 : decode cX12_word 66 = .ok (.invokevirtual 155, 3) := by decide +kernel
theorem dX12_word_69 : decode cX12_word 69 = .ok (.goto 7, 3) := by decide +kernel
theorem dX12_word_72 : decode cX12_word 72 = .ok (.aload_n 0, 1) := by decide +kernel
theorem dX12_word_73 : decode cX12_word 73 = .ok (.invokevirtual 158, 3) := by decide +kernel
theorem dX12_word_76 : decode cX12_word 76 = .ok (.ireturn, 1) := by decide +kernel
set_option maxHeartbeats 4000000 in
set_option maxRecDepth 100000 in
theorem c_X12_word (l : Launch) (D : va_G) (tys : List (ClassId × FieldType)) (base : Nat) (G : iv_G) (h0 : Nat) (g_h0 : Nat → Int32) (r_h0 : Nat → Nat) (a_h0 : G h0 = some (12, g_h0, r_h0)) : Met l yX12_word (Cond.code yX12_word cX12_word 1 (some .int) :: iv_W0) ({ frames := 7, cells := 0, slots := 0, locals := 148 }) (iv_Pc iv_sh D classes tys base G [.ref h0]) (iv_Qi iv_sh D classes tys base (fun v G' => G = G' ∧ iv_R 1 51 v)) 0 0 (iv_A base) := by
  refine iv_head (by decide) (Nat.le_of_ble_eq_true rfl) ?_
  intro p e s m args below meth c ls X hr hlocks hname hB hl
  have X := X
  have hx := X.1.1
  have hb := X.1.2.1
  have hl : lv_has ls 1 [(0, .ref h0)] := hl
  refine lv_aload_n hx hb dX12_word_0 rfl (lv_at hl 0 rfl) ?_
  refine iv_geti X ft_X12 hB a_h0 sh_12 11 (by decide) rfl k_fl_X12_141 dX12_word_1 (fun x1 e_x1 i_x1 => ?_)
  refine lv_if_ne (tgt := 12) hx hb dX12_word_4 (by decide) (fun c2 => ?_) (fun c2 => ?_)
  · skip
    refine lv_aload_n hx hb dX12_word_12 rfl (lv_at hl 0 rfl) ?_
    refine iv_sldc X (i := 5) rfl dX12_word_13 ?_
    refine iv_cVi X k_good k_mf_X12_is k_im_X12_is k_sel_X12_is k_ml_X12_103 ft_X12 hB a_h0 sh_12 (As := [.ref (D.2 100 5)]) (c_X12_is l D tys base G h0 g_h0 r_h0 a_h0 5 (by decide)) ⟨rfl, rfl⟩ ⟨Nat.le_of_ble_eq_true rfl, Nat.le_of_ble_eq_true rfl⟩ ⟨Nat.le_of_ble_eq_true rfl, Nat.le_of_ble_eq_true rfl⟩ rfl rfl hl.1 (Nat.le_of_ble_eq_true rfl) dX12_word_15 (fun x3 G9 H locs hq hB => ?_)
    obtain ⟨rfl, i_x3⟩ := hq
    refine lv_if_eq (tgt := 23) hx hb dX12_word_18 (by decide) (fun c4 => ?_) (fun c4 => ?_)
    · skip
      have i4_x3 : iv_R 0 0 x3 := (i_x3.cutHi (n := 0) (iv_eq_r c4 q_0).2)
      refine lv_aload_n hx hb dX12_word_23 rfl (lv_at hl 0 rfl) ?_
      refine iv_sldc X (i := 6) rfl dX12_word_24 ?_
      refine iv_cVi X k_good k_mf_X12_is k_im_X12_is k_sel_X12_is k_ml_X12_103 ft_X12 hB a_h0 sh_12 (As := [.ref (D.2 100 6)]) (c_X12_is l D tys base G h0 g_h0 r_h0 a_h0 6 (by decide)) ⟨rfl, rfl⟩ ⟨Nat.le_of_ble_eq_true rfl, Nat.le_of_ble_eq_true rfl⟩ ⟨Nat.le_of_ble_eq_true rfl, Nat.le_of_ble_eq_true rfl⟩ rfl rfl hl.1 (Nat.le_of_ble_eq_true rfl) dX12_word_26 (fun x6 G9 H locs hq hB => ?_)
      obtain ⟨rfl, i_x6⟩ := hq
      refine lv_if_eq (tgt := 34) hx hb dX12_word_29 (by decide) (fun c7 => ?_) (fun c7 => ?_)
      · skip
        have i7_x6 : iv_R 0 0 x6 := (i_x6.cutHi (n := 0) (iv_eq_r c7 q_0).2)
        refine lv_aload_n hx hb dX12_word_34 rfl (lv_at hl 0 rfl) ?_
        refine iv_sldc X (i := 7) rfl dX12_word_35 ?_
        refine iv_cVi X k_good k_mf_X12_is k_im_X12_is k_sel_X12_is k_ml_X12_103 ft_X12 hB a_h0 sh_12 (As := [.ref (D.2 100 7)]) (c_X12_is l D tys base G h0 g_h0 r_h0 a_h0 7 (by decide)) ⟨rfl, rfl⟩ ⟨Nat.le_of_ble_eq_true rfl, Nat.le_of_ble_eq_true rfl⟩ ⟨Nat.le_of_ble_eq_true rfl, Nat.le_of_ble_eq_true rfl⟩ rfl rfl hl.1 (Nat.le_of_ble_eq_true rfl) dX12_word_37 (fun x9 G9 H locs hq hB => ?_)
        obtain ⟨rfl, i_x9⟩ := hq
        refine lv_if_eq (tgt := 45) hx hb dX12_word_40 (by decide) (fun c10 => ?_) (fun c10 => ?_)
        · skip
          have i10_x9 : iv_R 0 0 x9 := (i_x9.cutHi (n := 0) (iv_eq_r c10 q_0).2)
          refine lv_aload_n hx hb dX12_word_45 rfl (lv_at hl 0 rfl) ?_
          refine iv_sldc X (i := 8) rfl dX12_word_46 ?_
          refine iv_cVi X k_good k_mf_X12_is k_im_X12_is k_sel_X12_is k_ml_X12_103 ft_X12 hB a_h0 sh_12 (As := [.ref (D.2 100 8)]) (c_X12_is l D tys base G h0 g_h0 r_h0 a_h0 8 (by decide)) ⟨rfl, rfl⟩ ⟨Nat.le_of_ble_eq_true rfl, Nat.le_of_ble_eq_true rfl⟩ ⟨Nat.le_of_ble_eq_true rfl, Nat.le_of_ble_eq_true rfl⟩ rfl rfl hl.1 (Nat.le_of_ble_eq_true rfl) dX12_word_48 (fun x12 G9 H locs hq hB => ?_)
          obtain ⟨rfl, i_x12⟩ := hq
          refine lv_if_eq (tgt := 57) hx hb dX12_word_51 (by decide) (fun c13 => ?_) (fun c13 => ?_)
          · skip
            have i13_x12 : iv_R 0 0 x12 := (i_x12.cutHi (n := 0) (iv_eq_r c13 q_0).2)
            refine lv_aload_n hx hb dX12_word_57 rfl (lv_at hl 0 rfl) ?_
            refine iv_geti0 X ft_X12 hB a_h0 sh_12 11 (by decide) rfl k_fl_X12_141 dX12_word_58 e_x1 ?_
            refine lv_iconst (v := 1) hx hb dX12_word_61 (by decide) ?_
            refine lv_icmp_ne (tgt := 72) hx hb dX12_word_62 (by decide) (fun c15 => ?_) (fun c15 => ?_)
            · skip
              refine lv_aload_n hx hb dX12_word_72 rfl (lv_at hl 0 rfl) ?_
              refine iv_cVi X k_good k_mf_X12_comingWord k_im_X12_comingWord k_sel_X12_comingWord k_ml_X12_158 ft_X12 hB a_h0 sh_12 (As := []) (c_X12_comingWord l D tys base G h0 g_h0 r_h0 a_h0) ⟨rfl, rfl⟩ ⟨Nat.le_of_ble_eq_true rfl, Nat.le_of_ble_eq_true rfl⟩ ⟨Nat.le_of_ble_eq_true rfl, Nat.le_of_ble_eq_true rfl⟩ rfl rfl hl.1 (Nat.le_of_ble_eq_true rfl) dX12_word_73 (fun x16 G9 H locs hq hB => ?_)
              obtain ⟨rfl, i_x16⟩ := hq
              exact iv_iret X hr hlocks hB ⟨rfl, i_x16⟩ dX12_word_76
            · skip
              have i16_x1 : iv_R 1 1 x1 := ((i_x1.cutLo (n := 1) (iv_eq_r c15 q_1).1).cutHi (n := 1) (iv_eq_r c15 q_1).2)
              refine lv_aload_n hx hb dX12_word_65 rfl (lv_at hl 0 rfl) ?_
              refine iv_cVi X k_good k_mf_X12_soundWord k_im_X12_soundWord k_sel_X12_soundWord k_ml_X12_155 ft_X12 hB a_h0 sh_12 (As := []) (c_X12_soundWord l D tys base G h0 g_h0 r_h0 a_h0) ⟨rfl, rfl⟩ ⟨Nat.le_of_ble_eq_true rfl, Nat.le_of_ble_eq_true rfl⟩ ⟨Nat.le_of_ble_eq_true rfl, Nat.le_of_ble_eq_true rfl⟩ rfl rfl hl.1 (Nat.le_of_ble_eq_true rfl) dX12_word_66 (fun x18 G9 H locs hq hB => ?_)
              obtain ⟨rfl, i_x18⟩ := hq
              refine lv_goto (tgt := 76) hx hb dX12_word_69 (by decide) ?_
              exact iv_iret X hr hlocks hB ⟨rfl, (i_x18.wk (by decide))⟩ dX12_word_76
          · skip
            have i18_x12 : iv_R 1 1 x12 := iv_ne_lo c13 i_x12 q_0 (by decide)
            refine lv_bipush (v := 6) hx hb dX12_word_54 (by decide) ?_
            exact iv_iret X hr hlocks hB ⟨rfl, (q_6.wk (by decide))⟩ dX12_word_56
        · skip
          have i19_x9 : iv_R 1 1 x9 := iv_ne_lo c10 i_x9 q_0 (by decide)
          refine lv_iconst (v := 5) hx hb dX12_word_43 (by decide) ?_
          exact iv_iret X hr hlocks hB ⟨rfl, (q_5.wk (by decide))⟩ dX12_word_44
      · skip
        have i20_x6 : iv_R 1 1 x6 := iv_ne_lo c7 i_x6 q_0 (by decide)
        refine lv_iconst (v := 4) hx hb dX12_word_32 (by decide) ?_
        exact iv_iret X hr hlocks hB ⟨rfl, (q_4.wk (by decide))⟩ dX12_word_33
    · skip
      have i21_x3 : iv_R 1 1 x3 := iv_ne_lo c4 i_x3 q_0 (by decide)
      refine lv_iconst (v := 3) hx hb dX12_word_21 (by decide) ?_
      exact iv_iret X hr hlocks hB ⟨rfl, (q_3.wk (by decide))⟩ dX12_word_22
  · skip
    have i22_x1 : iv_R 0 0 x1 := ((i_x1.cutLo (n := 0) (iv_eq_r c2 q_0).1).cutHi (n := 0) (iv_eq_r c2 q_0).2)
    refine lv_aload_n hx hb dX12_word_7 rfl (lv_at hl 0 rfl) ?_
    refine iv_cVi X k_good k_mf_X12_ringWord k_im_X12_ringWord k_sel_X12_ringWord k_ml_X12_144 ft_X12 hB a_h0 sh_12 (As := []) (c_X12_ringWord l D tys base G h0 g_h0 r_h0 a_h0) ⟨rfl, rfl⟩ ⟨Nat.le_of_ble_eq_true rfl, Nat.le_of_ble_eq_true rfl⟩ ⟨Nat.le_of_ble_eq_true rfl, Nat.le_of_ble_eq_true rfl⟩ rfl rfl hl.1 (Nat.le_of_ble_eq_true rfl) dX12_word_8 (fun x24 G9 H locs hq hB => ?_)
    obtain ⟨rfl, i_x24⟩ := hq
    exact iv_iret X hr hlocks hB ⟨rfl, (i_x24.wk (by decide))⟩ dX12_word_11
theorem dX12_next0_0 : decode cX12_next0 0 = .ok (.aload_n 0, 1) := by decide +kernel
theorem dX12_next0_1 : decode cX12_next0 1 = .ok (.aload_n 0, 1) := by decide +kernel
theorem dX12_next0_2 : decode cX12_next0 2 = .ok (.getfield 85, 3) := by decide +kernel
theorem dX12_next0_5 : decode cX12_next0 5 = .ok (.invokevirtual 161, 3) := by decide +kernel
theorem dX12_next0_8 : decode cX12_next0 8 = .ok (.bipush 32, 2) := by decide +kernel
theorem dX12_next0_10 : decode cX12_next0 10 = .ok (.if_icmp .eq 16, 3) := by decide +kernel
theorem dX12_next0_13 : decode cX12_next0 13 = .ok (.aload_n 0, 1) := by decide +kernel
theorem dX12_next0_14 : decode cX12_next0 14 = .ok (.aload_n 0, 1) := by decide +kernel
theorem dX12_next0_15 : decode cX12_next0 15 = .ok (.getfield 85, 3) := by decide +kernel
theorem dX12_next0_18 : decode cX12_next0 18 = .ok (.invokevirtual 161, 3) := by decide +kernel
theorem dX12_next0_21 : decode cX12_next0 21 = .ok (.bipush 10, 2) := by decide +kernel
theorem dX12_next0_23 : decode cX12_next0 23 = .ok (.if_icmp .ne 16, 3) := by decide +kernel
theorem dX12_next0_26 : decode cX12_next0 26 = .ok (.aload_n 0, 1) := by decide +kernel
theorem dX12_next0_27 : decode cX12_next0 27 = .ok (.dup, 1) := by decide +kernel
theorem dX12_next0_28 : decode cX12_next0 28 = .ok (.getfield 85, 3) := by decide +kernel
theorem dX12_next0_31 : decode cX12_next0 31 = .ok (.iconst 1, 1) := by decide +kernel
theorem dX12_next0_32 : decode cX12_next0 32 = .ok (.iadd, 1) := by decide +kernel
theorem dX12_next0_33 : decode cX12_next0 33 = .ok (.putfield 85, 3) := by decide +kernel
theorem dX12_next0_36 : decode cX12_next0 36 = .ok (.goto (-36), 3) := by decide +kernel
theorem dX12_next0_39 : decode cX12_next0 39 = .ok (.aload_n 0, 1) := by decide +kernel
theorem dX12_next0_40 : decode cX12_next0 40 = .ok (.aload_n 0, 1) := by decide +kernel
theorem dX12_next0_41 : decode cX12_next0 41 = .ok (.getfield 85, 3) := by decide +kernel
theorem dX12_next0_44 : decode cX12_next0 44 = .ok (.putfield 88, 3) := by decide +kernel
theorem dX12_next0_47 : decode cX12_next0 47 = .ok (.aload_n 0, 1) := by decide +kernel
theorem dX12_next0_48 : decode cX12_next0 48 = .ok (.aload_n 0, 1) := by decide +kernel
theorem dX12_next0_49 : decode cX12_next0 49 = .ok (.getfield 85, 3) := by decide +kernel
theorem dX12_next0_52 : decode cX12_next0 52 = .ok (.invokevirtual 161, 3) := by decide +kernel
theorem dX12_next0_55 : decode cX12_next0 55 = .ok (.istore_n 1, 1) := by decide +kernel
theorem dX12_next0_56 : decode cX12_next0 56 = .ok (.iload_n 1, 1) := by decide +kernel
theorem dX12_next0_57 : decode cX12_next0 57 = .ok (.iconst (-1), 1) := by decide +kernel
theorem dX12_next0_58 : decode cX12_next0 58 = .ok (.if_icmp .ne 11, 3) := by decide +kernel
theorem dX12_next0_61 : decode cX12_next0 61 = .ok (.aload_n 0, 1) := by decide +kernel
theorem dX12_next0_62 : decode cX12_next0 62 = .ok (.iconst 0, 1) := by decide +kernel
theorem dX12_next0_63 : decode cX12_next0 63 = .ok (.putfield 165, 3) := by decide +kernel
theorem dX12_next0_66 : decode cX12_next0 66 = .ok (.goto 240, 3) := by decide +kernel
theorem dX12_next0_69 : decode cX12_next0 69 = .ok (.iload_n 1, 1) := by decide +kernel
theorem dX12_next0_70 : decode cX12_next0 70 = .ok (.invokestatic 168, 3) := by decide +kernel
theorem dX12_next0_73 : decode cX12_next0 73 = .ok (.ifCond .eq 41, 3) := by decide +kernel
theorem dX12_next0_76 : decode cX12_next0 76 = .ok (.aload_n 0, 1) := by decide +kernel
theorem dX12_next0_77 : decode cX12_next0 77 = .ok (.aload_n 0, 1) := by decide +kernel
theorem dX12_next0_78 : decode cX12_next0 78 = .ok (.getfield 85, 3) := by decide +kernel
theorem dX12_next0_81 : decode cX12_next0 81 = .ok (.invokevirtual 161, 3) := by decide +kernel
theorem dX12_next0_84 : decode cX12_next0 84 = .ok (.invokestatic 168, 3) := by decide +kernel
theorem dX12_next0_87 : decode cX12_next0 87 = .ok (.ifCond .eq 16, 3) := by decide +kernel
theorem dX12_next0_90 : decode cX12_next0 90 = .ok (.aload_n 0, 1) := by decide +kernel
theorem dX12_next0_91 : decode cX12_next0 91 = .ok (.dup, 1) := by decide +kernel
theorem dX12_next0_92 : decode cX12_next0 92 = .ok (.getfield 85, 3) := by decide +kernel
theorem dX12_next0_95 : decode cX12_next0 95 = .ok (.iconst 1, 1) := by decide +kernel
theorem dX12_next0_96 : decode cX12_next0 96 = .ok (.iadd, 1) := by decide +kernel
theorem dX12_next0_97 : decode cX12_next0 97 = .ok (.putfield 85, 3) := by decide +kernel
theorem dX12_next0_100 : decode cX12_next0 100 = .ok (.goto (-24), 3) := by decide +kernel
theorem dX12_next0_103 : decode cX12_next0 103 = .ok (.aload_n 0, 1) := by decide +kernel
theorem dX12_next0_104 : decode cX12_next0 104 = .ok (.aload_n 0, 1) := by decide +kernel
theorem dX12_next0_105 : decode cX12_next0 105 = .ok (.invokevirtual 171, 3) := by decide +kernel
theorem dX12_next0_108 : decode cX12_next0 108 = .ok (.putfield 165, 3) := by decide +kernel
theorem dX12_next0_111 : decode cX12_next0 111 = .ok (.goto 195, 3) := by decide +kernel
theorem dX12_next0_114 : decode cX12_next0 114 = .ok (.iload_n 1, 1) := by decide +kernel
theorem dX12_next0_115 : decode cX12_next0 115 = .ok (.invokestatic 174, 3) := by decide +kernel
theorem dX12_next0_118 : decode cX12_next0 118 = .ok (.ifCond .eq 96, 3) := by decide +kernel
theorem dX12_next0_121 : decode cX12_next0 121 = .ok (.aload_n 0, 1) := by decide +kernel
theorem dX12_next0_122 : decode cX12_next0 122 = .ok (.iconst 0, 1) := by decide +kernel
theorem dX12_next0_123 : decode cX12_next0 123 = .ok (.putfield 177, 3) := by decide +kernel
theorem dX12_next0_126 : decode cX12_next0 126 = .ok (.aload_n 0, 1) := by decide +kernel
theorem dX12_next0_127 : decode cX12_next0 127 = .ok (.aload_n 0, 1) := by decide +kernel
theorem dX12_next0_128 : decode cX12_next0 128 = .ok (.getfield 85, 3) := by decide +kernel
theorem dX12_next0_131 : decode cX12_next0 131 = .ok (.invokevirtual 161, 3) := by decide +kernel
theorem dX12_next0_134 : decode cX12_next0 134 = .ok (.invokestatic 174, 3) := by decide +kernel
theorem dX12_next0_137 : decode cX12_next0 137 = .ok (.ifCond .eq 52, 3) := by decide +kernel
theorem dX12_next0_140 : decode cX12_next0 140 = .ok (.aload_n 0, 1) := by decide +kernel
theorem dX12_next0_141 : decode cX12_next0 141 = .ok (.getfield 85, 3) := by decide +kernel
theorem dX12_next0_144 : decode cX12_next0 144 = .ok (.aload_n 0, 1) := by decide +kernel
theorem dX12_next0_145 : decode cX12_next0 145 = .ok (.getfield 88, 3) := by decide +kernel
theorem dX12_next0_148 : decode cX12_next0 148 = .ok (.iconst 4, 1) := by decide +kernel
theorem dX12_next0_149 : decode cX12_next0 149 = .ok (.iadd, 1) := by decide +kernel
theorem dX12_next0_150 : decode cX12_next0 150 = .ok (.if_icmp .ge 26, 3) := by decide +kernel
theorem dX12_next0_153 : decode cX12_next0 153 = .ok (.aload_n 0, 1) := by decide +kernel
theorem dX12_next0_154 : decode cX12_next0 154 = .ok (.bipush 10, 2) := by decide +kernel
theorem dX12_next0_156 : decode cX12_next0 156 = .ok (.aload_n 0, 1) := by decide +kernel
theorem dX12_next0_157 : decode cX12_next0 157 = .ok (.getfield 177, 3) := by decide +kernel
theorem dX12_next0_160 : decode cX12_next0 160 = .ok (.imul, 1) := by decide +kernel
theorem dX12_next0_161 : decode cX12_next0 161 = .ok (.aload_n 0, 1) := by decide +kernel
theorem dX12_next0_162 : decode cX12_next0 162 = .ok (.aload_n 0, 1) := by decide +kernel
theorem dX12_next0_163 : decode cX12_next0 163 = .ok (.getfield 85, 3) := by decide +kernel
theorem dX12_next0_166 : decode cX12_next0 166 = .ok (.invokevirtual 161, 3) := by decide +kernel
theorem dX12_next0_169 : decode cX12_next0 169 = .ok (.iadd, 1) := by decide +kernel
theorem dX12_next0_170 : decode cX12_next0 170 = .ok (.bipush 48, 2) := by decide +kernel
theorem dX12_next0_172 : decode cX12_next0 172 = .ok (.isub, 1) := by decide +kernel
theorem dX12_next0_173 : decode cX12_next0 173 = .ok (.putfield 177, 3) := by decide +kernel
theorem dX12_next0_176 : decode cX12_next0 176 = .ok (.aload_n 0, 1) := by decide +kernel
theorem dX12_next0_177 : decode cX12_next0 177 = .ok (.dup, 1) := by decide +kernel
theorem dX12_next0_178 : decode cX12_next0 178 = .ok (.getfield 85, 3) := by decide +kernel
theorem dX12_next0_181 : decode cX12_next0 181 = .ok (.iconst 1, 1) := by decide +kernel
theorem dX12_next0_182 : decode cX12_next0 182 = .ok (.iadd, 1) := by decide +kernel
theorem dX12_next0_183 : decode cX12_next0 183 = .ok (.putfield 85, 3) := by decide +kernel
theorem dX12_next0_186 : decode cX12_next0 186 = .ok (.goto (-60), 3) := by decide +kernel
theorem dX12_next0_189 : decode cX12_next0 189 = .ok (.aload_n 0, 1) := by decide +kernel
theorem dX12_next0_190 : decode cX12_next0 190 = .ok (.aload_n 0, 1) := by decide +kernel
theorem dX12_next0_191 : decode cX12_next0 191 = .ok (.getfield 85, 3) := by decide +kernel
theorem dX12_next0_194 : decode cX12_next0 194 = .ok (.aload_n 0, 1) := by decide +kernel
theorem dX12_next0_195 : decode cX12_next0 195 = .ok (.getfield 88, 3) := by decide +kernel
theorem dX12_next0_198 : decode cX12_next0 198 = .ok (.isub, 1) := by decide +kernel
theorem dX12_next0_199 : decode cX12_next0 199 = .ok (.iconst 5, 1) := by decide +kernel
theorem dX12_next0_200 : decode cX12_next0 200 = .ok (.if_icmp .ge 7, 3) := by decide +kernel
theorem dX12_next0_203 : decode cX12_next0 203 = .ok (.iconst 2, 1) := by decide +kernel
theorem dX12_next0_204 : decode cX12_next0 204 = .ok (.goto 4, 3) := by decide +kernel
theorem dX12_next0_207 : decode cX12_next0 207 = .ok (.iconst 1, 1) := by decide +kernel
theorem dX12_next0_208 : decode cX12_next0 208 = .ok (.putfield 165, 3) := by decide +kernel
theorem dX12_next0_211 : decode cX12_next0 211 = .ok (.goto 95, 3) := by decide +kernel
theorem dX12_next0_214 : decode cX12_next0 214 = .ok (.aload_n 0, 1) := by decide +kernel
theorem dX12_next0_215 : decode cX12_next0 215 = .ok (.dup, 1) := by decide +kernel
theorem dX12_next0_216 : decode cX12_next0 216 = .ok (.getfield 85, 3) := by decide +kernel
theorem dX12_next0_219 : decode cX12_next0 219 = .ok (.iconst 1, 1) := by decide +kernel
theorem dX12_next0_220 : decode cX12_next0 220 = .ok (.iadd, 1) := by decide +kernel
theorem dX12_next0_221 : decode cX12_next0 221 = .ok (.putfield 85, 3) := by decide +kernel
theorem dX12_next0_224 : decode cX12_next0 224 = .ok (.iload_n 1, 1) := by decide +kernel
theorem dX12_next0_225 : decode cX12_next0 225 = .ok (.bipush 59, 2) := by decide +kernel
theorem dX12_next0_227 : decode cX12_next0 227 = .ok (.if_icmp .eq 57, 3) := by decide +kernel
theorem dX12_next0_230 : decode cX12_next0 230 = .ok (.iload_n 1, 1) := by decide +kernel
theorem dX12_next0_231 : decode cX12_next0 231 = .ok (.bipush 43, 2) := by decide +kernel
theorem dX12_next0_233 : decode cX12_next0 233 = .ok (.if_icmp .eq 51, 3) := by decide +kernel
theorem dX12_next0_236 : decode cX12_next0 236 = .ok (.iload_n 1, 1) := by decide +kernel
theorem dX12_next0_237 : decode cX12_next0 237 = .ok (.bipush 45, 2) := by decide +kernel
theorem dX12_next0_239 : decode cX12_next0 239 = .ok (.if_icmp .eq 45, 3) := by decide +kernel
theorem dX12_next0_242 : decode cX12_next0 242 = .ok (.iload_n 1, 1) := by decide +kernel
theorem dX12_next0_243 : decode cX12_next0 243 = .ok (.bipush 42, 2) := by decide +kernel
theorem dX12_next0_245 : decode cX12_next0 245 = .ok (.if_icmp .eq 39, 3) := by decide +kernel
theorem dX12_next0_248 : decode cX12_next0 248 = .ok (.iload_n 1, 1) := by decide +kernel
theorem dX12_next0_249 : decode cX12_next0 249 = .ok (.bipush 47, 2) := by decide +kernel
theorem dX12_next0_251 : decode cX12_next0 251 = .ok (.if_icmp .eq 33, 3) := by decide +kernel
theorem dX12_next0_254 : decode cX12_next0 254 = .ok (.iload_n 1, 1) := by decide +kernel
theorem dX12_next0_255 : decode cX12_next0 255 = .ok (.bipush 40, 2) := by decide +kernel
theorem dX12_next0_257 : decode cX12_next0 257 = .ok (.if_icmp .eq 27, 3) := by decide +kernel
theorem dX12_next0_260 : decode cX12_next0 260 = .ok (.iload_n 1, 1) := by decide +kernel
theorem dX12_next0_261 : decode cX12_next0 261 = .ok (.bipush 41, 2) := by decide +kernel
theorem dX12_next0_263 : decode cX12_next0 263 = .ok (.if_icmp .eq 21, 3) := by decide +kernel
theorem dX12_next0_266 : decode cX12_next0 266 = .ok (.iload_n 1, 1) := by decide +kernel
theorem dX12_next0_267 : decode cX12_next0 267 = .ok (.bipush 60, 2) := by decide +kernel
theorem dX12_next0_269 : decode cX12_next0 269 = .ok (.if_icmp .eq 15, 3) := by decide +kernel
theorem dX12_next0_272 : decode cX12_next0 272 = .ok (.iload_n 1, 1) := by decide +kernel
theorem dX12_next0_273 : decode cX12_next0 273 = .ok (.bipush 61, 2) := by decide +kernel
theorem dX12_next0_275 : decode cX12_next0 275 = .ok (.if_icmp .eq 9, 3) := by decide +kernel
theorem dX12_next0_278 : decode cX12_next0 278 = .ok (.iload_n 1, 1) := by decide +kernel
theorem dX12_next0_279 : decode cX12_next0 279 = .ok (.bipush 62, 2) := by decide +kernel
theorem dX12_next0_281 : decode cX12_next0 281 = .ok (.if_icmp .ne 7, 3) := by decide +kernel
theorem dX12_next0_284 : decode cX12_next0 284 = .ok (.iconst 1, 1) := by decide +kernel
theorem dX12_next0_285 : decode cX12_next0 285 = .ok (.goto 4, 3) := by decide +kernel
theorem dX12_next0_288 : decode cX12_next0 288 = .ok (.iconst 0, 1) := by decide +kernel
theorem dX12_next0_289 : decode cX12_next0 289 = .ok (.istore_n 2, 1) := by decide +kernel
theorem dX12_next0_290 : decode cX12_next0 290 = .ok (.aload_n 0, 1) := by decide +kernel
theorem dX12_next0_291 : decode cX12_next0 291 = .ok (.iload_n 2, 1) := by decide +kernel
theorem dX12_next0_292 : decode cX12_next0 292 = .ok (.ifCond .eq 10, 3) := by decide +kernel
theorem dX12_next0_295 : decode cX12_next0 295 = .ok (.bipush 100, 2) := by decide +kernel
theorem dX12_next0_297 : decode cX12_next0 297 = .ok (.iload_n 1, 1) := by decide +kernel
theorem dX12_next0_298 : decode cX12_next0 298 = .ok (.iadd, 1) := by decide +kernel
theorem dX12_next0_299 : decode cX12_next0 299 = .ok (.goto 4, 3) := by decide +kernel
theorem dX12_next0_302 : decode cX12_next0 302 = .ok (.iconst 1, 1) := by decide +kernel
theorem dX12_next0_303 : decode cX12_next0 303 = .ok (.putfield 165, 3) := by decide +kernel
theorem dX12_next0_306 : decode cX12_next0 306 = .ok (.return_, 1) := by decide +kernel
set_option maxHeartbeats 4000000 in
set_option maxRecDepth 100000 in
theorem c_X12_next0 (l : Launch) (D : va_G) (tys : List (ClassId × FieldType)) (base : Nat) (G : iv_G) (h0 : Nat) (g_h0 : Nat → Int32) (r_h0 : Nat → Nat) (a_h0 : G h0 = some (12, g_h0, r_h0)) : Met l yX12_next0 (Cond.code yX12_next0 cX12_next0 3 none :: iv_W0) ({ frames := 8, cells := 0, slots := 0, locals := 168 }) (iv_Pc iv_sh D classes tys base G [.ref h0]) (iv_Qv iv_sh D classes tys base (fun G' => iv_Md [12] G G')) 0 0 (iv_A base) := by
  refine iv_head (by decide) (Nat.le_of_ble_eq_true rfl) ?_
  intro p e s m args below meth c ls X hr hlocks hname hB hl
  have X := X
  have hx := X.1.1
  have hb := X.1.2.1
  have hM : iv_Md [12] G G := iv_Md.rf
  have hl : lv_has ls 3 [(0, .ref h0)] := hl
  have L_0 : ∀ (n_0 : Nat) (G3 : iv_G) (hM : iv_Md [12] G G3) (H : Heap) (locs : List Loc) (hB : iv_B iv_sh D classes tys base G3 s.heap H locs) (g1 : Nat → Int32) (r2 : Nat → Nat) (a_h0 : G3 h0 = some (12, g1, r2)) (hn_0 : (401 - (g1 16).toInt).toNat < n_0) (ls : Array Slot) (hl : lv_has ls 3 [(0, .ref h0)]), W p l e ({ frames := 8, cells := 0, slots := 0, locals := 168 } : Room) s m args below meth c H locs 0 0 (MQ below (iv_Qv iv_sh D classes tys base (fun G' => iv_Md [12] G G')) args s 0 0 (iv_A base)) (F0 m 0 ls []) := by
    intro n_0
    induction n_0 with
    | zero => intro G3 hM H locs hB g1 r2 a_h0 hn_0 ls hl; exact absurd hn_0 (Nat.not_lt_zero _)
    | succ n_0 ih_0 =>
      intro G3 hM H locs hB g1 r2 a_h0 hn_0 ls hl
      refine lv_aload_n hx hb dX12_next0_0 rfl (lv_at hl 0 rfl) ?_
      refine lv_aload_n hx hb dX12_next0_1 rfl (lv_at hl 0 rfl) ?_
      refine iv_geti X ft_X12 hB a_h0 sh_12 16 (by decide) rfl k_fl_X12_85 dX12_next0_2 (fun x4 e_x4 i_x4 => ?_)
      refine iv_cVi X k_good k_mf_X12_see k_im_X12_see k_sel_X12_see k_ml_X12_161 ft_X12 hB a_h0 sh_12 (As := [.int x4]) (c_X12_see l D tys base G3 h0 g1 r2 a_h0 x4 i_x4) ⟨rfl, rfl⟩ ⟨Nat.le_of_ble_eq_true rfl, Nat.le_of_ble_eq_true rfl⟩ ⟨Nat.le_of_ble_eq_true rfl, Nat.le_of_ble_eq_true rfl⟩ rfl rfl hl.1 (Nat.le_of_ble_eq_true rfl) dX12_next0_5 (fun x5 G9 H locs hq hB => ?_)
      obtain ⟨rfl, i_x5, np6⟩ := hq
      refine lv_bipush (v := 32) hx hb dX12_next0_8 (by decide) ?_
      refine lv_icmp_eq (tgt := 26) hx hb dX12_next0_10 (by decide) (fun c7 => ?_) (fun c7 => ?_)
      · skip
        have i7_x5 : iv_R 32 32 x5 := ((i_x5.cutLo (n := 32) (iv_eq_r c7 q_32).1).cutHi (n := 32) (iv_eq_r c7 q_32).2)
        have i8_x4 : iv_R 0 399 x4 := (i_x4.cutHi (n := 399) (np6 (Int.le_trans (by decide) i7_x5.1)).2)
        refine lv_aload_n hx hb dX12_next0_26 rfl (lv_at hl 0 rfl) ?_
        refine lv_dup hx hb dX12_next0_27 rfl ?_
        refine iv_geti0 X ft_X12 hB a_h0 sh_12 16 (by decide) rfl k_fl_X12_85 dX12_next0_28 e_x4 ?_
        refine lv_iconst (v := 1) hx hb dX12_next0_31 (by decide) ?_
        refine iv_iadd hx hb i8_x4 q_1 (lo := 1) (hi := 400) (by decide) dX12_next0_32 (fun x10 e_x10 i_x10 => ?_)
        refine iv_puti X ft_X12 hB a_h0 sh_12 16 (by decide) rfl rfl k_fl_X12_85 rfl (i_x10.wk (by decide)) rfl rfl dX12_next0_33 (fun H locs hB => ?_)
        have hm := iv_Md.put (x := x10) a_h0 (j := 16) (by decide) (by decide)
        have h9 := iv_up_eq (G := G3) (a := h0) (k := (12, upd g1 16 x10, r2))
        generalize iv_up G3 h0 _ = G11 at hB hm h9
        have hM := hM.stp hm (by decide)
        generalize hgn_g12 : upd g1 _ _ = g12 at h9
        have a_h0 := h9
        have e9_g12 : x10 = g12 16 := by rw [← hgn_g12]; simp [upd]
        refine lv_goto (tgt := 0) hx hb dX12_next0_36 (by decide) ?_
        exact ih_0 G11 hM _ _ hB g12 r2 a_h0 (by have w1 := congrArg Int32.toInt e9_g12; have w2 := congrArg Int32.toInt e_x4; have w3 := i8_x4.2; have w4 : x10.toInt = x4.toInt + 1 := e_x10; omega) _ (lv_sub hl [0] rfl)
      · skip
        refine lv_aload_n hx hb dX12_next0_13 rfl (lv_at hl 0 rfl) ?_
        refine lv_aload_n hx hb dX12_next0_14 rfl (lv_at hl 0 rfl) ?_
        refine iv_geti0 X ft_X12 hB a_h0 sh_12 16 (by decide) rfl k_fl_X12_85 dX12_next0_15 e_x4 ?_
        refine iv_cVi X k_good k_mf_X12_see k_im_X12_see k_sel_X12_see k_ml_X12_161 ft_X12 hB a_h0 sh_12 (As := [.int x4]) (c_X12_see l D tys base G3 h0 g1 r2 a_h0 x4 i_x4) ⟨rfl, rfl⟩ ⟨Nat.le_of_ble_eq_true rfl, Nat.le_of_ble_eq_true rfl⟩ ⟨Nat.le_of_ble_eq_true rfl, Nat.le_of_ble_eq_true rfl⟩ rfl rfl hl.1 (Nat.le_of_ble_eq_true rfl) dX12_next0_18 (fun x13 G9 H locs hq hB => ?_)
        obtain ⟨rfl, i_x13, np14⟩ := hq
        refine lv_bipush (v := 10) hx hb dX12_next0_21 (by decide) ?_
        refine lv_icmp_ne (tgt := 39) hx hb dX12_next0_23 (by decide) (fun c15 => ?_) (fun c15 => ?_)
        · skip
          refine lv_aload_n hx hb dX12_next0_39 rfl (lv_at hl 0 rfl) ?_
          refine lv_aload_n hx hb dX12_next0_40 rfl (lv_at hl 0 rfl) ?_
          refine iv_geti0 X ft_X12 hB a_h0 sh_12 16 (by decide) rfl k_fl_X12_85 dX12_next0_41 e_x4 ?_
          refine iv_puti X ft_X12 hB a_h0 sh_12 18 (by decide) rfl rfl k_fl_X12_88 rfl i_x4 rfl rfl dX12_next0_44 (fun H locs hB => ?_)
          have hm := iv_Md.put (x := x4) a_h0 (j := 18) (by decide) (by decide)
          have h9 := iv_up_eq (G := G3) (a := h0) (k := (12, upd g1 18 x4, r2))
          generalize iv_up G3 h0 _ = G16 at hB hm h9
          have hM := hM.stp hm (by decide)
          generalize hgn_g17 : upd g1 _ _ = g17 at h9
          have a_h0 := h9
          have e18 : x4 = g17 16 := by rw [← hgn_g17]; exact e_x4
          have e9_g17 : x4 = g17 18 := by rw [← hgn_g17]; simp [upd]
          refine lv_aload_n hx hb dX12_next0_47 rfl (lv_at hl 0 rfl) ?_
          refine lv_aload_n hx hb dX12_next0_48 rfl (lv_at hl 0 rfl) ?_
          refine iv_geti0 X ft_X12 hB a_h0 sh_12 16 (by decide) rfl k_fl_X12_85 dX12_next0_49 e18 ?_
          refine iv_cVi X k_good k_mf_X12_see k_im_X12_see k_sel_X12_see k_ml_X12_161 ft_X12 hB a_h0 sh_12 (As := [.int x4]) (c_X12_see l D tys base G16 h0 g17 r2 a_h0 x4 i_x4) ⟨rfl, rfl⟩ ⟨Nat.le_of_ble_eq_true rfl, Nat.le_of_ble_eq_true rfl⟩ ⟨Nat.le_of_ble_eq_true rfl, Nat.le_of_ble_eq_true rfl⟩ rfl rfl hl.1 (Nat.le_of_ble_eq_true rfl) dX12_next0_52 (fun x19 G9 H locs hq hB => ?_)
          obtain ⟨rfl, i_x19, np20⟩ := hq
          refine lv_istore_n (lv' := [(1, .int x19), (0, .ref h0)]) hx hb dX12_next0_55 rfl hl (by decide) rfl (fun ls hl => ?_)
          refine lv_iload_n hx hb dX12_next0_56 rfl (lv_at hl 0 rfl) ?_
          refine lv_iconst (v := (-1)) hx hb dX12_next0_57 (by decide) ?_
          refine lv_icmp_ne (tgt := 69) hx hb dX12_next0_58 (by decide) (fun c21 => ?_) (fun c21 => ?_)
          · skip
            have i21_x19 : iv_R 0 255 x19 := iv_ne_lo c21 i_x19 q_n1 (by decide)
            have i22_x4 : iv_R 0 399 x4 := (i_x4.cutHi (n := 399) (np20 (Int.le_trans (by decide) i21_x19.1)).2)
            refine lv_iload_n hx hb dX12_next0_69 rfl (lv_at hl 0 rfl) ?_
            refine iv_cSi X k_good k_mf_X12_isLetter k_st_X12_isLetter k_ml_X12_168 hB (As := [.int x19]) (c_X12_isLetter l D tys base G16 x19 (i21_x19.wk (by decide))) ⟨rfl, rfl⟩ ⟨Nat.le_of_ble_eq_true rfl, Nat.le_of_ble_eq_true rfl⟩ ⟨Nat.le_of_ble_eq_true rfl, Nat.le_of_ble_eq_true rfl⟩ rfl rfl hl.1 (Nat.le_of_ble_eq_true rfl) dX12_next0_70 (fun x24 G9 H locs hq hB => ?_)
            obtain ⟨rfl, i_x24, hp25⟩ := hq
            refine lv_if_eq (tgt := 114) hx hb dX12_next0_73 (by decide) (fun c26 => ?_) (fun c26 => ?_)
            · skip
              have i26_x24 : iv_R 0 0 x24 := (i_x24.cutHi (n := 0) (iv_eq_r c26 q_0).2)
              refine lv_iload_n hx hb dX12_next0_114 rfl (lv_at hl 0 rfl) ?_
              refine iv_cSi X k_good k_mf_X12_isDigit k_st_X12_isDigit k_ml_X12_174 hB (As := [.int x19]) (c_X12_isDigit l D tys base G16 x19 (i21_x19.wk (by decide))) ⟨rfl, rfl⟩ ⟨Nat.le_of_ble_eq_true rfl, Nat.le_of_ble_eq_true rfl⟩ ⟨Nat.le_of_ble_eq_true rfl, Nat.le_of_ble_eq_true rfl⟩ rfl rfl hl.1 (Nat.le_of_ble_eq_true rfl) dX12_next0_115 (fun x28 G9 H locs hq hB => ?_)
              obtain ⟨rfl, i_x28, hp29⟩ := hq
              refine lv_if_eq (tgt := 214) hx hb dX12_next0_118 (by decide) (fun c30 => ?_) (fun c30 => ?_)
              · skip
                have i30_x28 : iv_R 0 0 x28 := (i_x28.cutHi (n := 0) (iv_eq_r c30 q_0).2)
                refine lv_aload_n hx hb dX12_next0_214 rfl (lv_at hl 1 rfl) ?_
                refine lv_dup hx hb dX12_next0_215 rfl ?_
                refine iv_geti0 X ft_X12 hB a_h0 sh_12 16 (by decide) rfl k_fl_X12_85 dX12_next0_216 e18 ?_
                refine lv_iconst (v := 1) hx hb dX12_next0_219 (by decide) ?_
                refine iv_iadd hx hb i22_x4 q_1 (lo := 1) (hi := 400) (by decide) dX12_next0_220 (fun x32 e_x32 i_x32 => ?_)
                refine iv_puti X ft_X12 hB a_h0 sh_12 16 (by decide) rfl rfl k_fl_X12_85 rfl (i_x32.wk (by decide)) rfl rfl dX12_next0_221 (fun H locs hB => ?_)
                have hm := iv_Md.put (x := x32) a_h0 (j := 16) (by decide) (by decide)
                have h9 := iv_up_eq (G := G16) (a := h0) (k := (12, upd g17 16 x32, r2))
                generalize iv_up G16 h0 _ = G33 at hB hm h9
                have hM := hM.stp hm (by decide)
                generalize hgn_g34 : upd g17 _ _ = g34 at h9
                have a_h0 := h9
                have e35 : x4 = g34 18 := by rw [← hgn_g34]; exact e9_g17
                have e9_g34 : x32 = g34 16 := by rw [← hgn_g34]; simp [upd]
                refine lv_iload_n hx hb dX12_next0_224 rfl (lv_at hl 0 rfl) ?_
                refine lv_bipush (v := 59) hx hb dX12_next0_225 (by decide) ?_
                refine lv_icmp_eq (tgt := 284) hx hb dX12_next0_227 (by decide) (fun c36 => ?_) (fun c36 => ?_)
                · skip
                  have i36_x19 : iv_R 59 59 x19 := ((i21_x19.cutLo (n := 59) (iv_eq_r c36 q_59).1).cutHi (n := 59) (iv_eq_r c36 q_59).2)
                  refine lv_iconst (v := 1) hx hb dX12_next0_284 (by decide) ?_
                  refine lv_goto (tgt := 289) hx hb dX12_next0_285 (by decide) ?_
                  refine lv_istore_n (lv' := [(2, .int 1), (1, .int x19), (0, .ref h0)]) hx hb dX12_next0_289 rfl hl (by decide) rfl (fun ls hl => ?_)
                  refine lv_aload_n hx hb dX12_next0_290 rfl (lv_at hl 2 rfl) ?_
                  refine lv_iload_n hx hb dX12_next0_291 rfl (lv_at hl 0 rfl) ?_
                  refine lv_if_eq (tgt := 302) hx hb dX12_next0_292 (by decide) (fun c38 => ?_) (fun c38 => ?_)
                  · skip
                    exact (q_1.cutHi (n := 0) (iv_eq_r c38 q_0).2).no (by decide)
                  · skip
                    refine lv_bipush (v := 100) hx hb dX12_next0_295 (by decide) ?_
                    refine lv_iload_n hx hb dX12_next0_297 rfl (lv_at hl 1 rfl) ?_
                    refine iv_iadd hx hb q_100 i36_x19 (lo := 159) (hi := 159) (by decide) dX12_next0_298 (fun x39 e_x39 i_x39 => ?_)
                    refine lv_goto (tgt := 303) hx hb dX12_next0_299 (by decide) ?_
                    refine iv_puti X ft_X12 hB a_h0 sh_12 17 (by decide) rfl rfl k_fl_X12_165 rfl (i_x39.wk (by decide)) rfl rfl dX12_next0_303 (fun H locs hB => ?_)
                    have hm := iv_Md.put (x := x39) a_h0 (j := 17) (by decide) (by decide)
                    have h9 := iv_up_eq (G := G33) (a := h0) (k := (12, upd g34 17 x39, r2))
                    generalize iv_up G33 h0 _ = G40 at hB hm h9
                    have hM := hM.stp hm (by decide)
                    generalize hgn_g41 : upd g34 _ _ = g41 at h9
                    have a_h0 := h9
                    have e42 : x4 = g41 18 := by rw [← hgn_g41]; exact e35
                    have e43 : x32 = g41 16 := by rw [← hgn_g41]; exact e9_g34
                    have e9_g41 : x39 = g41 17 := by rw [← hgn_g41]; simp [upd]
                    exact iv_vret X hr hlocks hB hM dX12_next0_306
                · skip
                  refine lv_iload_n hx hb dX12_next0_230 rfl (lv_at hl 0 rfl) ?_
                  refine lv_bipush (v := 43) hx hb dX12_next0_231 (by decide) ?_
                  refine lv_icmp_eq (tgt := 284) hx hb dX12_next0_233 (by decide) (fun c44 => ?_) (fun c44 => ?_)
                  · skip
                    have i44_x19 : iv_R 43 43 x19 := ((i21_x19.cutLo (n := 43) (iv_eq_r c44 q_43).1).cutHi (n := 43) (iv_eq_r c44 q_43).2)
                    refine lv_iconst (v := 1) hx hb dX12_next0_284 (by decide) ?_
                    refine lv_goto (tgt := 289) hx hb dX12_next0_285 (by decide) ?_
                    refine lv_istore_n (lv' := [(2, .int 1), (1, .int x19), (0, .ref h0)]) hx hb dX12_next0_289 rfl hl (by decide) rfl (fun ls hl => ?_)
                    refine lv_aload_n hx hb dX12_next0_290 rfl (lv_at hl 2 rfl) ?_
                    refine lv_iload_n hx hb dX12_next0_291 rfl (lv_at hl 0 rfl) ?_
                    refine lv_if_eq (tgt := 302) hx hb dX12_next0_292 (by decide) (fun c46 => ?_) (fun c46 => ?_)
                    · skip
                      exact (q_1.cutHi (n := 0) (iv_eq_r c46 q_0).2).no (by decide)
                    · skip
                      refine lv_bipush (v := 100) hx hb dX12_next0_295 (by decide) ?_
                      refine lv_iload_n hx hb dX12_next0_297 rfl (lv_at hl 1 rfl) ?_
                      refine iv_iadd hx hb q_100 i44_x19 (lo := 143) (hi := 143) (by decide) dX12_next0_298 (fun x47 e_x47 i_x47 => ?_)
                      refine lv_goto (tgt := 303) hx hb dX12_next0_299 (by decide) ?_
                      refine iv_puti X ft_X12 hB a_h0 sh_12 17 (by decide) rfl rfl k_fl_X12_165 rfl (i_x47.wk (by decide)) rfl rfl dX12_next0_303 (fun H locs hB => ?_)
                      have hm := iv_Md.put (x := x47) a_h0 (j := 17) (by decide) (by decide)
                      have h9 := iv_up_eq (G := G33) (a := h0) (k := (12, upd g34 17 x47, r2))
                      generalize iv_up G33 h0 _ = G48 at hB hm h9
                      have hM := hM.stp hm (by decide)
                      generalize hgn_g49 : upd g34 _ _ = g49 at h9
                      have a_h0 := h9
                      have e50 : x4 = g49 18 := by rw [← hgn_g49]; exact e35
                      have e51 : x32 = g49 16 := by rw [← hgn_g49]; exact e9_g34
                      have e9_g49 : x47 = g49 17 := by rw [← hgn_g49]; simp [upd]
                      exact iv_vret X hr hlocks hB hM dX12_next0_306
                  · skip
                    refine lv_iload_n hx hb dX12_next0_236 rfl (lv_at hl 0 rfl) ?_
                    refine lv_bipush (v := 45) hx hb dX12_next0_237 (by decide) ?_
                    refine lv_icmp_eq (tgt := 284) hx hb dX12_next0_239 (by decide) (fun c52 => ?_) (fun c52 => ?_)
                    · skip
                      have i52_x19 : iv_R 45 45 x19 := ((i21_x19.cutLo (n := 45) (iv_eq_r c52 q_45).1).cutHi (n := 45) (iv_eq_r c52 q_45).2)
                      refine lv_iconst (v := 1) hx hb dX12_next0_284 (by decide) ?_
                      refine lv_goto (tgt := 289) hx hb dX12_next0_285 (by decide) ?_
                      refine lv_istore_n (lv' := [(2, .int 1), (1, .int x19), (0, .ref h0)]) hx hb dX12_next0_289 rfl hl (by decide) rfl (fun ls hl => ?_)
                      refine lv_aload_n hx hb dX12_next0_290 rfl (lv_at hl 2 rfl) ?_
                      refine lv_iload_n hx hb dX12_next0_291 rfl (lv_at hl 0 rfl) ?_
                      refine lv_if_eq (tgt := 302) hx hb dX12_next0_292 (by decide) (fun c54 => ?_) (fun c54 => ?_)
                      · skip
                        exact (q_1.cutHi (n := 0) (iv_eq_r c54 q_0).2).no (by decide)
                      · skip
                        refine lv_bipush (v := 100) hx hb dX12_next0_295 (by decide) ?_
                        refine lv_iload_n hx hb dX12_next0_297 rfl (lv_at hl 1 rfl) ?_
                        refine iv_iadd hx hb q_100 i52_x19 (lo := 145) (hi := 145) (by decide) dX12_next0_298 (fun x55 e_x55 i_x55 => ?_)
                        refine lv_goto (tgt := 303) hx hb dX12_next0_299 (by decide) ?_
                        refine iv_puti X ft_X12 hB a_h0 sh_12 17 (by decide) rfl rfl k_fl_X12_165 rfl (i_x55.wk (by decide)) rfl rfl dX12_next0_303 (fun H locs hB => ?_)
                        have hm := iv_Md.put (x := x55) a_h0 (j := 17) (by decide) (by decide)
                        have h9 := iv_up_eq (G := G33) (a := h0) (k := (12, upd g34 17 x55, r2))
                        generalize iv_up G33 h0 _ = G56 at hB hm h9
                        have hM := hM.stp hm (by decide)
                        generalize hgn_g57 : upd g34 _ _ = g57 at h9
                        have a_h0 := h9
                        have e58 : x4 = g57 18 := by rw [← hgn_g57]; exact e35
                        have e59 : x32 = g57 16 := by rw [← hgn_g57]; exact e9_g34
                        have e9_g57 : x55 = g57 17 := by rw [← hgn_g57]; simp [upd]
                        exact iv_vret X hr hlocks hB hM dX12_next0_306
                    · skip
                      refine lv_iload_n hx hb dX12_next0_242 rfl (lv_at hl 0 rfl) ?_
                      refine lv_bipush (v := 42) hx hb dX12_next0_243 (by decide) ?_
                      refine lv_icmp_eq (tgt := 284) hx hb dX12_next0_245 (by decide) (fun c60 => ?_) (fun c60 => ?_)
                      · skip
                        have i60_x19 : iv_R 42 42 x19 := ((i21_x19.cutLo (n := 42) (iv_eq_r c60 q_42).1).cutHi (n := 42) (iv_eq_r c60 q_42).2)
                        refine lv_iconst (v := 1) hx hb dX12_next0_284 (by decide) ?_
                        refine lv_goto (tgt := 289) hx hb dX12_next0_285 (by decide) ?_
                        refine lv_istore_n (lv' := [(2, .int 1), (1, .int x19), (0, .ref h0)]) hx hb dX12_next0_289 rfl hl (by decide) rfl (fun ls hl => ?_)
                        refine lv_aload_n hx hb dX12_next0_290 rfl (lv_at hl 2 rfl) ?_
                        refine lv_iload_n hx hb dX12_next0_291 rfl (lv_at hl 0 rfl) ?_
                        refine lv_if_eq (tgt := 302) hx hb dX12_next0_292 (by decide) (fun c62 => ?_) (fun c62 => ?_)
                        · skip
                          exact (q_1.cutHi (n := 0) (iv_eq_r c62 q_0).2).no (by decide)
                        · skip
                          refine lv_bipush (v := 100) hx hb dX12_next0_295 (by decide) ?_
                          refine lv_iload_n hx hb dX12_next0_297 rfl (lv_at hl 1 rfl) ?_
                          refine iv_iadd hx hb q_100 i60_x19 (lo := 142) (hi := 142) (by decide) dX12_next0_298 (fun x63 e_x63 i_x63 => ?_)
                          refine lv_goto (tgt := 303) hx hb dX12_next0_299 (by decide) ?_
                          refine iv_puti X ft_X12 hB a_h0 sh_12 17 (by decide) rfl rfl k_fl_X12_165 rfl (i_x63.wk (by decide)) rfl rfl dX12_next0_303 (fun H locs hB => ?_)
                          have hm := iv_Md.put (x := x63) a_h0 (j := 17) (by decide) (by decide)
                          have h9 := iv_up_eq (G := G33) (a := h0) (k := (12, upd g34 17 x63, r2))
                          generalize iv_up G33 h0 _ = G64 at hB hm h9
                          have hM := hM.stp hm (by decide)
                          generalize hgn_g65 : upd g34 _ _ = g65 at h9
                          have a_h0 := h9
                          have e66 : x4 = g65 18 := by rw [← hgn_g65]; exact e35
                          have e67 : x32 = g65 16 := by rw [← hgn_g65]; exact e9_g34
                          have e9_g65 : x63 = g65 17 := by rw [← hgn_g65]; simp [upd]
                          exact iv_vret X hr hlocks hB hM dX12_next0_306
                      · skip
                        refine lv_iload_n hx hb dX12_next0_248 rfl (lv_at hl 0 rfl) ?_
                        refine lv_bipush (v := 47) hx hb dX12_next0_249 (by decide) ?_
                        refine lv_icmp_eq (tgt := 284) hx hb dX12_next0_251 (by decide) (fun c68 => ?_) (fun c68 => ?_)
                        · skip
                          have i68_x19 : iv_R 47 47 x19 := ((i21_x19.cutLo (n := 47) (iv_eq_r c68 q_47).1).cutHi (n := 47) (iv_eq_r c68 q_47).2)
                          refine lv_iconst (v := 1) hx hb dX12_next0_284 (by decide) ?_
                          refine lv_goto (tgt := 289) hx hb dX12_next0_285 (by decide) ?_
                          refine lv_istore_n (lv' := [(2, .int 1), (1, .int x19), (0, .ref h0)]) hx hb dX12_next0_289 rfl hl (by decide) rfl (fun ls hl => ?_)
                          refine lv_aload_n hx hb dX12_next0_290 rfl (lv_at hl 2 rfl) ?_
                          refine lv_iload_n hx hb dX12_next0_291 rfl (lv_at hl 0 rfl) ?_
                          refine lv_if_eq (tgt := 302) hx hb dX12_next0_292 (by decide) (fun c70 => ?_) (fun c70 => ?_)
                          · skip
                            exact (q_1.cutHi (n := 0) (iv_eq_r c70 q_0).2).no (by decide)
                          · skip
                            refine lv_bipush (v := 100) hx hb dX12_next0_295 (by decide) ?_
                            refine lv_iload_n hx hb dX12_next0_297 rfl (lv_at hl 1 rfl) ?_
                            refine iv_iadd hx hb q_100 i68_x19 (lo := 147) (hi := 147) (by decide) dX12_next0_298 (fun x71 e_x71 i_x71 => ?_)
                            refine lv_goto (tgt := 303) hx hb dX12_next0_299 (by decide) ?_
                            refine iv_puti X ft_X12 hB a_h0 sh_12 17 (by decide) rfl rfl k_fl_X12_165 rfl (i_x71.wk (by decide)) rfl rfl dX12_next0_303 (fun H locs hB => ?_)
                            have hm := iv_Md.put (x := x71) a_h0 (j := 17) (by decide) (by decide)
                            have h9 := iv_up_eq (G := G33) (a := h0) (k := (12, upd g34 17 x71, r2))
                            generalize iv_up G33 h0 _ = G72 at hB hm h9
                            have hM := hM.stp hm (by decide)
                            generalize hgn_g73 : upd g34 _ _ = g73 at h9
                            have a_h0 := h9
                            have e74 : x4 = g73 18 := by rw [← hgn_g73]; exact e35
                            have e75 : x32 = g73 16 := by rw [← hgn_g73]; exact e9_g34
                            have e9_g73 : x71 = g73 17 := by rw [← hgn_g73]; simp [upd]
                            exact iv_vret X hr hlocks hB hM dX12_next0_306
                        · skip
                          refine lv_iload_n hx hb dX12_next0_254 rfl (lv_at hl 0 rfl) ?_
                          refine lv_bipush (v := 40) hx hb dX12_next0_255 (by decide) ?_
                          refine lv_icmp_eq (tgt := 284) hx hb dX12_next0_257 (by decide) (fun c76 => ?_) (fun c76 => ?_)
                          · skip
                            have i76_x19 : iv_R 40 40 x19 := ((i21_x19.cutLo (n := 40) (iv_eq_r c76 q_40).1).cutHi (n := 40) (iv_eq_r c76 q_40).2)
                            refine lv_iconst (v := 1) hx hb dX12_next0_284 (by decide) ?_
                            refine lv_goto (tgt := 289) hx hb dX12_next0_285 (by decide) ?_
                            refine lv_istore_n (lv' := [(2, .int 1), (1, .int x19), (0, .ref h0)]) hx hb dX12_next0_289 rfl hl (by decide) rfl (fun ls hl => ?_)
                            refine lv_aload_n hx hb dX12_next0_290 rfl (lv_at hl 2 rfl) ?_
                            refine lv_iload_n hx hb dX12_next0_291 rfl (lv_at hl 0 rfl) ?_
                            refine lv_if_eq (tgt := 302) hx hb dX12_next0_292 (by decide) (fun c78 => ?_) (fun c78 => ?_)
                            · skip
                              exact (q_1.cutHi (n := 0) (iv_eq_r c78 q_0).2).no (by decide)
                            · skip
                              refine lv_bipush (v := 100) hx hb dX12_next0_295 (by decide) ?_
                              refine lv_iload_n hx hb dX12_next0_297 rfl (lv_at hl 1 rfl) ?_
                              refine iv_iadd hx hb q_100 i76_x19 (lo := 140) (hi := 140) (by decide) dX12_next0_298 (fun x79 e_x79 i_x79 => ?_)
                              refine lv_goto (tgt := 303) hx hb dX12_next0_299 (by decide) ?_
                              refine iv_puti X ft_X12 hB a_h0 sh_12 17 (by decide) rfl rfl k_fl_X12_165 rfl (i_x79.wk (by decide)) rfl rfl dX12_next0_303 (fun H locs hB => ?_)
                              have hm := iv_Md.put (x := x79) a_h0 (j := 17) (by decide) (by decide)
                              have h9 := iv_up_eq (G := G33) (a := h0) (k := (12, upd g34 17 x79, r2))
                              generalize iv_up G33 h0 _ = G80 at hB hm h9
                              have hM := hM.stp hm (by decide)
                              generalize hgn_g81 : upd g34 _ _ = g81 at h9
                              have a_h0 := h9
                              have e82 : x4 = g81 18 := by rw [← hgn_g81]; exact e35
                              have e83 : x32 = g81 16 := by rw [← hgn_g81]; exact e9_g34
                              have e9_g81 : x79 = g81 17 := by rw [← hgn_g81]; simp [upd]
                              exact iv_vret X hr hlocks hB hM dX12_next0_306
                          · skip
                            refine lv_iload_n hx hb dX12_next0_260 rfl (lv_at hl 0 rfl) ?_
                            refine lv_bipush (v := 41) hx hb dX12_next0_261 (by decide) ?_
                            refine lv_icmp_eq (tgt := 284) hx hb dX12_next0_263 (by decide) (fun c84 => ?_) (fun c84 => ?_)
                            · skip
                              have i84_x19 : iv_R 41 41 x19 := ((i21_x19.cutLo (n := 41) (iv_eq_r c84 q_41).1).cutHi (n := 41) (iv_eq_r c84 q_41).2)
                              refine lv_iconst (v := 1) hx hb dX12_next0_284 (by decide) ?_
                              refine lv_goto (tgt := 289) hx hb dX12_next0_285 (by decide) ?_
                              refine lv_istore_n (lv' := [(2, .int 1), (1, .int x19), (0, .ref h0)]) hx hb dX12_next0_289 rfl hl (by decide) rfl (fun ls hl => ?_)
                              refine lv_aload_n hx hb dX12_next0_290 rfl (lv_at hl 2 rfl) ?_
                              refine lv_iload_n hx hb dX12_next0_291 rfl (lv_at hl 0 rfl) ?_
                              refine lv_if_eq (tgt := 302) hx hb dX12_next0_292 (by decide) (fun c86 => ?_) (fun c86 => ?_)
                              · skip
                                exact (q_1.cutHi (n := 0) (iv_eq_r c86 q_0).2).no (by decide)
                              · skip
                                refine lv_bipush (v := 100) hx hb dX12_next0_295 (by decide) ?_
                                refine lv_iload_n hx hb dX12_next0_297 rfl (lv_at hl 1 rfl) ?_
                                refine iv_iadd hx hb q_100 i84_x19 (lo := 141) (hi := 141) (by decide) dX12_next0_298 (fun x87 e_x87 i_x87 => ?_)
                                refine lv_goto (tgt := 303) hx hb dX12_next0_299 (by decide) ?_
                                refine iv_puti X ft_X12 hB a_h0 sh_12 17 (by decide) rfl rfl k_fl_X12_165 rfl (i_x87.wk (by decide)) rfl rfl dX12_next0_303 (fun H locs hB => ?_)
                                have hm := iv_Md.put (x := x87) a_h0 (j := 17) (by decide) (by decide)
                                have h9 := iv_up_eq (G := G33) (a := h0) (k := (12, upd g34 17 x87, r2))
                                generalize iv_up G33 h0 _ = G88 at hB hm h9
                                have hM := hM.stp hm (by decide)
                                generalize hgn_g89 : upd g34 _ _ = g89 at h9
                                have a_h0 := h9
                                have e90 : x4 = g89 18 := by rw [← hgn_g89]; exact e35
                                have e91 : x32 = g89 16 := by rw [← hgn_g89]; exact e9_g34
                                have e9_g89 : x87 = g89 17 := by rw [← hgn_g89]; simp [upd]
                                exact iv_vret X hr hlocks hB hM dX12_next0_306
                            · skip
                              refine lv_iload_n hx hb dX12_next0_266 rfl (lv_at hl 0 rfl) ?_
                              refine lv_bipush (v := 60) hx hb dX12_next0_267 (by decide) ?_
                              refine lv_icmp_eq (tgt := 284) hx hb dX12_next0_269 (by decide) (fun c92 => ?_) (fun c92 => ?_)
                              · skip
                                have i92_x19 : iv_R 60 60 x19 := ((i21_x19.cutLo (n := 60) (iv_eq_r c92 q_60).1).cutHi (n := 60) (iv_eq_r c92 q_60).2)
                                refine lv_iconst (v := 1) hx hb dX12_next0_284 (by decide) ?_
                                refine lv_goto (tgt := 289) hx hb dX12_next0_285 (by decide) ?_
                                refine lv_istore_n (lv' := [(2, .int 1), (1, .int x19), (0, .ref h0)]) hx hb dX12_next0_289 rfl hl (by decide) rfl (fun ls hl => ?_)
                                refine lv_aload_n hx hb dX12_next0_290 rfl (lv_at hl 2 rfl) ?_
                                refine lv_iload_n hx hb dX12_next0_291 rfl (lv_at hl 0 rfl) ?_
                                refine lv_if_eq (tgt := 302) hx hb dX12_next0_292 (by decide) (fun c94 => ?_) (fun c94 => ?_)
                                · skip
                                  exact (q_1.cutHi (n := 0) (iv_eq_r c94 q_0).2).no (by decide)
                                · skip
                                  refine lv_bipush (v := 100) hx hb dX12_next0_295 (by decide) ?_
                                  refine lv_iload_n hx hb dX12_next0_297 rfl (lv_at hl 1 rfl) ?_
                                  refine iv_iadd hx hb q_100 i92_x19 (lo := 160) (hi := 160) (by decide) dX12_next0_298 (fun x95 e_x95 i_x95 => ?_)
                                  refine lv_goto (tgt := 303) hx hb dX12_next0_299 (by decide) ?_
                                  refine iv_puti X ft_X12 hB a_h0 sh_12 17 (by decide) rfl rfl k_fl_X12_165 rfl (i_x95.wk (by decide)) rfl rfl dX12_next0_303 (fun H locs hB => ?_)
                                  have hm := iv_Md.put (x := x95) a_h0 (j := 17) (by decide) (by decide)
                                  have h9 := iv_up_eq (G := G33) (a := h0) (k := (12, upd g34 17 x95, r2))
                                  generalize iv_up G33 h0 _ = G96 at hB hm h9
                                  have hM := hM.stp hm (by decide)
                                  generalize hgn_g97 : upd g34 _ _ = g97 at h9
                                  have a_h0 := h9
                                  have e98 : x4 = g97 18 := by rw [← hgn_g97]; exact e35
                                  have e99 : x32 = g97 16 := by rw [← hgn_g97]; exact e9_g34
                                  have e9_g97 : x95 = g97 17 := by rw [← hgn_g97]; simp [upd]
                                  exact iv_vret X hr hlocks hB hM dX12_next0_306
                              · skip
                                refine lv_iload_n hx hb dX12_next0_272 rfl (lv_at hl 0 rfl) ?_
                                refine lv_bipush (v := 61) hx hb dX12_next0_273 (by decide) ?_
                                refine lv_icmp_eq (tgt := 284) hx hb dX12_next0_275 (by decide) (fun c100 => ?_) (fun c100 => ?_)
                                · skip
                                  have i100_x19 : iv_R 61 61 x19 := ((i21_x19.cutLo (n := 61) (iv_eq_r c100 q_61).1).cutHi (n := 61) (iv_eq_r c100 q_61).2)
                                  refine lv_iconst (v := 1) hx hb dX12_next0_284 (by decide) ?_
                                  refine lv_goto (tgt := 289) hx hb dX12_next0_285 (by decide) ?_
                                  refine lv_istore_n (lv' := [(2, .int 1), (1, .int x19), (0, .ref h0)]) hx hb dX12_next0_289 rfl hl (by decide) rfl (fun ls hl => ?_)
                                  refine lv_aload_n hx hb dX12_next0_290 rfl (lv_at hl 2 rfl) ?_
                                  refine lv_iload_n hx hb dX12_next0_291 rfl (lv_at hl 0 rfl) ?_
                                  refine lv_if_eq (tgt := 302) hx hb dX12_next0_292 (by decide) (fun c102 => ?_) (fun c102 => ?_)
                                  · skip
                                    exact (q_1.cutHi (n := 0) (iv_eq_r c102 q_0).2).no (by decide)
                                  · skip
                                    refine lv_bipush (v := 100) hx hb dX12_next0_295 (by decide) ?_
                                    refine lv_iload_n hx hb dX12_next0_297 rfl (lv_at hl 1 rfl) ?_
                                    refine iv_iadd hx hb q_100 i100_x19 (lo := 161) (hi := 161) (by decide) dX12_next0_298 (fun x103 e_x103 i_x103 => ?_)
                                    refine lv_goto (tgt := 303) hx hb dX12_next0_299 (by decide) ?_
                                    refine iv_puti X ft_X12 hB a_h0 sh_12 17 (by decide) rfl rfl k_fl_X12_165 rfl (i_x103.wk (by decide)) rfl rfl dX12_next0_303 (fun H locs hB => ?_)
                                    have hm := iv_Md.put (x := x103) a_h0 (j := 17) (by decide) (by decide)
                                    have h9 := iv_up_eq (G := G33) (a := h0) (k := (12, upd g34 17 x103, r2))
                                    generalize iv_up G33 h0 _ = G104 at hB hm h9
                                    have hM := hM.stp hm (by decide)
                                    generalize hgn_g105 : upd g34 _ _ = g105 at h9
                                    have a_h0 := h9
                                    have e106 : x4 = g105 18 := by rw [← hgn_g105]; exact e35
                                    have e107 : x32 = g105 16 := by rw [← hgn_g105]; exact e9_g34
                                    have e9_g105 : x103 = g105 17 := by rw [← hgn_g105]; simp [upd]
                                    exact iv_vret X hr hlocks hB hM dX12_next0_306
                                · skip
                                  refine lv_iload_n hx hb dX12_next0_278 rfl (lv_at hl 0 rfl) ?_
                                  refine lv_bipush (v := 62) hx hb dX12_next0_279 (by decide) ?_
                                  refine lv_icmp_ne (tgt := 288) hx hb dX12_next0_281 (by decide) (fun c108 => ?_) (fun c108 => ?_)
                                  · skip
                                    refine lv_iconst (v := 0) hx hb dX12_next0_288 (by decide) ?_
                                    refine lv_istore_n (lv' := [(2, .int 0), (1, .int x19), (0, .ref h0)]) hx hb dX12_next0_289 rfl hl (by decide) rfl (fun ls hl => ?_)
                                    refine lv_aload_n hx hb dX12_next0_290 rfl (lv_at hl 2 rfl) ?_
                                    refine lv_iload_n hx hb dX12_next0_291 rfl (lv_at hl 0 rfl) ?_
                                    refine lv_if_eq (tgt := 302) hx hb dX12_next0_292 (by decide) (fun c109 => ?_) (fun c109 => ?_)
                                    · skip
                                      refine lv_iconst (v := 1) hx hb dX12_next0_302 (by decide) ?_
                                      refine iv_puti X ft_X12 hB a_h0 sh_12 17 (by decide) rfl rfl k_fl_X12_165 rfl (q_1.wk (by decide)) rfl rfl dX12_next0_303 (fun H locs hB => ?_)
                                      have hm := iv_Md.put (x := 1) a_h0 (j := 17) (by decide) (by decide)
                                      have h9 := iv_up_eq (G := G33) (a := h0) (k := (12, upd g34 17 1, r2))
                                      generalize iv_up G33 h0 _ = G110 at hB hm h9
                                      have hM := hM.stp hm (by decide)
                                      generalize hgn_g111 : upd g34 _ _ = g111 at h9
                                      have a_h0 := h9
                                      have e112 : x4 = g111 18 := by rw [← hgn_g111]; exact e35
                                      have e113 : x32 = g111 16 := by rw [← hgn_g111]; exact e9_g34
                                      have e9_g111 : 1 = g111 17 := by rw [← hgn_g111]; simp [upd]
                                      exact iv_vret X hr hlocks hB hM dX12_next0_306
                                    · skip
                                      exact absurd rfl c109
                                  · skip
                                    have i113_x19 : iv_R 62 62 x19 := ((i21_x19.cutLo (n := 62) (iv_eq_r c108 q_62).1).cutHi (n := 62) (iv_eq_r c108 q_62).2)
                                    refine lv_iconst (v := 1) hx hb dX12_next0_284 (by decide) ?_
                                    refine lv_goto (tgt := 289) hx hb dX12_next0_285 (by decide) ?_
                                    refine lv_istore_n (lv' := [(2, .int 1), (1, .int x19), (0, .ref h0)]) hx hb dX12_next0_289 rfl hl (by decide) rfl (fun ls hl => ?_)
                                    refine lv_aload_n hx hb dX12_next0_290 rfl (lv_at hl 2 rfl) ?_
                                    refine lv_iload_n hx hb dX12_next0_291 rfl (lv_at hl 0 rfl) ?_
                                    refine lv_if_eq (tgt := 302) hx hb dX12_next0_292 (by decide) (fun c115 => ?_) (fun c115 => ?_)
                                    · skip
                                      exact (q_1.cutHi (n := 0) (iv_eq_r c115 q_0).2).no (by decide)
                                    · skip
                                      refine lv_bipush (v := 100) hx hb dX12_next0_295 (by decide) ?_
                                      refine lv_iload_n hx hb dX12_next0_297 rfl (lv_at hl 1 rfl) ?_
                                      refine iv_iadd hx hb q_100 i113_x19 (lo := 162) (hi := 162) (by decide) dX12_next0_298 (fun x116 e_x116 i_x116 => ?_)
                                      refine lv_goto (tgt := 303) hx hb dX12_next0_299 (by decide) ?_
                                      refine iv_puti X ft_X12 hB a_h0 sh_12 17 (by decide) rfl rfl k_fl_X12_165 rfl (i_x116.wk (by decide)) rfl rfl dX12_next0_303 (fun H locs hB => ?_)
                                      have hm := iv_Md.put (x := x116) a_h0 (j := 17) (by decide) (by decide)
                                      have h9 := iv_up_eq (G := G33) (a := h0) (k := (12, upd g34 17 x116, r2))
                                      generalize iv_up G33 h0 _ = G117 at hB hm h9
                                      have hM := hM.stp hm (by decide)
                                      generalize hgn_g118 : upd g34 _ _ = g118 at h9
                                      have a_h0 := h9
                                      have e119 : x4 = g118 18 := by rw [← hgn_g118]; exact e35
                                      have e120 : x32 = g118 16 := by rw [← hgn_g118]; exact e9_g34
                                      have e9_g118 : x116 = g118 17 := by rw [← hgn_g118]; simp [upd]
                                      exact iv_vret X hr hlocks hB hM dX12_next0_306
              · skip
                have i120_x28 : iv_R 1 1 x28 := iv_ne_lo c30 i_x28 q_0 (by decide)
                have i121_x19 : iv_R 48 57 x19 := ((i21_x19.cutLo (n := 48) (hp29 c30).1).cutHi (n := 57) (hp29 c30).2)
                refine lv_aload_n hx hb dX12_next0_121 rfl (lv_at hl 1 rfl) ?_
                refine lv_iconst (v := 0) hx hb dX12_next0_122 (by decide) ?_
                refine iv_puti X ft_X12 hB a_h0 sh_12 19 (by decide) rfl rfl k_fl_X12_177 rfl (q_0.wk (by decide)) rfl rfl dX12_next0_123 (fun H locs hB => ?_)
                have hm := iv_Md.put (x := 0) a_h0 (j := 19) (by decide) (by decide)
                have h9 := iv_up_eq (G := G16) (a := h0) (k := (12, upd g17 19 0, r2))
                generalize iv_up G16 h0 _ = G123 at hB hm h9
                have hM := hM.stp hm (by decide)
                generalize hgn_g124 : upd g17 _ _ = g124 at h9
                have a_h0 := h9
                have e125 : x4 = g124 16 := by rw [← hgn_g124]; exact e18
                have e126 : x4 = g124 18 := by rw [← hgn_g124]; exact e9_g17
                have e9_g124 : 0 = g124 19 := by rw [← hgn_g124]; simp [upd]
                have L_126 : ∀ (n_126 : Nat) (G129 : iv_G) (hM : iv_Md [12] G G129) (H : Heap) (locs : List Loc) (hB : iv_B iv_sh D classes tys base G129 s.heap H locs) (g127 : Nat → Int32) (r128 : Nat → Nat) (a_h0 : G129 h0 = some (12, g127, r128)) (hn_126 : (401 - (g127 16).toInt).toNat < n_126) (ls : Array Slot) (hl : lv_has ls 3 [(0, .ref h0)]), W p l e ({ frames := 8, cells := 0, slots := 0, locals := 168 } : Room) s m args below meth c H locs 0 0 (MQ below (iv_Qv iv_sh D classes tys base (fun G' => iv_Md [12] G G')) args s 0 0 (iv_A base)) (F0 m 126 ls []) := by
                  intro n_126
                  induction n_126 with
                  | zero => intro G129 hM H locs hB g127 r128 a_h0 hn_126 ls hl; exact absurd hn_126 (Nat.not_lt_zero _)
                  | succ n_126 ih_126 =>
                    intro G129 hM H locs hB g127 r128 a_h0 hn_126 ls hl
                    refine lv_aload_n hx hb dX12_next0_126 rfl (lv_at hl 0 rfl) ?_
                    refine lv_aload_n hx hb dX12_next0_127 rfl (lv_at hl 0 rfl) ?_
                    refine iv_geti X ft_X12 hB a_h0 sh_12 16 (by decide) rfl k_fl_X12_85 dX12_next0_128 (fun x130 e_x130 i_x130 => ?_)
                    refine iv_cVi X k_good k_mf_X12_see k_im_X12_see k_sel_X12_see k_ml_X12_161 ft_X12 hB a_h0 sh_12 (As := [.int x130]) (c_X12_see l D tys base G129 h0 g127 r128 a_h0 x130 i_x130) ⟨rfl, rfl⟩ ⟨Nat.le_of_ble_eq_true rfl, Nat.le_of_ble_eq_true rfl⟩ ⟨Nat.le_of_ble_eq_true rfl, Nat.le_of_ble_eq_true rfl⟩ rfl rfl hl.1 (Nat.le_of_ble_eq_true rfl) dX12_next0_131 (fun x131 G9 H locs hq hB => ?_)
                    obtain ⟨rfl, i_x131, np132⟩ := hq
                    refine iv_cSi X k_good k_mf_X12_isDigit k_st_X12_isDigit k_ml_X12_174 hB (As := [.int x131]) (c_X12_isDigit l D tys base G129 x131 i_x131) ⟨rfl, rfl⟩ ⟨Nat.le_of_ble_eq_true rfl, Nat.le_of_ble_eq_true rfl⟩ ⟨Nat.le_of_ble_eq_true rfl, Nat.le_of_ble_eq_true rfl⟩ rfl rfl hl.1 (Nat.le_of_ble_eq_true rfl) dX12_next0_134 (fun x133 G9 H locs hq hB => ?_)
                    obtain ⟨rfl, i_x133, hp134⟩ := hq
                    refine lv_if_eq (tgt := 189) hx hb dX12_next0_137 (by decide) (fun c135 => ?_) (fun c135 => ?_)
                    · skip
                      have i135_x133 : iv_R 0 0 x133 := (i_x133.cutHi (n := 0) (iv_eq_r c135 q_0).2)
                      refine lv_aload_n hx hb dX12_next0_189 rfl (lv_at hl 0 rfl) ?_
                      refine lv_aload_n hx hb dX12_next0_190 rfl (lv_at hl 0 rfl) ?_
                      refine iv_geti0 X ft_X12 hB a_h0 sh_12 16 (by decide) rfl k_fl_X12_85 dX12_next0_191 e_x130 ?_
                      refine lv_aload_n hx hb dX12_next0_194 rfl (lv_at hl 0 rfl) ?_
                      refine iv_geti X ft_X12 hB a_h0 sh_12 18 (by decide) rfl k_fl_X12_88 dX12_next0_195 (fun x137 e_x137 i_x137 => ?_)
                      refine iv_isub hx hb i_x130 i_x137 (lo := (-400)) (hi := 400) (by decide) dX12_next0_198 (fun x138 e_x138 i_x138 => ?_)
                      refine lv_iconst (v := 5) hx hb dX12_next0_199 (by decide) ?_
                      refine lv_icmp_ge (tgt := 207) hx hb dX12_next0_200 (by decide) (fun c139 => ?_) (fun c139 => ?_)
                      · skip
                        have i139_x138 : iv_R 5 400 x138 := (i_x138.cutLo (n := 5) (iv_le_l c139 q_5))
                        refine lv_iconst (v := 1) hx hb dX12_next0_207 (by decide) ?_
                        refine iv_puti X ft_X12 hB a_h0 sh_12 17 (by decide) rfl rfl k_fl_X12_165 rfl (q_1.wk (by decide)) rfl rfl dX12_next0_208 (fun H locs hB => ?_)
                        have hm := iv_Md.put (x := 1) a_h0 (j := 17) (by decide) (by decide)
                        have h9 := iv_up_eq (G := G129) (a := h0) (k := (12, upd g127 17 1, r128))
                        generalize iv_up G129 h0 _ = G141 at hB hm h9
                        have hM := hM.stp hm (by decide)
                        generalize hgn_g142 : upd g127 _ _ = g142 at h9
                        have a_h0 := h9
                        have e143 : x130 = g142 16 := by rw [← hgn_g142]; exact e_x130
                        have e144 : x137 = g142 18 := by rw [← hgn_g142]; exact e_x137
                        have e9_g142 : 1 = g142 17 := by rw [← hgn_g142]; simp [upd]
                        refine lv_goto (tgt := 306) hx hb dX12_next0_211 (by decide) ?_
                        exact iv_vret X hr hlocks hB hM dX12_next0_306
                      · skip
                        have i144_x138 : iv_R (-400) 4 x138 := (i_x138.cutHi (n := 4) (iv_lt_r (iv_nle c139) q_5 (by decide)))
                        refine lv_iconst (v := 2) hx hb dX12_next0_203 (by decide) ?_
                        refine lv_goto (tgt := 208) hx hb dX12_next0_204 (by decide) ?_
                        refine iv_puti X ft_X12 hB a_h0 sh_12 17 (by decide) rfl rfl k_fl_X12_165 rfl (q_2.wk (by decide)) rfl rfl dX12_next0_208 (fun H locs hB => ?_)
                        have hm := iv_Md.put (x := 2) a_h0 (j := 17) (by decide) (by decide)
                        have h9 := iv_up_eq (G := G129) (a := h0) (k := (12, upd g127 17 2, r128))
                        generalize iv_up G129 h0 _ = G146 at hB hm h9
                        have hM := hM.stp hm (by decide)
                        generalize hgn_g147 : upd g127 _ _ = g147 at h9
                        have a_h0 := h9
                        have e148 : x130 = g147 16 := by rw [← hgn_g147]; exact e_x130
                        have e149 : x137 = g147 18 := by rw [← hgn_g147]; exact e_x137
                        have e9_g147 : 2 = g147 17 := by rw [← hgn_g147]; simp [upd]
                        refine lv_goto (tgt := 306) hx hb dX12_next0_211 (by decide) ?_
                        exact iv_vret X hr hlocks hB hM dX12_next0_306
                    · skip
                      have i149_x133 : iv_R 1 1 x133 := iv_ne_lo c135 i_x133 q_0 (by decide)
                      have i150_x131 : iv_R 48 57 x131 := ((i_x131.cutLo (n := 48) (hp134 c135).1).cutHi (n := 57) (hp134 c135).2)
                      have i151_x130 : iv_R 0 399 x130 := (i_x130.cutHi (n := 399) (np132 (Int.le_trans (by decide) i150_x131.1)).2)
                      refine lv_aload_n hx hb dX12_next0_140 rfl (lv_at hl 0 rfl) ?_
                      refine iv_geti0 X ft_X12 hB a_h0 sh_12 16 (by decide) rfl k_fl_X12_85 dX12_next0_141 e_x130 ?_
                      refine lv_aload_n hx hb dX12_next0_144 rfl (lv_at hl 0 rfl) ?_
                      refine iv_geti X ft_X12 hB a_h0 sh_12 18 (by decide) rfl k_fl_X12_88 dX12_next0_145 (fun x153 e_x153 i_x153 => ?_)
                      refine lv_iconst (v := 4) hx hb dX12_next0_148 (by decide) ?_
                      refine iv_iadd hx hb i_x153 q_4 (lo := 4) (hi := 404) (by decide) dX12_next0_149 (fun x154 e_x154 i_x154 => ?_)
                      refine lv_icmp_ge (tgt := 176) hx hb dX12_next0_150 (by decide) (fun c155 => ?_) (fun c155 => ?_)
                      · skip
                        have i155_x154 : iv_R 4 399 x154 := (i_x154.cutHi (n := 399) (iv_le_r c155 i151_x130))
                        have i156_x130 : iv_R 4 399 x130 := (i151_x130.cutLo (n := 4) (iv_le_l c155 i_x154))
                        refine lv_aload_n hx hb dX12_next0_176 rfl (lv_at hl 0 rfl) ?_
                        refine lv_dup hx hb dX12_next0_177 rfl ?_
                        refine iv_geti0 X ft_X12 hB a_h0 sh_12 16 (by decide) rfl k_fl_X12_85 dX12_next0_178 e_x130 ?_
                        refine lv_iconst (v := 1) hx hb dX12_next0_181 (by decide) ?_
                        refine iv_iadd hx hb i156_x130 q_1 (lo := 5) (hi := 400) (by decide) dX12_next0_182 (fun x158 e_x158 i_x158 => ?_)
                        refine iv_puti X ft_X12 hB a_h0 sh_12 16 (by decide) rfl rfl k_fl_X12_85 rfl (i_x158.wk (by decide)) rfl rfl dX12_next0_183 (fun H locs hB => ?_)
                        have hm := iv_Md.put (x := x158) a_h0 (j := 16) (by decide) (by decide)
                        have h9 := iv_up_eq (G := G129) (a := h0) (k := (12, upd g127 16 x158, r128))
                        generalize iv_up G129 h0 _ = G159 at hB hm h9
                        have hM := hM.stp hm (by decide)
                        generalize hgn_g160 : upd g127 _ _ = g160 at h9
                        have a_h0 := h9
                        have e161 : x153 = g160 18 := by rw [← hgn_g160]; exact e_x153
                        have e9_g160 : x158 = g160 16 := by rw [← hgn_g160]; simp [upd]
                        refine lv_goto (tgt := 126) hx hb dX12_next0_186 (by decide) ?_
                        exact ih_126 G159 hM _ _ hB g160 r128 a_h0 (by have w1 := congrArg Int32.toInt e9_g160; have w2 := congrArg Int32.toInt e_x130; have w3 := i156_x130.2; have w4 : x158.toInt = x130.toInt + 1 := e_x158; omega) _ (lv_sub hl [0] rfl)
                      · skip
                        refine lv_aload_n hx hb dX12_next0_153 rfl (lv_at hl 0 rfl) ?_
                        refine lv_bipush (v := 10) hx hb dX12_next0_154 (by decide) ?_
                        refine lv_aload_n hx hb dX12_next0_156 rfl (lv_at hl 0 rfl) ?_
                        refine iv_geti X ft_X12 hB a_h0 sh_12 19 (by decide) rfl k_fl_X12_177 dX12_next0_157 (fun x162 e_x162 i_x162 => ?_)
                        refine lv_imul hx hb dX12_next0_160 ?_
                        refine lv_topi (fun x163 e_x163 => ?_)
                        have i_x163 := iv_R.all x163
                        refine lv_aload_n hx hb dX12_next0_161 rfl (lv_at hl 0 rfl) ?_
                        refine lv_aload_n hx hb dX12_next0_162 rfl (lv_at hl 0 rfl) ?_
                        refine iv_geti0 X ft_X12 hB a_h0 sh_12 16 (by decide) rfl k_fl_X12_85 dX12_next0_163 e_x130 ?_
                        refine iv_cVi X k_good k_mf_X12_see k_im_X12_see k_sel_X12_see k_ml_X12_161 ft_X12 hB a_h0 sh_12 (As := [.int x130]) (c_X12_see l D tys base G129 h0 g127 r128 a_h0 x130 (i151_x130.wk (by decide))) ⟨rfl, rfl⟩ ⟨Nat.le_of_ble_eq_true rfl, Nat.le_of_ble_eq_true rfl⟩ ⟨Nat.le_of_ble_eq_true rfl, Nat.le_of_ble_eq_true rfl⟩ rfl rfl hl.1 (Nat.le_of_ble_eq_true rfl) dX12_next0_166 (fun x164 G9 H locs hq hB => ?_)
                        obtain ⟨rfl, i_x164, np165⟩ := hq
                        refine lv_iadd hx hb dX12_next0_169 ?_
                        refine lv_topi (fun x166 e_x166 => ?_)
                        have i_x166 := iv_R.all x166
                        refine lv_bipush (v := 48) hx hb dX12_next0_170 (by decide) ?_
                        refine lv_isub hx hb dX12_next0_172 ?_
                        refine lv_topi (fun x167 e_x167 => ?_)
                        have i_x167 := iv_R.all x167
                        refine iv_puti X ft_X12 hB a_h0 sh_12 19 (by decide) rfl rfl k_fl_X12_177 rfl i_x167 rfl rfl dX12_next0_173 (fun H locs hB => ?_)
                        have hm := iv_Md.put (x := x167) a_h0 (j := 19) (by decide) (by decide)
                        have h9 := iv_up_eq (G := G129) (a := h0) (k := (12, upd g127 19 x167, r128))
                        generalize iv_up G129 h0 _ = G168 at hB hm h9
                        have hM := hM.stp hm (by decide)
                        generalize hgn_g169 : upd g127 _ _ = g169 at h9
                        have a_h0 := h9
                        have e170 : x130 = g169 16 := by rw [← hgn_g169]; exact e_x130
                        have e171 : x153 = g169 18 := by rw [← hgn_g169]; exact e_x153
                        have e9_g169 : x167 = g169 19 := by rw [← hgn_g169]; simp [upd]
                        refine lv_aload_n hx hb dX12_next0_176 rfl (lv_at hl 0 rfl) ?_
                        refine lv_dup hx hb dX12_next0_177 rfl ?_
                        refine iv_geti0 X ft_X12 hB a_h0 sh_12 16 (by decide) rfl k_fl_X12_85 dX12_next0_178 e170 ?_
                        refine lv_iconst (v := 1) hx hb dX12_next0_181 (by decide) ?_
                        refine iv_iadd hx hb i151_x130 q_1 (lo := 1) (hi := 400) (by decide) dX12_next0_182 (fun x172 e_x172 i_x172 => ?_)
                        refine iv_puti X ft_X12 hB a_h0 sh_12 16 (by decide) rfl rfl k_fl_X12_85 rfl (i_x172.wk (by decide)) rfl rfl dX12_next0_183 (fun H locs hB => ?_)
                        have hm := iv_Md.put (x := x172) a_h0 (j := 16) (by decide) (by decide)
                        have h9 := iv_up_eq (G := G168) (a := h0) (k := (12, upd g169 16 x172, r128))
                        generalize iv_up G168 h0 _ = G173 at hB hm h9
                        have hM := hM.stp hm (by decide)
                        generalize hgn_g174 : upd g169 _ _ = g174 at h9
                        have a_h0 := h9
                        have e175 : x153 = g174 18 := by rw [← hgn_g174]; exact e171
                        have e176 : x167 = g174 19 := by rw [← hgn_g174]; exact e9_g169
                        have e9_g174 : x172 = g174 16 := by rw [← hgn_g174]; simp [upd]
                        refine lv_goto (tgt := 126) hx hb dX12_next0_186 (by decide) ?_
                        exact ih_126 G173 hM _ _ hB g174 r128 a_h0 (by have w1 := congrArg Int32.toInt e9_g174; have w2 := congrArg Int32.toInt e_x130; have w3 := i151_x130.2; have w4 : x172.toInt = x130.toInt + 1 := e_x172; omega) _ (lv_sub hl [0] rfl)
                exact L_126 _ G123 hM _ _ hB g124 r2 a_h0 (Nat.lt_succ_self _) _ (lv_sub hl [1] rfl)
            · skip
              have i176_x24 : iv_R 1 1 x24 := iv_ne_lo c26 i_x24 q_0 (by decide)
              have i177_x19 : iv_R 65 122 x19 := ((i21_x19.cutLo (n := 65) (hp25 c26).1).cutHi (n := 122) (hp25 c26).2)
              have L_76 : ∀ (n_76 : Nat) (G181 : iv_G) (hM : iv_Md [12] G G181) (H : Heap) (locs : List Loc) (hB : iv_B iv_sh D classes tys base G181 s.heap H locs) (g179 : Nat → Int32) (r180 : Nat → Nat) (a_h0 : G181 h0 = some (12, g179, r180)) (hn_76 : (401 - (g179 16).toInt).toNat < n_76) (ls : Array Slot) (hl : lv_has ls 3 [(0, .ref h0)]), W p l e ({ frames := 8, cells := 0, slots := 0, locals := 168 } : Room) s m args below meth c H locs 0 0 (MQ below (iv_Qv iv_sh D classes tys base (fun G' => iv_Md [12] G G')) args s 0 0 (iv_A base)) (F0 m 76 ls []) := by
                intro n_76
                induction n_76 with
                | zero => intro G181 hM H locs hB g179 r180 a_h0 hn_76 ls hl; exact absurd hn_76 (Nat.not_lt_zero _)
                | succ n_76 ih_76 =>
                  intro G181 hM H locs hB g179 r180 a_h0 hn_76 ls hl
                  refine lv_aload_n hx hb dX12_next0_76 rfl (lv_at hl 0 rfl) ?_
                  refine lv_aload_n hx hb dX12_next0_77 rfl (lv_at hl 0 rfl) ?_
                  refine iv_geti X ft_X12 hB a_h0 sh_12 16 (by decide) rfl k_fl_X12_85 dX12_next0_78 (fun x182 e_x182 i_x182 => ?_)
                  refine iv_cVi X k_good k_mf_X12_see k_im_X12_see k_sel_X12_see k_ml_X12_161 ft_X12 hB a_h0 sh_12 (As := [.int x182]) (c_X12_see l D tys base G181 h0 g179 r180 a_h0 x182 i_x182) ⟨rfl, rfl⟩ ⟨Nat.le_of_ble_eq_true rfl, Nat.le_of_ble_eq_true rfl⟩ ⟨Nat.le_of_ble_eq_true rfl, Nat.le_of_ble_eq_true rfl⟩ rfl rfl hl.1 (Nat.le_of_ble_eq_true rfl) dX12_next0_81 (fun x183 G9 H locs hq hB => ?_)
                  obtain ⟨rfl, i_x183, np184⟩ := hq
                  refine iv_cSi X k_good k_mf_X12_isLetter k_st_X12_isLetter k_ml_X12_168 hB (As := [.int x183]) (c_X12_isLetter l D tys base G181 x183 i_x183) ⟨rfl, rfl⟩ ⟨Nat.le_of_ble_eq_true rfl, Nat.le_of_ble_eq_true rfl⟩ ⟨Nat.le_of_ble_eq_true rfl, Nat.le_of_ble_eq_true rfl⟩ rfl rfl hl.1 (Nat.le_of_ble_eq_true rfl) dX12_next0_84 (fun x185 G9 H locs hq hB => ?_)
                  obtain ⟨rfl, i_x185, hp186⟩ := hq
                  refine lv_if_eq (tgt := 103) hx hb dX12_next0_87 (by decide) (fun c187 => ?_) (fun c187 => ?_)
                  · skip
                    have i187_x185 : iv_R 0 0 x185 := (i_x185.cutHi (n := 0) (iv_eq_r c187 q_0).2)
                    refine lv_aload_n hx hb dX12_next0_103 rfl (lv_at hl 0 rfl) ?_
                    refine lv_aload_n hx hb dX12_next0_104 rfl (lv_at hl 0 rfl) ?_
                    refine iv_cVi X k_good k_mf_X12_word k_im_X12_word k_sel_X12_word k_ml_X12_171 ft_X12 hB a_h0 sh_12 (As := []) (c_X12_word l D tys base G181 h0 g179 r180 a_h0) ⟨rfl, rfl⟩ ⟨Nat.le_of_ble_eq_true rfl, Nat.le_of_ble_eq_true rfl⟩ ⟨Nat.le_of_ble_eq_true rfl, Nat.le_of_ble_eq_true rfl⟩ rfl rfl hl.1 (Nat.le_of_ble_eq_true rfl) dX12_next0_105 (fun x189 G9 H locs hq hB => ?_)
                    obtain ⟨rfl, i_x189⟩ := hq
                    refine iv_puti X ft_X12 hB a_h0 sh_12 17 (by decide) rfl rfl k_fl_X12_165 rfl (i_x189.wk (by decide)) rfl rfl dX12_next0_108 (fun H locs hB => ?_)
                    have hm := iv_Md.put (x := x189) a_h0 (j := 17) (by decide) (by decide)
                    have h9 := iv_up_eq (G := G181) (a := h0) (k := (12, upd g179 17 x189, r180))
                    generalize iv_up G181 h0 _ = G190 at hB hm h9
                    have hM := hM.stp hm (by decide)
                    generalize hgn_g191 : upd g179 _ _ = g191 at h9
                    have a_h0 := h9
                    have e192 : x182 = g191 16 := by rw [← hgn_g191]; exact e_x182
                    have e9_g191 : x189 = g191 17 := by rw [← hgn_g191]; simp [upd]
                    refine lv_goto (tgt := 306) hx hb dX12_next0_111 (by decide) ?_
                    exact iv_vret X hr hlocks hB hM dX12_next0_306
                  · skip
                    have i192_x185 : iv_R 1 1 x185 := iv_ne_lo c187 i_x185 q_0 (by decide)
                    have i193_x183 : iv_R 65 122 x183 := ((i_x183.cutLo (n := 65) (hp186 c187).1).cutHi (n := 122) (hp186 c187).2)
                    have i194_x182 : iv_R 0 399 x182 := (i_x182.cutHi (n := 399) (np184 (Int.le_trans (by decide) i193_x183.1)).2)
                    refine lv_aload_n hx hb dX12_next0_90 rfl (lv_at hl 0 rfl) ?_
                    refine lv_dup hx hb dX12_next0_91 rfl ?_
                    refine iv_geti0 X ft_X12 hB a_h0 sh_12 16 (by decide) rfl k_fl_X12_85 dX12_next0_92 e_x182 ?_
                    refine lv_iconst (v := 1) hx hb dX12_next0_95 (by decide) ?_
                    refine iv_iadd hx hb i194_x182 q_1 (lo := 1) (hi := 400) (by decide) dX12_next0_96 (fun x196 e_x196 i_x196 => ?_)
                    refine iv_puti X ft_X12 hB a_h0 sh_12 16 (by decide) rfl rfl k_fl_X12_85 rfl (i_x196.wk (by decide)) rfl rfl dX12_next0_97 (fun H locs hB => ?_)
                    have hm := iv_Md.put (x := x196) a_h0 (j := 16) (by decide) (by decide)
                    have h9 := iv_up_eq (G := G181) (a := h0) (k := (12, upd g179 16 x196, r180))
                    generalize iv_up G181 h0 _ = G197 at hB hm h9
                    have hM := hM.stp hm (by decide)
                    generalize hgn_g198 : upd g179 _ _ = g198 at h9
                    have a_h0 := h9
                    have e9_g198 : x196 = g198 16 := by rw [← hgn_g198]; simp [upd]
                    refine lv_goto (tgt := 76) hx hb dX12_next0_100 (by decide) ?_
                    exact ih_76 G197 hM _ _ hB g198 r180 a_h0 (by have w1 := congrArg Int32.toInt e9_g198; have w2 := congrArg Int32.toInt e_x182; have w3 := i194_x182.2; have w4 : x196.toInt = x182.toInt + 1 := e_x196; omega) _ (lv_sub hl [0] rfl)
              exact L_76 _ G16 hM _ _ hB g17 r2 a_h0 (Nat.lt_succ_self _) _ (lv_sub hl [1] rfl)
          · skip
            have i198_x19 : iv_R (-1) (-1) x19 := (i_x19.cutHi (n := (-1)) (iv_eq_r c21 q_n1).2)
            refine lv_aload_n hx hb dX12_next0_61 rfl (lv_at hl 1 rfl) ?_
            refine lv_iconst (v := 0) hx hb dX12_next0_62 (by decide) ?_
            refine iv_puti X ft_X12 hB a_h0 sh_12 17 (by decide) rfl rfl k_fl_X12_165 rfl (q_0.wk (by decide)) rfl rfl dX12_next0_63 (fun H locs hB => ?_)
            have hm := iv_Md.put (x := 0) a_h0 (j := 17) (by decide) (by decide)
            have h9 := iv_up_eq (G := G16) (a := h0) (k := (12, upd g17 17 0, r2))
            generalize iv_up G16 h0 _ = G200 at hB hm h9
            have hM := hM.stp hm (by decide)
            generalize hgn_g201 : upd g17 _ _ = g201 at h9
            have a_h0 := h9
            have e202 : x4 = g201 16 := by rw [← hgn_g201]; exact e18
            have e203 : x4 = g201 18 := by rw [← hgn_g201]; exact e9_g17
            have e9_g201 : 0 = g201 17 := by rw [← hgn_g201]; simp [upd]
            refine lv_goto (tgt := 306) hx hb dX12_next0_66 (by decide) ?_
            exact iv_vret X hr hlocks hB hM dX12_next0_306
        · skip
          have i203_x13 : iv_R 10 10 x13 := ((i_x13.cutLo (n := 10) (iv_eq_r c15 q_10).1).cutHi (n := 10) (iv_eq_r c15 q_10).2)
          have i204_x4 : iv_R 0 399 x4 := (i_x4.cutHi (n := 399) (np14 (Int.le_trans (by decide) i203_x13.1)).2)
          refine lv_aload_n hx hb dX12_next0_26 rfl (lv_at hl 0 rfl) ?_
          refine lv_dup hx hb dX12_next0_27 rfl ?_
          refine iv_geti0 X ft_X12 hB a_h0 sh_12 16 (by decide) rfl k_fl_X12_85 dX12_next0_28 e_x4 ?_
          refine lv_iconst (v := 1) hx hb dX12_next0_31 (by decide) ?_
          refine iv_iadd hx hb i204_x4 q_1 (lo := 1) (hi := 400) (by decide) dX12_next0_32 (fun x206 e_x206 i_x206 => ?_)
          refine iv_puti X ft_X12 hB a_h0 sh_12 16 (by decide) rfl rfl k_fl_X12_85 rfl (i_x206.wk (by decide)) rfl rfl dX12_next0_33 (fun H locs hB => ?_)
          have hm := iv_Md.put (x := x206) a_h0 (j := 16) (by decide) (by decide)
          have h9 := iv_up_eq (G := G3) (a := h0) (k := (12, upd g1 16 x206, r2))
          generalize iv_up G3 h0 _ = G207 at hB hm h9
          have hM := hM.stp hm (by decide)
          generalize hgn_g208 : upd g1 _ _ = g208 at h9
          have a_h0 := h9
          have e9_g208 : x206 = g208 16 := by rw [← hgn_g208]; simp [upd]
          refine lv_goto (tgt := 0) hx hb dX12_next0_36 (by decide) ?_
          exact ih_0 G207 hM _ _ hB g208 r2 a_h0 (by have w1 := congrArg Int32.toInt e9_g208; have w2 := congrArg Int32.toInt e_x4; have w3 := i204_x4.2; have w4 : x206.toInt = x4.toInt + 1 := e_x206; omega) _ (lv_sub hl [0] rfl)
  exact L_0 _ G hM _ _ hB g_h0 r_h0 a_h0 (Nat.lt_succ_self _) _ (lv_sub hl [0] rfl)
