theorem iv_get63 {D : va_G} {tys : List (ClassId × FieldType)} {base : Nat} {G : iv_G} {H0 H : Heap} {locs : List Loc} {a : Nat} {g : Nat → Int32} {r : Nat → Nat} (hB : iv_B iv_sh D classes tys base G H0 H locs) (ha : G a = some (12, g, r)) : ∃ (f : Nat → Int32) (q : Nat → Nat), G (r 5) = some (63, f, q) := by
  obtain ⟨q, h1, h2, h3⟩ := (hB.got ha).obj sh_12
  have hq : q = (RX12, TX12, 32) := Option.some.inj (h1.symm.trans ft_X12.1)
  subst hq
  obtain ⟨⟨c', g', r'⟩, h5, h6⟩ : ∃ k' : iv_K, G (r 5) = some k' ∧ k'.1 = 63 := h3 5 (by decide)
  have h6 : c' = 63 := h6
  subst h6
  exact ⟨g', r', h5⟩
theorem dX12_aLine_0 : decode cX12_aLine 0 = .ok (.aload_n 0, 1) := by decide +kernel
theorem dX12_aLine_1 : decode cX12_aLine 1 = .ok (.getfield 165, 3) := by decide +kernel
theorem dX12_aLine_4 : decode cX12_aLine 4 = .ok (.bipush 20, 2) := by decide +kernel
theorem dX12_aLine_6 : decode cX12_aLine 6 = .ok (.bipush 22, 2) := by decide +kernel
theorem dX12_aLine_8 : decode cX12_aLine 8 = .ok (.invokestatic 56, 3) := by decide +kernel
theorem dX12_aLine_11 : decode cX12_aLine 11 = .ok (.ifCond .ne 9, 3) := by decide +kernel
theorem dX12_aLine_14 : decode cX12_aLine 14 = .ok (.aload_n 0, 1) := by decide +kernel
theorem dX12_aLine_15 : decode cX12_aLine 15 = .ok (.iconst 1, 1) := by decide +kernel
theorem dX12_aLine_16 : decode cX12_aLine 16 = .ok (.invokevirtual 186, 3) := by decide +kernel
theorem dX12_aLine_19 : decode cX12_aLine 19 = .ok (.ireturn, 1) := by decide +kernel
theorem dX12_aLine_20 : decode cX12_aLine 20 = .ok (.aload_n 0, 1) := by decide +kernel
theorem dX12_aLine_21 : decode cX12_aLine 21 = .ok (.getfield 227, 3) := by decide +kernel
theorem dX12_aLine_24 : decode cX12_aLine 24 = .ok (.bipush 16, 2) := by decide +kernel
theorem dX12_aLine_26 : decode cX12_aLine 26 = .ok (.if_icmp .ne 9, 3) := by decide +kernel
theorem dX12_aLine_29 : decode cX12_aLine 29 = .ok (.aload_n 0, 1) := by decide +kernel
theorem dX12_aLine_30 : decode cX12_aLine 30 = .ok (.iconst 3, 1) := by decide +kernel
theorem dX12_aLine_31 : decode cX12_aLine 31 = .ok (.invokevirtual 186, 3) := by decide +kernel
theorem dX12_aLine_34 : decode cX12_aLine 34 = .ok (.ireturn, 1) := by decide +kernel
theorem dX12_aLine_35 : decode cX12_aLine 35 = .ok (.aload_n 0, 1) := by decide +kernel
theorem dX12_aLine_36 : decode cX12_aLine 36 = .ok (.iconst 0, 1) := by decide +kernel
theorem dX12_aLine_37 : decode cX12_aLine 37 = .ok (.putfield 195, 3) := by decide +kernel
theorem dX12_aLine_40 : decode cX12_aLine 40 = .ok (.aload_n 0, 1) := by decide +kernel
theorem dX12_aLine_41 : decode cX12_aLine 41 = .ok (.getfield 19, 3) := by decide +kernel
theorem dX12_aLine_44 : decode cX12_aLine 44 = .ok (.iconst 4, 1) := by decide +kernel
theorem dX12_aLine_45 : decode cX12_aLine 45 = .ok (.aload_n 0, 1) := by decide +kernel
theorem dX12_aLine_46 : decode cX12_aLine 46 = .ok (.getfield 227, 3) := by decide +kernel
theorem dX12_aLine_49 : decode cX12_aLine 49 = .ok (.imul, 1) := by decide +kernel
theorem dX12_aLine_50 : decode cX12_aLine 50 = .ok (.iconst 3, 1) := by decide +kernel
theorem dX12_aLine_51 : decode cX12_aLine 51 = .ok (.iadd, 1) := by decide +kernel
theorem dX12_aLine_52 : decode cX12_aLine 52 = .ok (.aload_n 0, 1) := by decide +kernel
theorem dX12_aLine_53 : decode cX12_aLine 53 = .ok (.getfield 165, 3) := by decide +kernel
theorem dX12_aLine_56 : decode cX12_aLine 56 = .ok (.iastore, 1) := by decide +kernel
theorem dX12_aLine_57 : decode cX12_aLine 57 = .ok (.aload_n 0, 1) := by decide +kernel
theorem dX12_aLine_58 : decode cX12_aLine 58 = .ok (.invokevirtual 189, 3) := by decide +kernel
theorem dX12_aLine_61 : decode cX12_aLine 61 = .ok (.aload_n 0, 1) := by decide +kernel
theorem dX12_aLine_62 : decode cX12_aLine 62 = .ok (.getfield 19, 3) := by decide +kernel
theorem dX12_aLine_65 : decode cX12_aLine 65 = .ok (.iconst 4, 1) := by decide +kernel
theorem dX12_aLine_66 : decode cX12_aLine 66 = .ok (.aload_n 0, 1) := by decide +kernel
theorem dX12_aLine_67 : decode cX12_aLine 67 = .ok (.getfield 227, 3) := by decide +kernel
theorem dX12_aLine_70 : decode cX12_aLine 70 = .ok (.imul, 1) := by decide +kernel
theorem dX12_aLine_71 : decode cX12_aLine 71 = .ok (.aload_n 0, 1) := by decide +kernel
theorem dX12_aLine_72 : decode cX12_aLine 72 = .ok (.getfield 192, 3) := by decide +kernel
theorem dX12_aLine_75 : decode cX12_aLine 75 = .ok (.iastore, 1) := by decide +kernel
theorem dX12_aLine_76 : decode cX12_aLine 76 = .ok (.aload_n 0, 1) := by decide +kernel
theorem dX12_aLine_77 : decode cX12_aLine 77 = .ok (.invokevirtual 224, 3) := by decide +kernel
theorem dX12_aLine_80 : decode cX12_aLine 80 = .ok (.ifCond .ne 5, 3) := by decide +kernel
theorem dX12_aLine_83 : decode cX12_aLine 83 = .ok (.iconst 0, 1) := by decide +kernel
theorem dX12_aLine_84 : decode cX12_aLine 84 = .ok (.ireturn, 1) := by decide +kernel
theorem dX12_aLine_85 : decode cX12_aLine 85 = .ok (.aload_n 0, 1) := by decide +kernel
theorem dX12_aLine_86 : decode cX12_aLine 86 = .ok (.getfield 19, 3) := by decide +kernel
theorem dX12_aLine_89 : decode cX12_aLine 89 = .ok (.iconst 4, 1) := by decide +kernel
theorem dX12_aLine_90 : decode cX12_aLine 90 = .ok (.aload_n 0, 1) := by decide +kernel
theorem dX12_aLine_91 : decode cX12_aLine 91 = .ok (.getfield 227, 3) := by decide +kernel
theorem dX12_aLine_94 : decode cX12_aLine 94 = .ok (.imul, 1) := by decide +kernel
theorem dX12_aLine_95 : decode cX12_aLine 95 = .ok (.iconst 1, 1) := by decide +kernel
theorem dX12_aLine_96 : decode cX12_aLine 96 = .ok (.iadd, 1) := by decide +kernel
theorem dX12_aLine_97 : decode cX12_aLine 97 = .ok (.aload_n 0, 1) := by decide +kernel
theorem dX12_aLine_98 : decode cX12_aLine 98 = .ok (.getfield 192, 3) := by decide +kernel
theorem dX12_aLine_101 : decode cX12_aLine 101 = .ok (.iastore, 1) := by decide +kernel
theorem dX12_aLine_102 : decode cX12_aLine 102 = .ok (.aload_n 0, 1) := by decide +kernel
theorem dX12_aLine_103 : decode cX12_aLine 103 = .ok (.getfield 165, 3) := by decide +kernel
theorem dX12_aLine_106 : decode cX12_aLine 106 = .ok (.iconst 3, 1) := by decide +kernel
theorem dX12_aLine_107 : decode cX12_aLine 107 = .ok (.if_icmp .ne 16, 3) := by decide +kernel
theorem dX12_aLine_110 : decode cX12_aLine 110 = .ok (.aload_n 0, 1) := by decide +kernel
theorem dX12_aLine_111 : decode cX12_aLine 111 = .ok (.invokevirtual 189, 3) := by decide +kernel
theorem dX12_aLine_114 : decode cX12_aLine 114 = .ok (.aload_n 0, 1) := by decide +kernel
theorem dX12_aLine_115 : decode cX12_aLine 115 = .ok (.invokevirtual 218, 3) := by decide +kernel
theorem dX12_aLine_118 : decode cX12_aLine 118 = .ok (.ifCond .ne 5, 3) := by decide +kernel
theorem dX12_aLine_121 : decode cX12_aLine 121 = .ok (.iconst 0, 1) := by decide +kernel
theorem dX12_aLine_122 : decode cX12_aLine 122 = .ok (.ireturn, 1) := by decide +kernel
theorem dX12_aLine_123 : decode cX12_aLine 123 = .ok (.aload_n 0, 1) := by decide +kernel
theorem dX12_aLine_124 : decode cX12_aLine 124 = .ok (.getfield 19, 3) := by decide +kernel
theorem dX12_aLine_127 : decode cX12_aLine 127 = .ok (.iconst 4, 1) := by decide +kernel
theorem dX12_aLine_128 : decode cX12_aLine 128 = .ok (.aload_n 0, 1) := by decide +kernel
theorem dX12_aLine_129 : decode cX12_aLine 129 = .ok (.getfield 227, 3) := by decide +kernel
theorem dX12_aLine_132 : decode cX12_aLine 132 = .ok (.imul, 1) := by decide +kernel
theorem dX12_aLine_133 : decode cX12_aLine 133 = .ok (.iconst 2, 1) := by decide +kernel
theorem dX12_aLine_134 : decode cX12_aLine 134 = .ok (.iadd, 1) := by decide +kernel
theorem dX12_aLine_135 : decode cX12_aLine 135 = .ok (.aload_n 0, 1) := by decide +kernel
theorem dX12_aLine_136 : decode cX12_aLine 136 = .ok (.getfield 192, 3) := by decide +kernel
theorem dX12_aLine_139 : decode cX12_aLine 139 = .ok (.iastore, 1) := by decide +kernel
theorem dX12_aLine_140 : decode cX12_aLine 140 = .ok (.aload_n 0, 1) := by decide +kernel
theorem dX12_aLine_141 : decode cX12_aLine 141 = .ok (.sipush 159, 3) := by decide +kernel
theorem dX12_aLine_144 : decode cX12_aLine 144 = .ok (.invokevirtual 221, 3) := by decide +kernel
theorem dX12_aLine_147 : decode cX12_aLine 147 = .ok (.ireturn, 1) := by decide +kernel
set_option maxHeartbeats 4000000 in
set_option maxRecDepth 100000 in
theorem c_X12_aLine (l : Launch) (D : va_G) (tys : List (ClassId × FieldType)) (base : Nat) (G : iv_G) (h0 : Nat) (g_h0 : Nat → Int32) (r_h0 : Nat → Nat) (a_h0 : G h0 = some (12, g_h0, r_h0)) (hJ : iv_J g_h0) (hE0 : (g_h0 13).toInt ≤ (g_h0 18).toInt) : Met l yX12_aLine (Cond.code yX12_aLine cX12_aLine 1 (some .boolean) :: iv_W0) ({ frames := 1221, cells := 0, slots := 0, locals := 24837 }) (iv_Pc iv_sh D classes tys base G [.ref h0]) (iv_Qi iv_sh D classes tys base (fun v G' => iv_MdT [12, 63, 64] G G' ∧ iv_R 0 1 v ∧ iv_pr 0 0 h0 G G' ∧ (¬ v = 0 → iv_pr 1 0 h0 G G' ∧ (g_h0 12).toInt ≤ 15 ∧ iv_ln h0 G G'))) 0 0 (iv_A base) := by
  refine iv_head (by decide) (Nat.le_of_ble_eq_true rfl) ?_
  intro p e s m args below meth c ls X hr hlocks hname hB hl
  have X := X
  have hx := X.1.1
  have hb := X.1.2.1
  have hM : iv_MdT [12, 63, 64] G G := iv_MdT.rf
  have a_st := a_h0
  have a_lb := a_h0
  have hP : iv_pr 0 0 h0 G G := iv_pr.rf a_h0 hJ
  have hL : iv_pr 0 0 h0 G G := hP
  have hE := hE0
  have hl : lv_has ls 1 [(0, .ref h0)] := hl
  obtain ⟨y12, e_y12⟩ : ∃ x, x = g_h0 12 := ⟨_, rfl⟩
  have i_y12 : iv_R 0 16 y12 := by rw [e_y12]; exact iv_sl12 hB a_h0 12 (by decide) rfl
  obtain ⟨y17, e_y17⟩ : ∃ x, x = g_h0 17 := ⟨_, rfl⟩
  have i_y17 : iv_R (-2147483648) 2147483647 y17 := by rw [e_y17]; exact iv_R.all _
  obtain ⟨fl0, ql0, hfl0⟩ := iv_get63 hB a_h0
  have hfl00 := hfl0
  refine lv_aload_n hx hb dX12_aLine_0 rfl (lv_at hl 0 rfl) ?_
  refine iv_geti0 X ft_X12 hB a_h0 sh_12 17 (by decide) rfl k_fl_X12_165 dX12_aLine_1 e_y17 ?_
  refine lv_bipush (v := 20) hx hb dX12_aLine_4 (by decide) ?_
  refine lv_bipush (v := 22) hx hb dX12_aLine_6 (by decide) ?_
  refine iv_cSi X k_good k_mf_X12_isIn k_st_X12_isIn k_ml_X12_56 hB (As := [.int y17, .int 20, .int 22]) (c_X12_isIn l D tys base G y17 i_y17 20 (q_20.wk (by decide)) 22 (q_22.wk (by decide))) ⟨rfl, rfl⟩ ⟨Nat.le_of_ble_eq_true rfl, Nat.le_of_ble_eq_true rfl⟩ ⟨Nat.le_of_ble_eq_true rfl, Nat.le_of_ble_eq_true rfl⟩ rfl rfl hl.1 (Nat.le_of_ble_eq_true rfl) dX12_aLine_8 (fun x1 G9 H locs hq hB => ?_)
  obtain ⟨rfl, i_x1, hp2⟩ := hq
  have k3 : ¬ x1 = 0 → iv_R 20 22 y17 := fun h => ⟨iv_max i_y17.1 (Int.le_trans q_20.1 (hp2.1 h).1) (by decide), iv_min i_y17.2 (Int.le_trans (hp2.1 h).2 q_22.2) (by decide)⟩
  refine lv_if_ne (tgt := 20) hx hb dX12_aLine_11 (by decide) (fun c4 => ?_) (fun c4 => ?_)
  · skip
    have i4_x1 : iv_R 1 1 x1 := iv_ne_lo c4 i_x1 q_0 (by decide)
    have i5_y17 : iv_R 20 22 y17 := ((i_y17.cutLo (n := 20) (k3 c4).1).cutHi (n := 22) (k3 c4).2)
    refine lv_aload_n hx hb dX12_aLine_20 rfl (lv_at hl 0 rfl) ?_
    refine iv_geti0 X ft_X12 hB a_h0 sh_12 12 (by decide) rfl k_fl_X12_227 dX12_aLine_21 e_y12 ?_
    refine lv_bipush (v := 16) hx hb dX12_aLine_24 (by decide) ?_
    refine lv_icmp_ne (tgt := 35) hx hb dX12_aLine_26 (by decide) (fun c7 => ?_) (fun c7 => ?_)
    · skip
      have i7_y12 : iv_R 0 15 y12 := iv_ne_hi c7 i_y12 q_16 (by decide)
      refine lv_aload_n hx hb dX12_aLine_35 rfl (lv_at hl 0 rfl) ?_
      refine lv_iconst (v := 0) hx hb dX12_aLine_36 (by decide) ?_
      refine iv_puti X ft_X12 hB a_h0 sh_12 23 (by decide) rfl rfl k_fl_X12_195 rfl (q_0.wk (by decide)) rfl rfl dX12_aLine_37 (fun H locs hB => ?_)
      have hm := iv_MdT.put (x := 0) a_h0 (j := 23) (by decide)
      have h9 := iv_up_eq (G := G) (a := h0) (k := (12, upd g_h0 23 0, r_h0))
      have hL := hL.put (x := 0) a_h0 (j := 23) (by decide)
      generalize iv_up G h0 _ = G9 at hB hm h9 hL
      have hM := hM.stp hm (by decide)
      generalize hgn_g10 : upd g_h0 _ _ = g10 at h9
      have hfl0 := hm.at hfl0 (by decide)
      have a_h0 := h9
      have e11 : y12 = g10 12 := by rw [← hgn_g10]; exact e_y12
      have e12 : y17 = g10 17 := by rw [← hgn_g10]; exact e_y17
      have e9_g10 : 0 = g10 23 := by rw [← hgn_g10]; simp [upd]
      refine lv_aload_n hx hb dX12_aLine_40 rfl (lv_at hl 0 rfl) ?_
      refine iv_getr0 X ft_X12 hB a_h0 sh_12 5 (by decide) rfl k_fl_X12_19 dX12_aLine_41 (rfl : r_h0 5 = r_h0 5) ?_
      refine lv_iconst (v := 4) hx hb dX12_aLine_44 (by decide) ?_
      refine lv_aload_n hx hb dX12_aLine_45 rfl (lv_at hl 0 rfl) ?_
      refine iv_geti0 X ft_X12 hB a_h0 sh_12 12 (by decide) rfl k_fl_X12_227 dX12_aLine_46 e11 ?_
      refine iv_imul hx hb q_4 i7_y12 (lo := 0) (hi := 60) (by decide) dX12_aLine_49 (fun x13 e_x13 i_x13 => ?_)
      have e_x13 : x13.toInt = 4 * y12.toInt := e_x13
      refine lv_iconst (v := 3) hx hb dX12_aLine_50 (by decide) ?_
      refine iv_iadd hx hb i_x13 q_3 (lo := 3) (hi := 63) (by decide) dX12_aLine_51 (fun x14 e_x14 i_x14 => ?_)
      have e_x14 : x14.toInt = x13.toInt + 3 := e_x14
      refine lv_aload_n hx hb dX12_aLine_52 rfl (lv_at hl 0 rfl) ?_
      refine iv_geti0 X ft_X12 hB a_h0 sh_12 17 (by decide) rfl k_fl_X12_165 dX12_aLine_53 e12 ?_
      refine iv_ast X hB hfl0 sh_63 (iv_in i_x14 (by decide)) (i5_y17.wk (by decide)) dX12_aLine_56 (fun H locs hB => ?_)
      have hm := iv_Md.ast (j := x14.toNatClampNeg) (x := y17) hfl0 rfl (by decide)
      have h9 := iv_up_eq (G := G9) (a := (r_h0 5)) (k := (63, upd fl0 x14.toNatClampNeg y17, ql0))
      have hL := hL.oth (k := (63, upd fl0 x14.toNatClampNeg y17, ql0)) hfl0 rfl (by decide)
      generalize iv_up G9 (r_h0 5) _ = G15 at hB hm h9 hL
      have hM := hM.stp (iv_MdT.of hm) (by decide)
      generalize hgn_g16 : upd fl0 _ _ = g16 at h9
      have a_h0 := hm.at a_h0 (by decide)
      have hfl0 := h9
      refine lv_aload_n hx hb dX12_aLine_57 rfl (lv_at hl 0 rfl) ?_
      have a_q17 := a_h0
      have hx_q17 := iv_get64 hB a_h0
      have hs_q17 := iv_s18 hB a_h0
      refine iv_cVv X k_good k_mf_X12_next0 k_im_X12_next0 k_sel_X12_next0 k_ml_X12_189 ft_X12 hB a_h0 sh_12 (As := []) (e_X12_next0 l D tys base G15 h0 g10 r_h0 a_h0) ⟨rfl, rfl⟩ ⟨Nat.le_of_ble_eq_true rfl, Nat.le_of_ble_eq_true rfl⟩ ⟨Nat.le_of_ble_eq_true rfl, Nat.le_of_ble_eq_true rfl⟩ rfl rfl hl.1 (Nat.le_of_ble_eq_true rfl) dX12_aLine_58 (fun G9 H locs hq hB => ?_)
      obtain ⟨hm, xp18⟩ := hq
      obtain ⟨G19, hG9⟩ : ∃ g, g = G9 := ⟨_, rfl⟩
      rw [← hG9] at hm hB xp18
      have hM := hM.stp (iv_MdT.of hm) (by decide)
      obtain ⟨g20, r21, a_h0, f_g20⟩ := hm.ex a_h0
      have e22 : y12 = g20 12 := e11.trans (f_g20.2.1 12 (show (12 : Nat) ∈ iv_stab 12 from by decide)).symm
      have e23 : 0 = g20 23 := e9_g10.trans (f_g20.2.1 23 (show (23 : Nat) ∈ iv_stab 12 from by decide)).symm
      have e24 : (r_h0 5) = r21 5 := (rfl : r_h0 5 = r_h0 5).trans (f_g20.1 5 (fun h => absurd (show (12 : Nat) = 5 from h) (by decide))).symm
      have hfl0 := hm.at hfl0 (by decide)
      have hL : iv_pr (1) 0 h0 G G19 := (hL.next1 hm a_q17 xp18 (by rw [← e12]; exact Int.le_trans (by decide) i5_y17.1)).wk (by decide)
      refine lv_aload_n hx hb dX12_aLine_61 rfl (lv_at hl 0 rfl) ?_
      refine iv_getr0 X ft_X12 hB a_h0 sh_12 5 (by decide) rfl k_fl_X12_19 dX12_aLine_62 e24 ?_
      refine lv_iconst (v := 4) hx hb dX12_aLine_65 (by decide) ?_
      refine lv_aload_n hx hb dX12_aLine_66 rfl (lv_at hl 0 rfl) ?_
      refine iv_geti0 X ft_X12 hB a_h0 sh_12 12 (by decide) rfl k_fl_X12_227 dX12_aLine_67 e22 ?_
      refine iv_imul hx hb q_4 i7_y12 (lo := 0) (hi := 60) (by decide) dX12_aLine_70 (fun x25 e_x25 i_x25 => ?_)
      have e_x25 : x25.toInt = 4 * y12.toInt := e_x25
      refine lv_aload_n hx hb dX12_aLine_71 rfl (lv_at hl 0 rfl) ?_
      refine iv_geti X ft_X12 hB a_h0 sh_12 13 (by decide) rfl k_fl_X12_192 dX12_aLine_72 (fun x26 e_x26 i_x26 => ?_)
      have st0 : x26 = g20 13 := e_x26
      refine iv_ast X hB hfl0 sh_63 (iv_in i_x25 (by decide)) (i_x26.wk (by decide)) dX12_aLine_75 (fun H locs hB => ?_)
      have hm := iv_Md.ast (j := x25.toNatClampNeg) (x := x26) hfl0 rfl (by decide)
      have h9 := iv_up_eq (G := G19) (a := (r_h0 5)) (k := (63, upd g16 x25.toNatClampNeg x26, ql0))
      have hL := hL.oth (k := (63, upd g16 x25.toNatClampNeg x26, ql0)) hfl0 rfl (by decide)
      generalize iv_up G19 (r_h0 5) _ = G27 at hB hm h9 hL
      have hM := hM.stp (iv_MdT.of hm) (by decide)
      generalize hgn_g28 : upd g16 _ _ = g28 at h9
      have a_h0 := hm.at a_h0 (by decide)
      have hfl0 := h9
      refine lv_aload_n hx hb dX12_aLine_76 rfl (lv_at hl 0 rfl) ?_
      have a_q29 := a_h0
      have hx_q29 := iv_get64 hB a_h0
      have hs_q29 := iv_s18 hB a_h0
      refine iv_cVi X k_good k_mf_X12_sumUp k_im_X12_sumUp k_sel_X12_sumUp k_ml_X12_224 ft_X12 hB a_h0 sh_12 (As := []) (c_X12_sumUp l D tys base G27 h0 g20 r21 a_h0 (hL.J a_lb a_h0) (hL.le (by decide) a_lb a_h0 hE)) ⟨rfl, rfl⟩ ⟨Nat.le_of_ble_eq_true rfl, Nat.le_of_ble_eq_true rfl⟩ ⟨Nat.le_of_ble_eq_true rfl, Nat.le_of_ble_eq_true rfl⟩ rfl rfl hl.1 (Nat.le_of_ble_eq_true rfl) dX12_aLine_77 (fun x30 G9 H locs hq hB => ?_)
      obtain ⟨hm, i_x30, xp31⟩ := hq
      obtain ⟨G32, hG9⟩ : ∃ g, g = G9 := ⟨_, rfl⟩
      rw [← hG9] at hm hB xp31
      have hM := hM.stp hm (by decide)
      obtain ⟨g33, r34, a_h0, f_g33⟩ := hm.ex a_h0
      have e35 : (r_h0 5) = r34 5 := e24.trans (f_g33.1 5 (fun h => absurd (show (12 : Nat) = 5 from h) (by decide))).symm
      have hfl0 := hm.at hfl0 (by decide)
      have hL : iv_pr (1) 0 h0 G G32 := (hL.tr xp31.1).wk (by decide)
      have e36 : y12 = g33 12 := e22.trans (xp31.1.s12 a_q29 a_h0).symm
      refine lv_if_ne (tgt := 85) hx hb dX12_aLine_80 (by decide) (fun c37 => ?_) (fun c37 => ?_)
      · skip
        have i37_x30 : iv_R 1 1 x30 := iv_ne_lo c37 i_x30 q_0 (by decide)
        have hC39 := xp31.2 c37
        have a_q40 := a_h0
        have hx_q40 := iv_get64 hB a_h0
        have hK1 : iv_pr 0 0 h0 G32 G32 := iv_pr.rf a_h0 (hL.J a_lb a_h0)
        refine lv_aload_n hx hb dX12_aLine_85 rfl (lv_at hl 0 rfl) ?_
        refine iv_getr0 X ft_X12 hB a_h0 sh_12 5 (by decide) rfl k_fl_X12_19 dX12_aLine_86 e35 ?_
        refine lv_iconst (v := 4) hx hb dX12_aLine_89 (by decide) ?_
        refine lv_aload_n hx hb dX12_aLine_90 rfl (lv_at hl 0 rfl) ?_
        refine iv_geti0 X ft_X12 hB a_h0 sh_12 12 (by decide) rfl k_fl_X12_227 dX12_aLine_91 e36 ?_
        refine iv_imul hx hb q_4 i7_y12 (lo := 0) (hi := 60) (by decide) dX12_aLine_94 (fun x41 e_x41 i_x41 => ?_)
        have e_x41 : x41.toInt = 4 * y12.toInt := e_x41
        refine lv_iconst (v := 1) hx hb dX12_aLine_95 (by decide) ?_
        refine iv_iadd hx hb i_x41 q_1 (lo := 1) (hi := 61) (by decide) dX12_aLine_96 (fun x42 e_x42 i_x42 => ?_)
        have e_x42 : x42.toInt = x41.toInt + 1 := e_x42
        refine lv_aload_n hx hb dX12_aLine_97 rfl (lv_at hl 0 rfl) ?_
        refine iv_geti X ft_X12 hB a_h0 sh_12 13 (by decide) rfl k_fl_X12_192 dX12_aLine_98 (fun x43 e_x43 i_x43 => ?_)
        have st1 : x43 = g33 13 := e_x43
        refine iv_ast X hB hfl0 sh_63 (iv_in i_x42 (by decide)) (i_x43.wk (by decide)) dX12_aLine_101 (fun H locs hB => ?_)
        have hm := iv_Md.ast (j := x42.toNatClampNeg) (x := x43) hfl0 rfl (by decide)
        have h9 := iv_up_eq (G := G32) (a := (r_h0 5)) (k := (63, upd g28 x42.toNatClampNeg x43, ql0))
        have hL := hL.oth (k := (63, upd g28 x42.toNatClampNeg x43, ql0)) hfl0 rfl (by decide)
        have hK1 := hK1.oth (k := (63, upd g28 x42.toNatClampNeg x43, ql0)) hfl0 rfl (by decide)
        generalize iv_up G32 (r_h0 5) _ = G44 at hB hm h9 hL hK1
        have hM := hM.stp (iv_MdT.of hm) (by decide)
        generalize hgn_g45 : upd g28 _ _ = g45 at h9
        have a_h0 := hm.at a_h0 (by decide)
        have hfl0 := h9
        refine lv_aload_n hx hb dX12_aLine_102 rfl (lv_at hl 0 rfl) ?_
        refine iv_geti X ft_X12 hB a_h0 sh_12 17 (by decide) rfl k_fl_X12_165 dX12_aLine_103 (fun x46 e_x46 i_x46 => ?_)
        refine lv_iconst (v := 3) hx hb dX12_aLine_106 (by decide) ?_
        refine lv_icmp_ne (tgt := 123) hx hb dX12_aLine_107 (by decide) (fun c47 => ?_) (fun c47 => ?_)
        · skip
          refine lv_aload_n hx hb dX12_aLine_123 rfl (lv_at hl 0 rfl) ?_
          refine iv_getr0 X ft_X12 hB a_h0 sh_12 5 (by decide) rfl k_fl_X12_19 dX12_aLine_124 e35 ?_
          refine lv_iconst (v := 4) hx hb dX12_aLine_127 (by decide) ?_
          refine lv_aload_n hx hb dX12_aLine_128 rfl (lv_at hl 0 rfl) ?_
          refine iv_geti0 X ft_X12 hB a_h0 sh_12 12 (by decide) rfl k_fl_X12_227 dX12_aLine_129 e36 ?_
          refine iv_imul hx hb q_4 i7_y12 (lo := 0) (hi := 60) (by decide) dX12_aLine_132 (fun x49 e_x49 i_x49 => ?_)
          have e_x49 : x49.toInt = 4 * y12.toInt := e_x49
          refine lv_iconst (v := 2) hx hb dX12_aLine_133 (by decide) ?_
          refine iv_iadd hx hb i_x49 q_2 (lo := 2) (hi := 62) (by decide) dX12_aLine_134 (fun x50 e_x50 i_x50 => ?_)
          have e_x50 : x50.toInt = x49.toInt + 2 := e_x50
          refine lv_aload_n hx hb dX12_aLine_135 rfl (lv_at hl 0 rfl) ?_
          refine iv_geti0 X ft_X12 hB a_h0 sh_12 13 (by decide) rfl k_fl_X12_192 dX12_aLine_136 e_x43 ?_
          have st2 : x43 = g33 13 := e_x43
          refine iv_ast X hB hfl0 sh_63 (iv_in i_x50 (by decide)) (i_x43.wk (by decide)) dX12_aLine_139 (fun H locs hB => ?_)
          have hm := iv_Md.ast (j := x50.toNatClampNeg) (x := x43) hfl0 rfl (by decide)
          have h9 := iv_up_eq (G := G44) (a := (r_h0 5)) (k := (63, upd g45 x50.toNatClampNeg x43, ql0))
          have hL := hL.oth (k := (63, upd g45 x50.toNatClampNeg x43, ql0)) hfl0 rfl (by decide)
          have hK1 := hK1.oth (k := (63, upd g45 x50.toNatClampNeg x43, ql0)) hfl0 rfl (by decide)
          generalize iv_up G44 (r_h0 5) _ = G51 at hB hm h9 hL hK1
          have hM := hM.stp (iv_MdT.of hm) (by decide)
          generalize hgn_g52 : upd g45 _ _ = g52 at h9
          have a_h0 := hm.at a_h0 (by decide)
          have hfl0 := h9
          refine lv_aload_n hx hb dX12_aLine_140 rfl (lv_at hl 0 rfl) ?_
          refine lv_sipush (v := 159) hx hb dX12_aLine_141 (by decide) ?_
          have a_q53 := a_h0
          have hx_q53 := iv_get64 hB a_h0
          have hs_q53 := iv_s18 hB a_h0
          refine iv_cVi X k_good k_mf_X12_need k_im_X12_need k_sel_X12_need k_ml_X12_221 ft_X12 hB a_h0 sh_12 (As := [.int 159]) (c_X12_need l D tys base G51 h0 g33 r34 a_h0 159 (q_159.wk (by decide)) (hL.J a_lb a_h0)) ⟨rfl, rfl⟩ ⟨Nat.le_of_ble_eq_true rfl, Nat.le_of_ble_eq_true rfl⟩ ⟨Nat.le_of_ble_eq_true rfl, Nat.le_of_ble_eq_true rfl⟩ rfl rfl hl.1 (Nat.le_of_ble_eq_true rfl) dX12_aLine_144 (fun x54 G9 H locs hq hB => ?_)
          obtain ⟨hm, i_x54, xp55⟩ := hq
          obtain ⟨G56, hG9⟩ : ∃ g, g = G9 := ⟨_, rfl⟩
          rw [← hG9] at hm hB xp55
          have hM := hM.stp (iv_MdT.of hm) (by decide)
          obtain ⟨g57, r58, a_h0, f_g57⟩ := hm.ex a_h0
          have e59 : y12 = g57 12 := e36.trans (f_g57.2.1 12 (show (12 : Nat) ∈ iv_stab 12 from by decide)).symm
          have e60 : x43 = g57 13 := e_x43.trans (f_g57.2.1 13 (show (13 : Nat) ∈ iv_stab 12 from by decide)).symm
          have e61 : (r_h0 5) = r58 5 := e35.trans (f_g57.1 5 (fun h => absurd (show (12 : Nat) = 5 from h) (by decide))).symm
          have hfl0 := hm.at hfl0 (by decide)
          have hLp_x54 := hL
          have hL : iv_pr (1) 0 h0 G G56 := (hL.tr xp55.1).wk (by decide)
          have hK1 : iv_pr (0) 0 h0 G32 G56 := (hK1.tr xp55.1).wk (by decide)
          exact iv_zret X hr hlocks hB i_x54 ⟨hM, i_x54, ⟨((hP.tr hL).wk (by decide)), fun _ => ⟨(hP.tr hL).wk (by decide), by rw [← e_y12]; exact i7_y12.2, fun g9 r9 fl9 ql9 g8 r8 fl8 ql8 f8 q8 k9 j9 k8 j8 l8 => by have q1 := a_st.symm.trans k9; cases q1; have q2 := a_h0.symm.trans k8; cases q2; have q3 := hfl00.symm.trans j9; cases q3; have z5 : (r_h0 5) = r58 5 := e61; rw [← z5] at j8; have q4 := hfl0.symm.trans j8; cases q4; have wl := congrArg Int32.toInt e_y12; have n3 : x14.toNatClampNeg = 4 * (g_h0 12).toInt.toNat + 3 := (by show x14.toInt.toNat = _; have := i_y12.1; omega); have n0 : x25.toNatClampNeg = 4 * (g_h0 12).toInt.toNat := (by show x25.toInt.toNat = _; have := i_y12.1; omega); have n1 : x42.toNatClampNeg = 4 * (g_h0 12).toInt.toNat + 1 := (by show x42.toInt.toNat = _; have := i_y12.1; omega); have n2 : x50.toNatClampNeg = 4 * (g_h0 12).toInt.toNat + 2 := (by show x50.toInt.toNat = _; have := i_y12.1; omega); have u1 := (hC39).sg hK1 a_q29 a_q40 hx_q40 a_h0 l8; have p0 := congrArg Int32.toInt st0; have p1 := congrArg Int32.toInt st1; have p2 := congrArg Int32.toInt st2; have hz := i_x26.1; have v1 := u1.1; exact ⟨(fun i hi => by rw [← hgn_g52, ← hgn_g45, ← hgn_g28, ← hgn_g16, n2, n1, n0, n3]; simp only [upd]; rw [if_neg (by omega), if_neg (by omega), if_neg (by omega), if_neg (by omega)]), x26.toInt.toNat, x43.toInt.toNat, x43.toInt.toNat, (by rw [← hgn_g52, ← hgn_g45, ← hgn_g28, ← hgn_g16, n2, n1, n0, n3]; simp only [upd]; rw [if_neg (by omega), if_neg (by omega), if_pos trivial]; exact iv_nIof (by omega)), (by rw [← hgn_g52, ← hgn_g45, ← hgn_g28, ← hgn_g16, n2, n1, n0, n3]; simp only [upd]; rw [if_neg (by omega), if_pos trivial]; exact iv_nIof (by omega)), (by rw [← hgn_g52, ← hgn_g45, ← hgn_g28, ← hgn_g16, n2, n1, n0, n3]; simp only [upd]; rw [if_pos trivial]; exact iv_nIof (by omega)), (by omega), (by omega), (by omega), (iv_sgc u1.2 (by omega) (by omega) rfl), (by rw [show x43.toInt.toNat - x43.toInt.toNat = 0 from by omega]; unfold iv_sg; trivial)⟩⟩⟩⟩ dX12_aLine_147
        · skip
          have i61_x46 : iv_R 3 3 x46 := ((i_x46.cutLo (n := 3) (iv_eq_r c47 q_3).1).cutHi (n := 3) (iv_eq_r c47 q_3).2)
          refine lv_aload_n hx hb dX12_aLine_110 rfl (lv_at hl 0 rfl) ?_
          have a_q63 := a_h0
          have hx_q63 := iv_get64 hB a_h0
          have hs_q63 := iv_s18 hB a_h0
          refine iv_cVv X k_good k_mf_X12_next0 k_im_X12_next0 k_sel_X12_next0 k_ml_X12_189 ft_X12 hB a_h0 sh_12 (As := []) (e_X12_next0 l D tys base G44 h0 g33 r34 a_h0) ⟨rfl, rfl⟩ ⟨Nat.le_of_ble_eq_true rfl, Nat.le_of_ble_eq_true rfl⟩ ⟨Nat.le_of_ble_eq_true rfl, Nat.le_of_ble_eq_true rfl⟩ rfl rfl hl.1 (Nat.le_of_ble_eq_true rfl) dX12_aLine_111 (fun G9 H locs hq hB => ?_)
          obtain ⟨hm, xp64⟩ := hq
          obtain ⟨G65, hG9⟩ : ∃ g, g = G9 := ⟨_, rfl⟩
          rw [← hG9] at hm hB xp64
          have hM := hM.stp (iv_MdT.of hm) (by decide)
          obtain ⟨g66, r67, a_h0, f_g66⟩ := hm.ex a_h0
          have e68 : y12 = g66 12 := e36.trans (f_g66.2.1 12 (show (12 : Nat) ∈ iv_stab 12 from by decide)).symm
          have e69 : x43 = g66 13 := e_x43.trans (f_g66.2.1 13 (show (13 : Nat) ∈ iv_stab 12 from by decide)).symm
          have e70 : (r_h0 5) = r67 5 := e35.trans (f_g66.1 5 (fun h => absurd (show (12 : Nat) = 5 from h) (by decide))).symm
          have hfl0 := hm.at hfl0 (by decide)
          have hL : iv_pr (2) 0 h0 G G65 := (hL.next1 hm a_q63 xp64 (by rw [← e_x46]; exact Int.le_trans (by decide) i61_x46.1)).wk (by decide)
          have hK1 : iv_pr (1) 0 h0 G32 G65 := (hK1.next1 hm a_q63 xp64 (by rw [← e_x46]; exact Int.le_trans (by decide) i61_x46.1)).wk (by decide)
          have st4 : x43 = g66 13 := e69
          refine lv_aload_n hx hb dX12_aLine_114 rfl (lv_at hl 0 rfl) ?_
          have a_q71 := a_h0
          have hx_q71 := iv_get64 hB a_h0
          have hs_q71 := iv_s18 hB a_h0
          refine iv_cVi X k_good k_mf_X12_any k_im_X12_any k_sel_X12_any k_ml_X12_218 ft_X12 hB a_h0 sh_12 (As := []) (c_X12_any l D tys base G65 h0 g66 r67 a_h0 (hL.J a_lb a_h0) (hL.le (by decide) a_lb a_h0 hE) (iv_s18 hB a_h0).1.2 (iv_s18 hB a_h0).1.1) ⟨rfl, rfl⟩ ⟨Nat.le_of_ble_eq_true rfl, Nat.le_of_ble_eq_true rfl⟩ ⟨Nat.le_of_ble_eq_true rfl, Nat.le_of_ble_eq_true rfl⟩ rfl rfl hl.1 (Nat.le_of_ble_eq_true rfl) dX12_aLine_115 (fun x72 G9 H locs hq hB => ?_)
          obtain ⟨hm, i_x72, xp73⟩ := hq
          obtain ⟨G74, hG9⟩ : ∃ g, g = G9 := ⟨_, rfl⟩
          rw [← hG9] at hm hB xp73
          have hM := hM.stp hm (by decide)
          obtain ⟨g75, r76, a_h0, f_g75⟩ := hm.ex a_h0
          have e77 : (r_h0 5) = r76 5 := e70.trans (f_g75.1 5 (fun h => absurd (show (12 : Nat) = 5 from h) (by decide))).symm
          have hfl0 := hm.at hfl0 (by decide)
          have hL : iv_pr (2) 0 h0 G G74 := (hL.tr xp73.1).wk (by decide)
          have hK1 : iv_pr (1) 0 h0 G32 G74 := (hK1.tr xp73.1).wk (by decide)
          have e78 : y12 = g75 12 := e68.trans (xp73.1.s12 a_q71 a_h0).symm
          refine lv_if_ne (tgt := 123) hx hb dX12_aLine_118 (by decide) (fun c79 => ?_) (fun c79 => ?_)
          · skip
            have i79_x72 : iv_R 1 1 x72 := iv_ne_lo c79 i_x72 q_0 (by decide)
            have hC81 := xp73.2 c79
            have a_q82 := a_h0
            have hx_q82 := iv_get64 hB a_h0
            have hK2 : iv_pr 0 0 h0 G74 G74 := iv_pr.rf a_h0 (hL.J a_lb a_h0)
            refine lv_aload_n hx hb dX12_aLine_123 rfl (lv_at hl 0 rfl) ?_
            refine iv_getr0 X ft_X12 hB a_h0 sh_12 5 (by decide) rfl k_fl_X12_19 dX12_aLine_124 e77 ?_
            refine lv_iconst (v := 4) hx hb dX12_aLine_127 (by decide) ?_
            refine lv_aload_n hx hb dX12_aLine_128 rfl (lv_at hl 0 rfl) ?_
            refine iv_geti0 X ft_X12 hB a_h0 sh_12 12 (by decide) rfl k_fl_X12_227 dX12_aLine_129 e78 ?_
            refine iv_imul hx hb q_4 i7_y12 (lo := 0) (hi := 60) (by decide) dX12_aLine_132 (fun x83 e_x83 i_x83 => ?_)
            have e_x83 : x83.toInt = 4 * y12.toInt := e_x83
            refine lv_iconst (v := 2) hx hb dX12_aLine_133 (by decide) ?_
            refine iv_iadd hx hb i_x83 q_2 (lo := 2) (hi := 62) (by decide) dX12_aLine_134 (fun x84 e_x84 i_x84 => ?_)
            have e_x84 : x84.toInt = x83.toInt + 2 := e_x84
            refine lv_aload_n hx hb dX12_aLine_135 rfl (lv_at hl 0 rfl) ?_
            refine iv_geti X ft_X12 hB a_h0 sh_12 13 (by decide) rfl k_fl_X12_192 dX12_aLine_136 (fun x85 e_x85 i_x85 => ?_)
            have st2 : x85 = g75 13 := e_x85
            refine iv_ast X hB hfl0 sh_63 (iv_in i_x84 (by decide)) (i_x85.wk (by decide)) dX12_aLine_139 (fun H locs hB => ?_)
            have hm := iv_Md.ast (j := x84.toNatClampNeg) (x := x85) hfl0 rfl (by decide)
            have h9 := iv_up_eq (G := G74) (a := (r_h0 5)) (k := (63, upd g45 x84.toNatClampNeg x85, ql0))
            have hL := hL.oth (k := (63, upd g45 x84.toNatClampNeg x85, ql0)) hfl0 rfl (by decide)
            have hK1 := hK1.oth (k := (63, upd g45 x84.toNatClampNeg x85, ql0)) hfl0 rfl (by decide)
            have hK2 := hK2.oth (k := (63, upd g45 x84.toNatClampNeg x85, ql0)) hfl0 rfl (by decide)
            generalize iv_up G74 (r_h0 5) _ = G86 at hB hm h9 hL hK1 hK2
            have hM := hM.stp (iv_MdT.of hm) (by decide)
            generalize hgn_g87 : upd g45 _ _ = g87 at h9
            have a_h0 := hm.at a_h0 (by decide)
            have hfl0 := h9
            refine lv_aload_n hx hb dX12_aLine_140 rfl (lv_at hl 0 rfl) ?_
            refine lv_sipush (v := 159) hx hb dX12_aLine_141 (by decide) ?_
            have a_q88 := a_h0
            have hx_q88 := iv_get64 hB a_h0
            have hs_q88 := iv_s18 hB a_h0
            refine iv_cVi X k_good k_mf_X12_need k_im_X12_need k_sel_X12_need k_ml_X12_221 ft_X12 hB a_h0 sh_12 (As := [.int 159]) (c_X12_need l D tys base G86 h0 g75 r76 a_h0 159 (q_159.wk (by decide)) (hL.J a_lb a_h0)) ⟨rfl, rfl⟩ ⟨Nat.le_of_ble_eq_true rfl, Nat.le_of_ble_eq_true rfl⟩ ⟨Nat.le_of_ble_eq_true rfl, Nat.le_of_ble_eq_true rfl⟩ rfl rfl hl.1 (Nat.le_of_ble_eq_true rfl) dX12_aLine_144 (fun x89 G9 H locs hq hB => ?_)
            obtain ⟨hm, i_x89, xp90⟩ := hq
            obtain ⟨G91, hG9⟩ : ∃ g, g = G9 := ⟨_, rfl⟩
            rw [← hG9] at hm hB xp90
            have hM := hM.stp (iv_MdT.of hm) (by decide)
            obtain ⟨g92, r93, a_h0, f_g92⟩ := hm.ex a_h0
            have e94 : y12 = g92 12 := e78.trans (f_g92.2.1 12 (show (12 : Nat) ∈ iv_stab 12 from by decide)).symm
            have e95 : x85 = g92 13 := e_x85.trans (f_g92.2.1 13 (show (13 : Nat) ∈ iv_stab 12 from by decide)).symm
            have e96 : (r_h0 5) = r93 5 := e77.trans (f_g92.1 5 (fun h => absurd (show (12 : Nat) = 5 from h) (by decide))).symm
            have hfl0 := hm.at hfl0 (by decide)
            have hLp_x89 := hL
            have hL : iv_pr (2) 0 h0 G G91 := (hL.tr xp90.1).wk (by decide)
            have hK1 : iv_pr (1) 0 h0 G32 G91 := (hK1.tr xp90.1).wk (by decide)
            have hK2 : iv_pr (0) 0 h0 G74 G91 := (hK2.tr xp90.1).wk (by decide)
            exact iv_zret X hr hlocks hB i_x89 ⟨hM, i_x89, ⟨((hP.tr hL).wk (by decide)), fun _ => ⟨(hP.tr hL).wk (by decide), by rw [← e_y12]; exact i7_y12.2, fun g9 r9 fl9 ql9 g8 r8 fl8 ql8 f8 q8 k9 j9 k8 j8 l8 => by have q1 := a_st.symm.trans k9; cases q1; have q2 := a_h0.symm.trans k8; cases q2; have q3 := hfl00.symm.trans j9; cases q3; have z5 : (r_h0 5) = r93 5 := e96; rw [← z5] at j8; have q4 := hfl0.symm.trans j8; cases q4; have wl := congrArg Int32.toInt e_y12; have n3 : x14.toNatClampNeg = 4 * (g_h0 12).toInt.toNat + 3 := (by show x14.toInt.toNat = _; have := i_y12.1; omega); have n0 : x25.toNatClampNeg = 4 * (g_h0 12).toInt.toNat := (by show x25.toInt.toNat = _; have := i_y12.1; omega); have n1 : x42.toNatClampNeg = 4 * (g_h0 12).toInt.toNat + 1 := (by show x42.toInt.toNat = _; have := i_y12.1; omega); have n2 : x84.toNatClampNeg = 4 * (g_h0 12).toInt.toNat + 2 := (by show x84.toInt.toNat = _; have := i_y12.1; omega); have u1 := (hC39).sg hK1 a_q29 a_q40 hx_q40 a_h0 l8; have p0 := congrArg Int32.toInt st0; have p1 := congrArg Int32.toInt st1; have p2 := congrArg Int32.toInt st2; have hz := i_x26.1; have v1 := u1.1; have u2 := (hC81).sg hK2 a_q71 a_q82 hx_q82 a_h0 l8; have p4 := congrArg Int32.toInt st4; have v2 := u2.1; exact ⟨(fun i hi => by rw [← hgn_g87, ← hgn_g45, ← hgn_g28, ← hgn_g16, n2, n1, n0, n3]; simp only [upd]; rw [if_neg (by omega), if_neg (by omega), if_neg (by omega), if_neg (by omega)]), x26.toInt.toNat, x43.toInt.toNat, x85.toInt.toNat, (by rw [← hgn_g87, ← hgn_g45, ← hgn_g28, ← hgn_g16, n2, n1, n0, n3]; simp only [upd]; rw [if_neg (by omega), if_neg (by omega), if_pos trivial]; exact iv_nIof (by omega)), (by rw [← hgn_g87, ← hgn_g45, ← hgn_g28, ← hgn_g16, n2, n1, n0, n3]; simp only [upd]; rw [if_neg (by omega), if_pos trivial]; exact iv_nIof (by omega)), (by rw [← hgn_g87, ← hgn_g45, ← hgn_g28, ← hgn_g16, n2, n1, n0, n3]; simp only [upd]; rw [if_pos trivial]; exact iv_nIof (by omega)), (by omega), (by omega), (by omega), (iv_sgc u1.2 (by omega) (by omega) rfl), (iv_sgc u2.2 (by omega) (by omega) rfl)⟩⟩⟩⟩ dX12_aLine_147
          · skip
            have i96_x72 : iv_R 0 0 x72 := (i_x72.cutHi (n := 0) (iv_eq_r c79 q_0).2)
            refine lv_iconst (v := 0) hx hb dX12_aLine_121 (by decide) ?_
            exact iv_zret X hr hlocks hB (q_0.wk (by decide)) ⟨hM, (q_0.wk (by decide)), ⟨((hP.tr hL).wk (by decide)), fun h => absurd (iv_z q_0) h⟩⟩ dX12_aLine_122
      · skip
        have i97_x30 : iv_R 0 0 x30 := (i_x30.cutHi (n := 0) (iv_eq_r c37 q_0).2)
        refine lv_iconst (v := 0) hx hb dX12_aLine_83 (by decide) ?_
        exact iv_zret X hr hlocks hB (q_0.wk (by decide)) ⟨hM, (q_0.wk (by decide)), ⟨((hP.tr hL).wk (by decide)), fun h => absurd (iv_z q_0) h⟩⟩ dX12_aLine_84
    · skip
      have i98_y12 : iv_R 16 16 y12 := (i_y12.cutLo (n := 16) (iv_eq_r c7 q_16).1)
      refine lv_aload_n hx hb dX12_aLine_29 rfl (lv_at hl 0 rfl) ?_
      refine lv_iconst (v := 3) hx hb dX12_aLine_30 (by decide) ?_
      have a_q100 := a_h0
      have hx_q100 := iv_get64 hB a_h0
      have hs_q100 := iv_s18 hB a_h0
      refine iv_cVi X k_good k_mf_X12_bad k_im_X12_bad k_sel_X12_bad k_ml_X12_186 ft_X12 hB a_h0 sh_12 (As := [.int 3]) (c_X12_bad l D tys base G h0 g_h0 r_h0 a_h0 3 (q_3.wk (by decide)) (hL.J a_lb a_h0)) ⟨rfl, rfl⟩ ⟨Nat.le_of_ble_eq_true rfl, Nat.le_of_ble_eq_true rfl⟩ ⟨Nat.le_of_ble_eq_true rfl, Nat.le_of_ble_eq_true rfl⟩ rfl rfl hl.1 (Nat.le_of_ble_eq_true rfl) dX12_aLine_31 (fun x101 G9 H locs hq hB => ?_)
      obtain ⟨hm, i_x101, xp102⟩ := hq
      obtain ⟨G103, hG9⟩ : ∃ g, g = G9 := ⟨_, rfl⟩
      rw [← hG9] at hm hB xp102
      have hM := hM.stp (iv_MdT.of hm) (by decide)
      obtain ⟨g104, r105, a_h0, f_g104⟩ := hm.ex a_h0
      have e106 : y12 = g104 12 := e_y12.trans (f_g104.2.1 12 (show (12 : Nat) ∈ iv_stab 12 from by decide)).symm
      have e107 : (r_h0 5) = r105 5 := (rfl : r_h0 5 = r_h0 5).trans (f_g104.1 5 (fun h => absurd (show (12 : Nat) = 5 from h) (by decide))).symm
      have hfl0 := hm.at hfl0 (by decide)
      have hL : iv_pr (0) 0 h0 G G103 := (hL.tr xp102).wk (by decide)
      exact iv_zret X hr hlocks hB (i_x101.wk (by decide)) ⟨hM, (i_x101.wk (by decide)), ⟨((hP.tr hL).wk (by decide)), fun h => absurd (iv_z i_x101) h⟩⟩ dX12_aLine_34
  · skip
    have i107_x1 : iv_R 0 0 x1 := (i_x1.cutHi (n := 0) (iv_eq_r c4 q_0).2)
    refine lv_aload_n hx hb dX12_aLine_14 rfl (lv_at hl 0 rfl) ?_
    refine lv_iconst (v := 1) hx hb dX12_aLine_15 (by decide) ?_
    have a_q109 := a_h0
    have hx_q109 := iv_get64 hB a_h0
    have hs_q109 := iv_s18 hB a_h0
    refine iv_cVi X k_good k_mf_X12_bad k_im_X12_bad k_sel_X12_bad k_ml_X12_186 ft_X12 hB a_h0 sh_12 (As := [.int 1]) (c_X12_bad l D tys base G h0 g_h0 r_h0 a_h0 1 (q_1.wk (by decide)) (hL.J a_lb a_h0)) ⟨rfl, rfl⟩ ⟨Nat.le_of_ble_eq_true rfl, Nat.le_of_ble_eq_true rfl⟩ ⟨Nat.le_of_ble_eq_true rfl, Nat.le_of_ble_eq_true rfl⟩ rfl rfl hl.1 (Nat.le_of_ble_eq_true rfl) dX12_aLine_16 (fun x110 G9 H locs hq hB => ?_)
    obtain ⟨hm, i_x110, xp111⟩ := hq
    obtain ⟨G112, hG9⟩ : ∃ g, g = G9 := ⟨_, rfl⟩
    rw [← hG9] at hm hB xp111
    have hM := hM.stp (iv_MdT.of hm) (by decide)
    obtain ⟨g113, r114, a_h0, f_g113⟩ := hm.ex a_h0
    have e115 : y12 = g113 12 := e_y12.trans (f_g113.2.1 12 (show (12 : Nat) ∈ iv_stab 12 from by decide)).symm
    have e116 : (r_h0 5) = r114 5 := (rfl : r_h0 5 = r_h0 5).trans (f_g113.1 5 (fun h => absurd (show (12 : Nat) = 5 from h) (by decide))).symm
    have hfl0 := hm.at hfl0 (by decide)
    have hL : iv_pr (0) 0 h0 G G112 := (hL.tr xp111).wk (by decide)
    exact iv_zret X hr hlocks hB (i_x110.wk (by decide)) ⟨hM, (i_x110.wk (by decide)), ⟨((hP.tr hL).wk (by decide)), fun h => absurd (iv_z i_x110) h⟩⟩ dX12_aLine_19
theorem dX12_number_0 : decode cX12_number 0 = .ok (.aload_n 0, 1) := by decide +kernel
theorem dX12_number_1 : decode cX12_number 1 = .ok (.getfield 165, 3) := by decide +kernel
theorem dX12_number_4 : decode cX12_number 4 = .ok (.iconst 2, 1) := by decide +kernel
theorem dX12_number_5 : decode cX12_number 5 = .ok (.if_icmp .eq 9, 3) := by decide +kernel
theorem dX12_number_8 : decode cX12_number 8 = .ok (.aload_n 0, 1) := by decide +kernel
theorem dX12_number_9 : decode cX12_number 9 = .ok (.iconst 1, 1) := by decide +kernel
theorem dX12_number_10 : decode cX12_number 10 = .ok (.invokevirtual 186, 3) := by decide +kernel
theorem dX12_number_13 : decode cX12_number 13 = .ok (.ireturn, 1) := by decide +kernel
theorem dX12_number_14 : decode cX12_number 14 = .ok (.aload_n 0, 1) := by decide +kernel
theorem dX12_number_15 : decode cX12_number 15 = .ok (.getfield 177, 3) := by decide +kernel
theorem dX12_number_18 : decode cX12_number 18 = .ok (.iload_n 1, 1) := by decide +kernel
theorem dX12_number_19 : decode cX12_number 19 = .ok (.iload_n 2, 1) := by decide +kernel
theorem dX12_number_20 : decode cX12_number 20 = .ok (.invokestatic 56, 3) := by decide +kernel
theorem dX12_number_23 : decode cX12_number 23 = .ok (.ifCond .ne 9, 3) := by decide +kernel
theorem dX12_number_26 : decode cX12_number 26 = .ok (.aload_n 0, 1) := by decide +kernel
theorem dX12_number_27 : decode cX12_number 27 = .ok (.iconst 2, 1) := by decide +kernel
theorem dX12_number_28 : decode cX12_number 28 = .ok (.invokevirtual 186, 3) := by decide +kernel
theorem dX12_number_31 : decode cX12_number 31 = .ok (.ireturn, 1) := by decide +kernel
theorem dX12_number_32 : decode cX12_number 32 = .ok (.aload_n 0, 1) := by decide +kernel
theorem dX12_number_33 : decode cX12_number 33 = .ok (.aload_n 0, 1) := by decide +kernel
theorem dX12_number_34 : decode cX12_number 34 = .ok (.getfield 177, 3) := by decide +kernel
theorem dX12_number_37 : decode cX12_number 37 = .ok (.putfield 233, 3) := by decide +kernel
theorem dX12_number_40 : decode cX12_number 40 = .ok (.aload_n 0, 1) := by decide +kernel
theorem dX12_number_41 : decode cX12_number 41 = .ok (.invokevirtual 189, 3) := by decide +kernel
theorem dX12_number_44 : decode cX12_number 44 = .ok (.iconst 1, 1) := by decide +kernel
theorem dX12_number_45 : decode cX12_number 45 = .ok (.ireturn, 1) := by decide +kernel
set_option maxHeartbeats 4000000 in
set_option maxRecDepth 100000 in
theorem c_X12_number (l : Launch) (D : va_G) (tys : List (ClassId × FieldType)) (base : Nat) (G : iv_G) (h0 : Nat) (g_h0 : Nat → Int32) (r_h0 : Nat → Nat) (a_h0 : G h0 = some (12, g_h0, r_h0)) (x_0 : Int32) (i_x_0 : iv_R (-2147483648) 2147483647 x_0) (x_1 : Int32) (i_x_1 : iv_R (-2147483648) 2147483647 x_1) (hJ : iv_J g_h0) : Met l yX12_number (Cond.code yX12_number cX12_number 3 (some .boolean) :: iv_W0) ({ frames := 9, cells := 0, slots := 0, locals := 190 }) (iv_Pc iv_sh D classes tys base G [.ref h0, .int x_0, .int x_1]) (iv_Qi iv_sh D classes tys base (fun v G' => iv_Md [12] G G' ∧ iv_R 0 1 v ∧ iv_pr 0 0 h0 G G' ∧ (¬ v = 0 → iv_pr 1 0 h0 G G'))) 0 0 (iv_A base) := by
  refine iv_head (by decide) (Nat.le_of_ble_eq_true rfl) ?_
  intro p e s m args below meth c ls X hr hlocks hname hB hl
  have X := X
  have hx := X.1.1
  have hb := X.1.2.1
  have hM : iv_Md [12] G G := iv_Md.rf
  have a_st := a_h0
  have a_lb := a_h0
  have hP : iv_pr 0 0 h0 G G := iv_pr.rf a_h0 hJ
  have hL : iv_pr 0 0 h0 G G := hP
  have hl : lv_has ls 3 [(0, .ref h0), (1, .int x_0), (2, .int x_1)] := hl
  obtain ⟨y17, e_y17⟩ : ∃ x, x = g_h0 17 := ⟨_, rfl⟩
  have i_y17 := iv_R.all y17
  refine lv_aload_n hx hb dX12_number_0 rfl (lv_at hl 0 rfl) ?_
  refine iv_geti0 X ft_X12 hB a_h0 sh_12 17 (by decide) rfl k_fl_X12_165 dX12_number_1 e_y17 ?_
  refine lv_iconst (v := 2) hx hb dX12_number_4 (by decide) ?_
  refine lv_icmp_eq (tgt := 14) hx hb dX12_number_5 (by decide) (fun c1 => ?_) (fun c1 => ?_)
  · skip
    have i1_y17 : iv_R 2 2 y17 := ((i_y17.cutLo (n := 2) (iv_eq_r c1 q_2).1).cutHi (n := 2) (iv_eq_r c1 q_2).2)
    refine lv_aload_n hx hb dX12_number_14 rfl (lv_at hl 0 rfl) ?_
    refine iv_geti X ft_X12 hB a_h0 sh_12 19 (by decide) rfl k_fl_X12_177 dX12_number_15 (fun x3 e_x3 i_x3 => ?_)
    refine lv_iload_n hx hb dX12_number_18 rfl (lv_at hl 1 rfl) ?_
    refine lv_iload_n hx hb dX12_number_19 rfl (lv_at hl 2 rfl) ?_
    refine iv_cSi X k_good k_mf_X12_isIn k_st_X12_isIn k_ml_X12_56 hB (As := [.int x3, .int x_0, .int x_1]) (c_X12_isIn l D tys base G x3 i_x3 x_0 i_x_0 x_1 i_x_1) ⟨rfl, rfl⟩ ⟨Nat.le_of_ble_eq_true rfl, Nat.le_of_ble_eq_true rfl⟩ ⟨Nat.le_of_ble_eq_true rfl, Nat.le_of_ble_eq_true rfl⟩ rfl rfl hl.1 (Nat.le_of_ble_eq_true rfl) dX12_number_20 (fun x4 G9 H locs hq hB => ?_)
    obtain ⟨rfl, i_x4, hp5⟩ := hq
    have k6 : ¬ x4 = 0 → iv_R (-2147483648) 2147483647 x3 := fun h => ⟨iv_max i_x3.1 (Int.le_trans i_x_0.1 (hp5.1 h).1) (by decide), iv_min i_x3.2 (Int.le_trans (hp5.1 h).2 i_x_1.2) (by decide)⟩
    refine lv_if_ne (tgt := 32) hx hb dX12_number_23 (by decide) (fun c7 => ?_) (fun c7 => ?_)
    · skip
      have i7_x4 : iv_R 1 1 x4 := iv_ne_lo c7 i_x4 q_0 (by decide)
      refine lv_aload_n hx hb dX12_number_32 rfl (lv_at hl 0 rfl) ?_
      refine lv_aload_n hx hb dX12_number_33 rfl (lv_at hl 0 rfl) ?_
      refine iv_geti0 X ft_X12 hB a_h0 sh_12 19 (by decide) rfl k_fl_X12_177 dX12_number_34 e_x3 ?_
      refine iv_puti X ft_X12 hB a_h0 sh_12 25 (by decide) rfl rfl k_fl_X12_233 rfl i_x3 rfl rfl dX12_number_37 (fun H locs hB => ?_)
      have hm := iv_Md.put (x := x3) a_h0 (j := 25) (by decide) (by decide)
      have h9 := iv_up_eq (G := G) (a := h0) (k := (12, upd g_h0 25 x3, r_h0))
      have hL := hL.put (x := x3) a_h0 (j := 25) (by decide)
      generalize iv_up G h0 _ = G9 at hB hm h9 hL
      have hM := hM.stp hm (by decide)
      generalize hgn_g10 : upd g_h0 _ _ = g10 at h9
      have a_h0 := h9
      have e11 : y17 = g10 17 := by rw [← hgn_g10]; exact e_y17
      have e12 : x3 = g10 19 := by rw [← hgn_g10]; exact e_x3
      have e9_g10 : x3 = g10 25 := by rw [← hgn_g10]; simp [upd]
      refine lv_aload_n hx hb dX12_number_40 rfl (lv_at hl 0 rfl) ?_
      have a_q13 := a_h0
      have hx_q13 := iv_get64 hB a_h0
      have hs_q13 := iv_s18 hB a_h0
      refine iv_cVv X k_good k_mf_X12_next0 k_im_X12_next0 k_sel_X12_next0 k_ml_X12_189 ft_X12 hB a_h0 sh_12 (As := []) (e_X12_next0 l D tys base G9 h0 g10 r_h0 a_h0) ⟨rfl, rfl⟩ ⟨Nat.le_of_ble_eq_true rfl, Nat.le_of_ble_eq_true rfl⟩ ⟨Nat.le_of_ble_eq_true rfl, Nat.le_of_ble_eq_true rfl⟩ rfl rfl hl.1 (Nat.le_of_ble_eq_true rfl) dX12_number_41 (fun G9 H locs hq hB => ?_)
      obtain ⟨hm, xp14⟩ := hq
      obtain ⟨G15, hG9⟩ : ∃ g, g = G9 := ⟨_, rfl⟩
      rw [← hG9] at hm hB xp14
      have hM := hM.stp hm (by decide)
      obtain ⟨g16, r17, a_h0, f_g16⟩ := hm.ex a_h0
      have hL : iv_pr (1) 0 h0 G G15 := (hL.next1 hm a_q13 xp14 (by rw [← e11]; exact Int.le_trans (by decide) i1_y17.1)).wk (by decide)
      refine lv_iconst (v := 1) hx hb dX12_number_44 (by decide) ?_
      exact iv_zret X hr hlocks hB (q_1.wk (by decide)) ⟨hM, (q_1.wk (by decide)), ⟨((hP.tr hL).wk (by decide)), fun _ => (hP.tr hL).wk (by decide)⟩⟩ dX12_number_45
    · skip
      have i17_x4 : iv_R 0 0 x4 := (i_x4.cutHi (n := 0) (iv_eq_r c7 q_0).2)
      refine lv_aload_n hx hb dX12_number_26 rfl (lv_at hl 0 rfl) ?_
      refine lv_iconst (v := 2) hx hb dX12_number_27 (by decide) ?_
      have a_q19 := a_h0
      have hx_q19 := iv_get64 hB a_h0
      have hs_q19 := iv_s18 hB a_h0
      refine iv_cVi X k_good k_mf_X12_bad k_im_X12_bad k_sel_X12_bad k_ml_X12_186 ft_X12 hB a_h0 sh_12 (As := [.int 2]) (c_X12_bad l D tys base G h0 g_h0 r_h0 a_h0 2 (q_2.wk (by decide)) (hL.J a_lb a_h0)) ⟨rfl, rfl⟩ ⟨Nat.le_of_ble_eq_true rfl, Nat.le_of_ble_eq_true rfl⟩ ⟨Nat.le_of_ble_eq_true rfl, Nat.le_of_ble_eq_true rfl⟩ rfl rfl hl.1 (Nat.le_of_ble_eq_true rfl) dX12_number_28 (fun x20 G9 H locs hq hB => ?_)
      obtain ⟨hm, i_x20, xp21⟩ := hq
      obtain ⟨G22, hG9⟩ : ∃ g, g = G9 := ⟨_, rfl⟩
      rw [← hG9] at hm hB xp21
      have hM := hM.stp hm (by decide)
      obtain ⟨g23, r24, a_h0, f_g23⟩ := hm.ex a_h0
      have hL : iv_pr (0) 0 h0 G G22 := (hL.tr xp21).wk (by decide)
      exact iv_zret X hr hlocks hB (i_x20.wk (by decide)) ⟨hM, (i_x20.wk (by decide)), ⟨((hP.tr hL).wk (by decide)), fun h => absurd (iv_z i_x20) h⟩⟩ dX12_number_31
  · skip
    refine lv_aload_n hx hb dX12_number_8 rfl (lv_at hl 0 rfl) ?_
    refine lv_iconst (v := 1) hx hb dX12_number_9 (by decide) ?_
    have a_q25 := a_h0
    have hx_q25 := iv_get64 hB a_h0
    have hs_q25 := iv_s18 hB a_h0
    refine iv_cVi X k_good k_mf_X12_bad k_im_X12_bad k_sel_X12_bad k_ml_X12_186 ft_X12 hB a_h0 sh_12 (As := [.int 1]) (c_X12_bad l D tys base G h0 g_h0 r_h0 a_h0 1 (q_1.wk (by decide)) (hL.J a_lb a_h0)) ⟨rfl, rfl⟩ ⟨Nat.le_of_ble_eq_true rfl, Nat.le_of_ble_eq_true rfl⟩ ⟨Nat.le_of_ble_eq_true rfl, Nat.le_of_ble_eq_true rfl⟩ rfl rfl hl.1 (Nat.le_of_ble_eq_true rfl) dX12_number_10 (fun x26 G9 H locs hq hB => ?_)
    obtain ⟨hm, i_x26, xp27⟩ := hq
    obtain ⟨G28, hG9⟩ : ∃ g, g = G9 := ⟨_, rfl⟩
    rw [← hG9] at hm hB xp27
    have hM := hM.stp hm (by decide)
    obtain ⟨g29, r30, a_h0, f_g29⟩ := hm.ex a_h0
    have hL : iv_pr (0) 0 h0 G G28 := (hL.tr xp27).wk (by decide)
    exact iv_zret X hr hlocks hB (i_x26.wk (by decide)) ⟨hM, (i_x26.wk (by decide)), ⟨((hP.tr hL).wk (by decide)), fun h => absurd (iv_z i_x26) h⟩⟩ dX12_number_13
theorem dX12_told_0 : decode cX12_told 0 = .ok (.aload_n 0, 1) := by decide +kernel
theorem dX12_told_1 : decode cX12_told 1 = .ok (.iload_n 2, 1) := by decide +kernel
theorem dX12_told_2 : decode cX12_told 2 = .ok (.invokevirtual 221, 3) := by decide +kernel
theorem dX12_told_5 : decode cX12_told 5 = .ok (.ifCond .eq 13, 3) := by decide +kernel
theorem dX12_told_8 : decode cX12_told 8 = .ok (.aload_n 0, 1) := by decide +kernel
theorem dX12_told_9 : decode cX12_told 9 = .ok (.iload_n 3, 1) := by decide +kernel
theorem dX12_told_10 : decode cX12_told 10 = .ok (.iload 4, 2) := by decide +kernel
theorem dX12_told_12 : decode cX12_told 12 = .ok (.invokevirtual 236, 3) := by decide +kernel
theorem dX12_told_15 : decode cX12_told 15 = .ok (.ifCond .ne 5, 3) := by decide +kernel
theorem dX12_told_18 : decode cX12_told 18 = .ok (.iconst 0, 1) := by decide +kernel
theorem dX12_told_19 : decode cX12_told 19 = .ok (.ireturn, 1) := by decide +kernel
theorem dX12_told_20 : decode cX12_told 20 = .ok (.aload_n 0, 1) := by decide +kernel
theorem dX12_told_21 : decode cX12_told 21 = .ok (.getfield 25, 3) := by decide +kernel
theorem dX12_told_24 : decode cX12_told 24 = .ok (.iconst 3, 1) := by decide +kernel
theorem dX12_told_25 : decode cX12_told 25 = .ok (.aload_n 0, 1) := by decide +kernel
theorem dX12_told_26 : decode cX12_told 26 = .ok (.getfield 240, 3) := by decide +kernel
theorem dX12_told_29 : decode cX12_told 29 = .ok (.imul, 1) := by decide +kernel
theorem dX12_told_30 : decode cX12_told 30 = .ok (.iload_n 1, 1) := by decide +kernel
theorem dX12_told_31 : decode cX12_told 31 = .ok (.iadd, 1) := by decide +kernel
theorem dX12_told_32 : decode cX12_told 32 = .ok (.aload_n 0, 1) := by decide +kernel
theorem dX12_told_33 : decode cX12_told 33 = .ok (.getfield 233, 3) := by decide +kernel
theorem dX12_told_36 : decode cX12_told 36 = .ok (.iastore, 1) := by decide +kernel
theorem dX12_told_37 : decode cX12_told 37 = .ok (.iconst 1, 1) := by decide +kernel
theorem dX12_told_38 : decode cX12_told 38 = .ok (.ireturn, 1) := by decide +kernel
set_option maxHeartbeats 4000000 in
set_option maxRecDepth 100000 in
theorem c_X12_told (l : Launch) (D : va_G) (tys : List (ClassId × FieldType)) (base : Nat) (G : iv_G) (h0 : Nat) (g_h0 : Nat → Int32) (r_h0 : Nat → Nat) (a_h0 : G h0 = some (12, g_h0, r_h0)) (n_g_h0 : iv_R 0 19 (g_h0 14)) (x_0 : Int32) (i_x_0 : iv_R 0 2 x_0) (x_1 : Int32) (i_x_1 : iv_R 7 9 x_1) (x_2 : Int32) (i_x_2 : iv_R (-2147483648) 2147483647 x_2) (x_3 : Int32) (i_x_3 : iv_R (-2147483648) 2147483647 x_3) (hJ : iv_J g_h0) : Met l yX12_told (Cond.code yX12_told cX12_told 5 (some .boolean) :: iv_W0) ({ frames := 10, cells := 0, slots := 0, locals := 212 }) (iv_Pc iv_sh D classes tys base G [.ref h0, .int x_0, .int x_1, .int x_2, .int x_3]) (iv_Qi iv_sh D classes tys base (fun v G' => iv_Md [12, 65] G G' ∧ iv_R 0 1 v ∧ iv_pr 0 0 h0 G G' ∧ (¬ v = 0 → iv_pr 1 0 h0 G G'))) 0 0 (iv_A base) := by
  refine iv_head (by decide) (Nat.le_of_ble_eq_true rfl) ?_
  intro p e s m args below meth c ls X hr hlocks hname hB hl
  have X := X
  have hx := X.1.1
  have hb := X.1.2.1
  have hM : iv_Md [12, 65] G G := iv_Md.rf
  have a_st := a_h0
  have a_lb := a_h0
  have hP : iv_pr 0 0 h0 G G := iv_pr.rf a_h0 hJ
  have hL : iv_pr 0 0 h0 G G := hP
  have hl : lv_has ls 5 [(0, .ref h0), (1, .int x_0), (2, .int x_1), (3, .int x_2), (4, .int x_3)] := hl
  obtain ⟨y14, e_y14⟩ : ∃ x, x = g_h0 14 := ⟨_, rfl⟩
  have i_y14 : iv_R 0 19 y14 := by rw [e_y14]; exact n_g_h0
  refine lv_aload_n hx hb dX12_told_0 rfl (lv_at hl 0 rfl) ?_
  refine lv_iload_n hx hb dX12_told_1 rfl (lv_at hl 2 rfl) ?_
  have a_q1 := a_h0
  have hx_q1 := iv_get64 hB a_h0
  have hs_q1 := iv_s18 hB a_h0
  refine iv_cVi X k_good k_mf_X12_need k_im_X12_need k_sel_X12_need k_ml_X12_221 ft_X12 hB a_h0 sh_12 (As := [.int x_1]) (c_X12_need l D tys base G h0 g_h0 r_h0 a_h0 x_1 (i_x_1.wk (by decide)) (hL.J a_lb a_h0)) ⟨rfl, rfl⟩ ⟨Nat.le_of_ble_eq_true rfl, Nat.le_of_ble_eq_true rfl⟩ ⟨Nat.le_of_ble_eq_true rfl, Nat.le_of_ble_eq_true rfl⟩ rfl rfl hl.1 (Nat.le_of_ble_eq_true rfl) dX12_told_2 (fun x2 G9 H locs hq hB => ?_)
  obtain ⟨hm, i_x2, xp3⟩ := hq
  obtain ⟨G4, hG9⟩ : ∃ g, g = G9 := ⟨_, rfl⟩
  rw [← hG9] at hm hB xp3
  have hM := hM.stp hm (by decide)
  obtain ⟨g5, r6, a_h0, f_g5⟩ := hm.ex a_h0
  have e7 : y14 = g5 14 := e_y14.trans (f_g5.2.1 14 (show (14 : Nat) ∈ iv_stab 12 from by decide)).symm
  have hLp_x2 := hL
  have hL : iv_pr (0) 0 h0 G G4 := (hL.tr xp3.1).wk (by decide)
  refine lv_if_eq (tgt := 18) hx hb dX12_told_5 (by decide) (fun c8 => ?_) (fun c8 => ?_)
  · skip
    have i8_x2 : iv_R 0 0 x2 := (i_x2.cutHi (n := 0) (iv_eq_r c8 q_0).2)
    refine lv_iconst (v := 0) hx hb dX12_told_18 (by decide) ?_
    exact iv_zret X hr hlocks hB (q_0.wk (by decide)) ⟨hM, (q_0.wk (by decide)), ⟨((hP.tr hL).wk (by decide)), fun h => absurd (iv_z q_0) h⟩⟩ dX12_told_19
  · skip
    have i9_x2 : iv_R 1 1 x2 := iv_ne_lo c8 i_x2 q_0 (by decide)
    have hL : iv_pr (1) 0 h0 G G4 := (hLp_x2.tr (xp3.2 c8)).wk (by decide)
    refine lv_aload_n hx hb dX12_told_8 rfl (lv_at hl 0 rfl) ?_
    refine lv_iload_n hx hb dX12_told_9 rfl (lv_at hl 3 rfl) ?_
    refine lv_iload hx hb dX12_told_10 (lv_at hl 4 rfl) ?_
    have a_q11 := a_h0
    have hx_q11 := iv_get64 hB a_h0
    have hs_q11 := iv_s18 hB a_h0
    refine iv_cVi X k_good k_mf_X12_number k_im_X12_number k_sel_X12_number k_ml_X12_236 ft_X12 hB a_h0 sh_12 (As := [.int x_2, .int x_3]) (c_X12_number l D tys base G4 h0 g5 r6 a_h0 x_2 i_x_2 x_3 i_x_3 (hL.J a_lb a_h0)) ⟨rfl, rfl⟩ ⟨Nat.le_of_ble_eq_true rfl, Nat.le_of_ble_eq_true rfl⟩ ⟨Nat.le_of_ble_eq_true rfl, Nat.le_of_ble_eq_true rfl⟩ rfl rfl hl.1 (Nat.le_of_ble_eq_true rfl) dX12_told_12 (fun x12 G9 H locs hq hB => ?_)
    obtain ⟨hm, i_x12, xp13⟩ := hq
    obtain ⟨G14, hG9⟩ : ∃ g, g = G9 := ⟨_, rfl⟩
    rw [← hG9] at hm hB xp13
    have hM := hM.stp hm (by decide)
    obtain ⟨g15, r16, a_h0, f_g15⟩ := hm.ex a_h0
    have e17 : y14 = g15 14 := e7.trans (f_g15.2.1 14 (show (14 : Nat) ∈ iv_stab 12 from by decide)).symm
    have hLp_x12 := hL
    have hL : iv_pr (1) 0 h0 G G14 := (hL.tr xp13.1).wk (by decide)
    refine lv_if_ne (tgt := 20) hx hb dX12_told_15 (by decide) (fun c18 => ?_) (fun c18 => ?_)
    · skip
      have i18_x12 : iv_R 1 1 x12 := iv_ne_lo c18 i_x12 q_0 (by decide)
      have hL : iv_pr (2) 0 h0 G G14 := (hLp_x12.tr (xp13.2 c18)).wk (by decide)
      refine lv_aload_n hx hb dX12_told_20 rfl (lv_at hl 0 rfl) ?_
      refine iv_getr X ft_X12 hB a_h0 sh_12 7 (by decide) rfl k_fl_X12_25 dX12_told_21 (fun b20 g_b20 r_b20 e_b20 a_b20 => ?_)
      refine lv_iconst (v := 3) hx hb dX12_told_24 (by decide) ?_
      refine lv_aload_n hx hb dX12_told_25 rfl (lv_at hl 0 rfl) ?_
      refine iv_geti0 X ft_X12 hB a_h0 sh_12 14 (by decide) rfl k_fl_X12_240 dX12_told_26 e17 ?_
      refine iv_imul hx hb q_3 i_y14 (lo := 0) (hi := 57) (by decide) dX12_told_29 (fun x21 e_x21 i_x21 => ?_)
      refine lv_iload_n hx hb dX12_told_30 rfl (lv_at hl 1 rfl) ?_
      refine iv_iadd hx hb i_x21 i_x_0 (lo := 0) (hi := 59) (by decide) dX12_told_31 (fun x22 e_x22 i_x22 => ?_)
      refine lv_aload_n hx hb dX12_told_32 rfl (lv_at hl 0 rfl) ?_
      refine iv_geti X ft_X12 hB a_h0 sh_12 25 (by decide) rfl k_fl_X12_233 dX12_told_33 (fun x23 e_x23 i_x23 => ?_)
      refine iv_ast X hB a_b20 sh_65 (iv_in i_x22 (by decide)) i_x23 dX12_told_36 (fun H locs hB => ?_)
      have hm := iv_Md.ast (j := x22.toNatClampNeg) (x := x23) a_b20 rfl (by decide)
      have h9 := iv_up_eq (G := G14) (a := b20) (k := (65, upd g_b20 x22.toNatClampNeg x23, r_b20))
      have hL := hL.oth (k := (65, upd g_b20 x22.toNatClampNeg x23, r_b20)) a_b20 rfl (by decide)
      generalize iv_up G14 b20 _ = G24 at hB hm h9 hL
      have hM := hM.stp hm (by decide)
      have a_h0 := hm.at a_h0 (by decide)
      refine lv_iconst (v := 1) hx hb dX12_told_37 (by decide) ?_
      exact iv_zret X hr hlocks hB (q_1.wk (by decide)) ⟨hM, (q_1.wk (by decide)), ⟨((hP.tr hL).wk (by decide)), fun _ => (hP.tr hL).wk (by decide)⟩⟩ dX12_told_38
    · skip
      have i25_x12 : iv_R 0 0 x12 := (i_x12.cutHi (n := 0) (iv_eq_r c18 q_0).2)
      refine lv_iconst (v := 0) hx hb dX12_told_18 (by decide) ?_
      exact iv_zret X hr hlocks hB (q_0.wk (by decide)) ⟨hM, (q_0.wk (by decide)), ⟨((hP.tr hL).wk (by decide)), fun h => absurd (iv_z q_0) h⟩⟩ dX12_told_19
theorem dX12_aRing_0 : decode cX12_aRing 0 = .ok (.aload_n 0, 1) := by decide +kernel
theorem dX12_aRing_1 : decode cX12_aRing 1 = .ok (.getfield 165, 3) := by decide +kernel
theorem dX12_aRing_4 : decode cX12_aRing 4 = .ok (.bipush 7, 2) := by decide +kernel
theorem dX12_aRing_6 : decode cX12_aRing 6 = .ok (.if_icmp .eq 9, 3) := by decide +kernel
theorem dX12_aRing_9 : decode cX12_aRing 9 = .ok (.aload_n 0, 1) := by decide +kernel
theorem dX12_aRing_10 : decode cX12_aRing 10 = .ok (.iconst 1, 1) := by decide +kernel
theorem dX12_aRing_11 : decode cX12_aRing 11 = .ok (.invokevirtual 186, 3) := by decide +kernel
theorem dX12_aRing_14 : decode cX12_aRing 14 = .ok (.ireturn, 1) := by decide +kernel
theorem dX12_aRing_15 : decode cX12_aRing 15 = .ok (.aload_n 0, 1) := by decide +kernel
theorem dX12_aRing_16 : decode cX12_aRing 16 = .ok (.getfield 240, 3) := by decide +kernel
theorem dX12_aRing_19 : decode cX12_aRing 19 = .ok (.bipush 20, 2) := by decide +kernel
theorem dX12_aRing_21 : decode cX12_aRing 21 = .ok (.if_icmp .ne 9, 3) := by decide +kernel
theorem dX12_aRing_24 : decode cX12_aRing 24 = .ok (.aload_n 0, 1) := by decide +kernel
theorem dX12_aRing_25 : decode cX12_aRing 25 = .ok (.iconst 3, 1) := by decide +kernel
theorem dX12_aRing_26 : decode cX12_aRing 26 = .ok (.invokevirtual 186, 3) := by decide +kernel
theorem dX12_aRing_29 : decode cX12_aRing 29 = .ok (.ireturn, 1) := by decide +kernel
theorem dX12_aRing_30 : decode cX12_aRing 30 = .ok (.aload_n 0, 1) := by decide +kernel
theorem dX12_aRing_31 : decode cX12_aRing 31 = .ok (.iconst 0, 1) := by decide +kernel
theorem dX12_aRing_32 : decode cX12_aRing 32 = .ok (.bipush 7, 2) := by decide +kernel
theorem dX12_aRing_34 : decode cX12_aRing 34 = .ok (.iconst 0, 1) := by decide +kernel
theorem dX12_aRing_35 : decode cX12_aRing 35 = .ok (.aload_n 0, 1) := by decide +kernel
theorem dX12_aRing_36 : decode cX12_aRing 36 = .ok (.getfield 7, 3) := by decide +kernel
theorem dX12_aRing_39 : decode cX12_aRing 39 = .ok (.sipush 146, 3) := by decide +kernel
theorem dX12_aRing_42 : decode cX12_aRing 42 = .ok (.iaload, 1) := by decide +kernel
theorem dX12_aRing_43 : decode cX12_aRing 43 = .ok (.iconst 1, 1) := by decide +kernel
theorem dX12_aRing_44 : decode cX12_aRing 44 = .ok (.isub, 1) := by decide +kernel
theorem dX12_aRing_45 : decode cX12_aRing 45 = .ok (.invokevirtual 243, 3) := by decide +kernel
theorem dX12_aRing_48 : decode cX12_aRing 48 = .ok (.ifCond .eq 29, 3) := by decide +kernel
theorem dX12_aRing_51 : decode cX12_aRing 51 = .ok (.aload_n 0, 1) := by decide +kernel
theorem dX12_aRing_52 : decode cX12_aRing 52 = .ok (.iconst 1, 1) := by decide +kernel
theorem dX12_aRing_53 : decode cX12_aRing 53 = .ok (.bipush 8, 2) := by decide +kernel
theorem dX12_aRing_55 : decode cX12_aRing 55 = .ok (.iconst 0, 1) := by decide +kernel
theorem dX12_aRing_56 : decode cX12_aRing 56 = .ok (.bipush 23, 2) := by decide +kernel
theorem dX12_aRing_58 : decode cX12_aRing 58 = .ok (.invokevirtual 243, 3) := by decide +kernel
theorem dX12_aRing_61 : decode cX12_aRing 61 = .ok (.ifCond .eq 16, 3) := by decide +kernel
theorem dX12_aRing_64 : decode cX12_aRing 64 = .ok (.aload_n 0, 1) := by decide +kernel
theorem dX12_aRing_65 : decode cX12_aRing 65 = .ok (.iconst 2, 1) := by decide +kernel
theorem dX12_aRing_66 : decode cX12_aRing 66 = .ok (.bipush 9, 2) := by decide +kernel
theorem dX12_aRing_68 : decode cX12_aRing 68 = .ok (.iconst 1, 1) := by decide +kernel
theorem dX12_aRing_69 : decode cX12_aRing 69 = .ok (.bipush 24, 2) := by decide +kernel
theorem dX12_aRing_71 : decode cX12_aRing 71 = .ok (.invokevirtual 243, 3) := by decide +kernel
theorem dX12_aRing_74 : decode cX12_aRing 74 = .ok (.ifCond .ne 5, 3) := by decide +kernel
theorem dX12_aRing_77 : decode cX12_aRing 77 = .ok (.iconst 0, 1) := by decide +kernel
theorem dX12_aRing_78 : decode cX12_aRing 78 = .ok (.ireturn, 1) := by decide +kernel
theorem dX12_aRing_79 : decode cX12_aRing 79 = .ok (.aload_n 0, 1) := by decide +kernel
theorem dX12_aRing_80 : decode cX12_aRing 80 = .ok (.dup, 1) := by decide +kernel
theorem dX12_aRing_81 : decode cX12_aRing 81 = .ok (.getfield 240, 3) := by decide +kernel
theorem dX12_aRing_84 : decode cX12_aRing 84 = .ok (.iconst 1, 1) := by decide +kernel
theorem dX12_aRing_85 : decode cX12_aRing 85 = .ok (.iadd, 1) := by decide +kernel
theorem dX12_aRing_86 : decode cX12_aRing 86 = .ok (.putfield 240, 3) := by decide +kernel
theorem dX12_aRing_89 : decode cX12_aRing 89 = .ok (.aload_n 0, 1) := by decide +kernel
theorem dX12_aRing_90 : decode cX12_aRing 90 = .ok (.sipush 159, 3) := by decide +kernel
theorem dX12_aRing_93 : decode cX12_aRing 93 = .ok (.invokevirtual 221, 3) := by decide +kernel
theorem dX12_aRing_96 : decode cX12_aRing 96 = .ok (.ireturn, 1) := by decide +kernel
set_option maxHeartbeats 4000000 in
set_option maxRecDepth 100000 in
theorem c_X12_aRing (l : Launch) (D : va_G) (tys : List (ClassId × FieldType)) (base : Nat) (G : iv_G) (h0 : Nat) (g_h0 : Nat → Int32) (r_h0 : Nat → Nat) (a_h0 : G h0 = some (12, g_h0, r_h0)) (hJ : iv_J g_h0) : Met l yX12_aRing (Cond.code yX12_aRing cX12_aRing 1 (some .boolean) :: iv_W0) ({ frames := 11, cells := 0, slots := 0, locals := 236 }) (iv_Pc iv_sh D classes tys base G [.ref h0]) (iv_Qi iv_sh D classes tys base (fun v G' => iv_MdT [12, 65] G G' ∧ iv_R 0 1 v ∧ iv_pv 0 h0 G G' ∧ (¬ v = 0 → iv_pv 1 h0 G G'))) 0 0 (iv_A base) := by
  refine iv_head (by decide) (Nat.le_of_ble_eq_true rfl) ?_
  intro p e s m args below meth c ls X hr hlocks hname hB hl
  have X := X
  have hx := X.1.1
  have hb := X.1.2.1
  have hM : iv_MdT [12, 65] G G := iv_MdT.rf
  have a_st := a_h0
  have a_lb := a_h0
  have hP : iv_pr 0 0 h0 G G := iv_pr.rf a_h0 hJ
  have hL : iv_pr 0 0 h0 G G := hP
  have hl : lv_has ls 1 [(0, .ref h0)] := hl
  refine lv_aload_n hx hb dX12_aRing_0 rfl (lv_at hl 0 rfl) ?_
  refine iv_geti X ft_X12 hB a_h0 sh_12 17 (by decide) rfl k_fl_X12_165 dX12_aRing_1 (fun x1 e_x1 i_x1 => ?_)
  refine lv_bipush (v := 7) hx hb dX12_aRing_4 (by decide) ?_
  refine lv_icmp_eq (tgt := 15) hx hb dX12_aRing_6 (by decide) (fun c2 => ?_) (fun c2 => ?_)
  · skip
    have i2_x1 : iv_R 7 7 x1 := ((i_x1.cutLo (n := 7) (iv_eq_r c2 q_7).1).cutHi (n := 7) (iv_eq_r c2 q_7).2)
    refine lv_aload_n hx hb dX12_aRing_15 rfl (lv_at hl 0 rfl) ?_
    refine iv_geti X ft_X12 hB a_h0 sh_12 14 (by decide) rfl k_fl_X12_240 dX12_aRing_16 (fun x4 e_x4 i_x4 => ?_)
    refine lv_bipush (v := 20) hx hb dX12_aRing_19 (by decide) ?_
    refine lv_icmp_ne (tgt := 30) hx hb dX12_aRing_21 (by decide) (fun c5 => ?_) (fun c5 => ?_)
    · skip
      have i5_x4 : iv_R 0 19 x4 := iv_ne_hi c5 i_x4 q_20 (by decide)
      refine lv_aload_n hx hb dX12_aRing_30 rfl (lv_at hl 0 rfl) ?_
      refine lv_iconst (v := 0) hx hb dX12_aRing_31 (by decide) ?_
      refine lv_bipush (v := 7) hx hb dX12_aRing_32 (by decide) ?_
      refine lv_iconst (v := 0) hx hb dX12_aRing_34 (by decide) ?_
      refine lv_aload_n hx hb dX12_aRing_35 rfl (lv_at hl 0 rfl) ?_
      refine iv_getr X ft_X12 hB a_h0 sh_12 0 (by decide) rfl k_fl_X12_7 dX12_aRing_36 (fun b7 g_b7 r_b7 e_b7 a_b7 => ?_)
      refine lv_sipush (v := 146) hx hb dX12_aRing_39 (by decide) ?_
      refine iv_wald_c X hB a_b7 q_146 (by decide) (lo := 0) (hi' := 10) (by decide) dX12_aRing_42 (fun x8 e_x8 i_x8 => ?_)
      refine lv_iconst (v := 1) hx hb dX12_aRing_43 (by decide) ?_
      refine iv_isub hx hb i_x8 q_1 (lo := (-1)) (hi := 9) (by decide) dX12_aRing_44 (fun x9 e_x9 i_x9 => ?_)
      have a_q10 := a_h0
      have hx_q10 := iv_get64 hB a_h0
      have hs_q10 := iv_s18 hB a_h0
      refine iv_cVi X k_good k_mf_X12_told k_im_X12_told k_sel_X12_told k_ml_X12_243 ft_X12 hB a_h0 sh_12 (As := [.int 0, .int 7, .int 0, .int x9]) (c_X12_told l D tys base G h0 g_h0 r_h0 a_h0 (by rw [← e_x4]; exact i5_x4) 0 (q_0.wk (by decide)) 7 (q_7.wk (by decide)) 0 (q_0.wk (by decide)) x9 (i_x9.wk (by decide)) (hL.J a_lb a_h0)) ⟨rfl, rfl⟩ ⟨Nat.le_of_ble_eq_true rfl, Nat.le_of_ble_eq_true rfl⟩ ⟨Nat.le_of_ble_eq_true rfl, Nat.le_of_ble_eq_true rfl⟩ rfl rfl hl.1 (Nat.le_of_ble_eq_true rfl) dX12_aRing_45 (fun x11 G9 H locs hq hB => ?_)
      obtain ⟨hm, i_x11, xp12⟩ := hq
      obtain ⟨G13, hG9⟩ : ∃ g, g = G9 := ⟨_, rfl⟩
      rw [← hG9] at hm hB xp12
      have hM := hM.stp (iv_MdT.of hm) (by decide)
      obtain ⟨g14, r15, a_h0, f_g14⟩ := hm.ex a_h0
      have e16 : x4 = g14 14 := e_x4.trans (f_g14.2.1 14 (show (14 : Nat) ∈ iv_stab 12 from by decide)).symm
      have e17 : b7 = r15 0 := e_b7.trans (f_g14.1 0 (fun h => absurd (show (12 : Nat) = 5 from h) (by decide))).symm
      have a_b7 := hm.at a_b7 (by decide)
      have hLp_x11 := hL
      have hL : iv_pr (0) 0 h0 G G13 := (hL.tr xp12.1).wk (by decide)
      refine lv_if_eq (tgt := 77) hx hb dX12_aRing_48 (by decide) (fun c18 => ?_) (fun c18 => ?_)
      · skip
        have i18_x11 : iv_R 0 0 x11 := (i_x11.cutHi (n := 0) (iv_eq_r c18 q_0).2)
        refine lv_iconst (v := 0) hx hb dX12_aRing_77 (by decide) ?_
        exact iv_zret X hr hlocks hB (q_0.wk (by decide)) ⟨hM, (q_0.wk (by decide)), ⟨(((hP.tr hL).wk (d' := 0) (n' := 0) (by decide)).pv), fun h => absurd (iv_z q_0) h⟩⟩ dX12_aRing_78
      · skip
        have i19_x11 : iv_R 1 1 x11 := iv_ne_lo c18 i_x11 q_0 (by decide)
        have hL : iv_pr (1) 0 h0 G G13 := (hLp_x11.tr (xp12.2 c18)).wk (by decide)
        refine lv_aload_n hx hb dX12_aRing_51 rfl (lv_at hl 0 rfl) ?_
        refine lv_iconst (v := 1) hx hb dX12_aRing_52 (by decide) ?_
        refine lv_bipush (v := 8) hx hb dX12_aRing_53 (by decide) ?_
        refine lv_iconst (v := 0) hx hb dX12_aRing_55 (by decide) ?_
        refine lv_bipush (v := 23) hx hb dX12_aRing_56 (by decide) ?_
        have a_q21 := a_h0
        have hx_q21 := iv_get64 hB a_h0
        have hs_q21 := iv_s18 hB a_h0
        refine iv_cVi X k_good k_mf_X12_told k_im_X12_told k_sel_X12_told k_ml_X12_243 ft_X12 hB a_h0 sh_12 (As := [.int 1, .int 8, .int 0, .int 23]) (c_X12_told l D tys base G13 h0 g14 r15 a_h0 (by rw [← e16]; exact i5_x4) 1 (q_1.wk (by decide)) 8 (q_8.wk (by decide)) 0 (q_0.wk (by decide)) 23 (q_23.wk (by decide)) (hL.J a_lb a_h0)) ⟨rfl, rfl⟩ ⟨Nat.le_of_ble_eq_true rfl, Nat.le_of_ble_eq_true rfl⟩ ⟨Nat.le_of_ble_eq_true rfl, Nat.le_of_ble_eq_true rfl⟩ rfl rfl hl.1 (Nat.le_of_ble_eq_true rfl) dX12_aRing_58 (fun x22 G9 H locs hq hB => ?_)
        obtain ⟨hm, i_x22, xp23⟩ := hq
        obtain ⟨G24, hG9⟩ : ∃ g, g = G9 := ⟨_, rfl⟩
        rw [← hG9] at hm hB xp23
        have hM := hM.stp (iv_MdT.of hm) (by decide)
        obtain ⟨g25, r26, a_h0, f_g25⟩ := hm.ex a_h0
        have e27 : x4 = g25 14 := e16.trans (f_g25.2.1 14 (show (14 : Nat) ∈ iv_stab 12 from by decide)).symm
        have e28 : b7 = r26 0 := e17.trans (f_g25.1 0 (fun h => absurd (show (12 : Nat) = 5 from h) (by decide))).symm
        have a_b7 := hm.at a_b7 (by decide)
        have hLp_x22 := hL
        have hL : iv_pr (1) 0 h0 G G24 := (hL.tr xp23.1).wk (by decide)
        refine lv_if_eq (tgt := 77) hx hb dX12_aRing_61 (by decide) (fun c29 => ?_) (fun c29 => ?_)
        · skip
          have i29_x22 : iv_R 0 0 x22 := (i_x22.cutHi (n := 0) (iv_eq_r c29 q_0).2)
          refine lv_iconst (v := 0) hx hb dX12_aRing_77 (by decide) ?_
          exact iv_zret X hr hlocks hB (q_0.wk (by decide)) ⟨hM, (q_0.wk (by decide)), ⟨(((hP.tr hL).wk (d' := 0) (n' := 0) (by decide)).pv), fun h => absurd (iv_z q_0) h⟩⟩ dX12_aRing_78
        · skip
          have i30_x22 : iv_R 1 1 x22 := iv_ne_lo c29 i_x22 q_0 (by decide)
          have hL : iv_pr (2) 0 h0 G G24 := (hLp_x22.tr (xp23.2 c29)).wk (by decide)
          refine lv_aload_n hx hb dX12_aRing_64 rfl (lv_at hl 0 rfl) ?_
          refine lv_iconst (v := 2) hx hb dX12_aRing_65 (by decide) ?_
          refine lv_bipush (v := 9) hx hb dX12_aRing_66 (by decide) ?_
          refine lv_iconst (v := 1) hx hb dX12_aRing_68 (by decide) ?_
          refine lv_bipush (v := 24) hx hb dX12_aRing_69 (by decide) ?_
          have a_q32 := a_h0
          have hx_q32 := iv_get64 hB a_h0
          have hs_q32 := iv_s18 hB a_h0
          refine iv_cVi X k_good k_mf_X12_told k_im_X12_told k_sel_X12_told k_ml_X12_243 ft_X12 hB a_h0 sh_12 (As := [.int 2, .int 9, .int 1, .int 24]) (c_X12_told l D tys base G24 h0 g25 r26 a_h0 (by rw [← e27]; exact i5_x4) 2 (q_2.wk (by decide)) 9 (q_9.wk (by decide)) 1 (q_1.wk (by decide)) 24 (q_24.wk (by decide)) (hL.J a_lb a_h0)) ⟨rfl, rfl⟩ ⟨Nat.le_of_ble_eq_true rfl, Nat.le_of_ble_eq_true rfl⟩ ⟨Nat.le_of_ble_eq_true rfl, Nat.le_of_ble_eq_true rfl⟩ rfl rfl hl.1 (Nat.le_of_ble_eq_true rfl) dX12_aRing_71 (fun x33 G9 H locs hq hB => ?_)
          obtain ⟨hm, i_x33, xp34⟩ := hq
          obtain ⟨G35, hG9⟩ : ∃ g, g = G9 := ⟨_, rfl⟩
          rw [← hG9] at hm hB xp34
          have hM := hM.stp (iv_MdT.of hm) (by decide)
          obtain ⟨g36, r37, a_h0, f_g36⟩ := hm.ex a_h0
          have e38 : x4 = g36 14 := e27.trans (f_g36.2.1 14 (show (14 : Nat) ∈ iv_stab 12 from by decide)).symm
          have e39 : b7 = r37 0 := e28.trans (f_g36.1 0 (fun h => absurd (show (12 : Nat) = 5 from h) (by decide))).symm
          have a_b7 := hm.at a_b7 (by decide)
          have hLp_x33 := hL
          have hL : iv_pr (2) 0 h0 G G35 := (hL.tr xp34.1).wk (by decide)
          refine lv_if_ne (tgt := 79) hx hb dX12_aRing_74 (by decide) (fun c40 => ?_) (fun c40 => ?_)
          · skip
            have i40_x33 : iv_R 1 1 x33 := iv_ne_lo c40 i_x33 q_0 (by decide)
            have hL : iv_pr (3) 0 h0 G G35 := (hLp_x33.tr (xp34.2 c40)).wk (by decide)
            refine lv_aload_n hx hb dX12_aRing_79 rfl (lv_at hl 0 rfl) ?_
            refine lv_dup hx hb dX12_aRing_80 rfl ?_
            refine iv_geti0 X ft_X12 hB a_h0 sh_12 14 (by decide) rfl k_fl_X12_240 dX12_aRing_81 e38 ?_
            refine lv_iconst (v := 1) hx hb dX12_aRing_84 (by decide) ?_
            refine iv_iadd hx hb i5_x4 q_1 (lo := 1) (hi := 20) (by decide) dX12_aRing_85 (fun x42 e_x42 i_x42 => ?_)
            refine iv_puti X ft_X12 hB a_h0 sh_12 14 (by decide) rfl rfl k_fl_X12_240 rfl (i_x42.wk (by decide)) rfl rfl dX12_aRing_86 (fun H locs hB => ?_)
            have hm := iv_MdT.put (x := x42) a_h0 (j := 14) (by decide)
            have h9 := iv_up_eq (G := G35) (a := h0) (k := (12, upd g36 14 x42, r37))
            have hV := ((hP.tr hL).pv).put14 (x := x42) a_h0
            generalize iv_up G35 h0 _ = G43 at hB hm h9 hV
            have hM := hM.stp hm (by decide)
            generalize hgn_g44 : upd g36 _ _ = g44 at h9
            have a_h0 := h9
            have e9_g44 : x42 = g44 14 := by rw [← hgn_g44]; simp [upd]
            have a_lb := a_h0
            have hL : iv_pr 0 0 h0 G43 G43 := iv_pr.rf a_h0 (hV.J a_st a_h0)
            refine lv_aload_n hx hb dX12_aRing_89 rfl (lv_at hl 0 rfl) ?_
            refine lv_sipush (v := 159) hx hb dX12_aRing_90 (by decide) ?_
            have a_q45 := a_h0
            have hx_q45 := iv_get64 hB a_h0
            have hs_q45 := iv_s18 hB a_h0
            refine iv_cVi X k_good k_mf_X12_need k_im_X12_need k_sel_X12_need k_ml_X12_221 ft_X12 hB a_h0 sh_12 (As := [.int 159]) (c_X12_need l D tys base G43 h0 g44 r37 a_h0 159 (q_159.wk (by decide)) (hL.J a_lb a_h0)) ⟨rfl, rfl⟩ ⟨Nat.le_of_ble_eq_true rfl, Nat.le_of_ble_eq_true rfl⟩ ⟨Nat.le_of_ble_eq_true rfl, Nat.le_of_ble_eq_true rfl⟩ rfl rfl hl.1 (Nat.le_of_ble_eq_true rfl) dX12_aRing_93 (fun x46 G9 H locs hq hB => ?_)
            obtain ⟨hm, i_x46, xp47⟩ := hq
            obtain ⟨G48, hG9⟩ : ∃ g, g = G9 := ⟨_, rfl⟩
            rw [← hG9] at hm hB xp47
            have hM := hM.stp (iv_MdT.of hm) (by decide)
            obtain ⟨g49, r50, a_h0, f_g49⟩ := hm.ex a_h0
            have e51 : x42 = g49 14 := e9_g44.trans (f_g49.2.1 14 (show (14 : Nat) ∈ iv_stab 12 from by decide)).symm
            have e52 : b7 = r50 0 := e39.trans (f_g49.1 0 (fun h => absurd (show (12 : Nat) = 5 from h) (by decide))).symm
            have hLp_x46 := hL
            have hL : iv_pr (0) 0 h0 G43 G48 := (hL.tr xp47.1).wk (by decide)
            exact iv_zret X hr hlocks hB i_x46 ⟨hM, i_x46, ⟨(hV.tr hL.pv).wk (by decide), fun _ => (hV.tr hL.pv).wk (by decide)⟩⟩ dX12_aRing_96
          · skip
            have i52_x33 : iv_R 0 0 x33 := (i_x33.cutHi (n := 0) (iv_eq_r c40 q_0).2)
            refine lv_iconst (v := 0) hx hb dX12_aRing_77 (by decide) ?_
            exact iv_zret X hr hlocks hB (q_0.wk (by decide)) ⟨hM, (q_0.wk (by decide)), ⟨(((hP.tr hL).wk (d' := 0) (n' := 0) (by decide)).pv), fun h => absurd (iv_z q_0) h⟩⟩ dX12_aRing_78
    · skip
      have i53_x4 : iv_R 20 20 x4 := (i_x4.cutLo (n := 20) (iv_eq_r c5 q_20).1)
      refine lv_aload_n hx hb dX12_aRing_24 rfl (lv_at hl 0 rfl) ?_
      refine lv_iconst (v := 3) hx hb dX12_aRing_25 (by decide) ?_
      have a_q55 := a_h0
      have hx_q55 := iv_get64 hB a_h0
      have hs_q55 := iv_s18 hB a_h0
      refine iv_cVi X k_good k_mf_X12_bad k_im_X12_bad k_sel_X12_bad k_ml_X12_186 ft_X12 hB a_h0 sh_12 (As := [.int 3]) (c_X12_bad l D tys base G h0 g_h0 r_h0 a_h0 3 (q_3.wk (by decide)) (hL.J a_lb a_h0)) ⟨rfl, rfl⟩ ⟨Nat.le_of_ble_eq_true rfl, Nat.le_of_ble_eq_true rfl⟩ ⟨Nat.le_of_ble_eq_true rfl, Nat.le_of_ble_eq_true rfl⟩ rfl rfl hl.1 (Nat.le_of_ble_eq_true rfl) dX12_aRing_26 (fun x56 G9 H locs hq hB => ?_)
      obtain ⟨hm, i_x56, xp57⟩ := hq
      obtain ⟨G58, hG9⟩ : ∃ g, g = G9 := ⟨_, rfl⟩
      rw [← hG9] at hm hB xp57
      have hM := hM.stp (iv_MdT.of hm) (by decide)
      obtain ⟨g59, r60, a_h0, f_g59⟩ := hm.ex a_h0
      have e61 : x4 = g59 14 := e_x4.trans (f_g59.2.1 14 (show (14 : Nat) ∈ iv_stab 12 from by decide)).symm
      have hL : iv_pr (0) 0 h0 G G58 := (hL.tr xp57).wk (by decide)
      exact iv_zret X hr hlocks hB (i_x56.wk (by decide)) ⟨hM, (i_x56.wk (by decide)), ⟨(((hP.tr hL).wk (d' := 0) (n' := 0) (by decide)).pv), fun h => absurd (iv_z i_x56) h⟩⟩ dX12_aRing_29
  · skip
    refine lv_aload_n hx hb dX12_aRing_9 rfl (lv_at hl 0 rfl) ?_
    refine lv_iconst (v := 1) hx hb dX12_aRing_10 (by decide) ?_
    have a_q62 := a_h0
    have hx_q62 := iv_get64 hB a_h0
    have hs_q62 := iv_s18 hB a_h0
    refine iv_cVi X k_good k_mf_X12_bad k_im_X12_bad k_sel_X12_bad k_ml_X12_186 ft_X12 hB a_h0 sh_12 (As := [.int 1]) (c_X12_bad l D tys base G h0 g_h0 r_h0 a_h0 1 (q_1.wk (by decide)) (hL.J a_lb a_h0)) ⟨rfl, rfl⟩ ⟨Nat.le_of_ble_eq_true rfl, Nat.le_of_ble_eq_true rfl⟩ ⟨Nat.le_of_ble_eq_true rfl, Nat.le_of_ble_eq_true rfl⟩ rfl rfl hl.1 (Nat.le_of_ble_eq_true rfl) dX12_aRing_11 (fun x63 G9 H locs hq hB => ?_)
    obtain ⟨hm, i_x63, xp64⟩ := hq
    obtain ⟨G65, hG9⟩ : ∃ g, g = G9 := ⟨_, rfl⟩
    rw [← hG9] at hm hB xp64
    have hM := hM.stp (iv_MdT.of hm) (by decide)
    obtain ⟨g66, r67, a_h0, f_g66⟩ := hm.ex a_h0
    have hL : iv_pr (0) 0 h0 G G65 := (hL.tr xp64).wk (by decide)
    exact iv_zret X hr hlocks hB (i_x63.wk (by decide)) ⟨hM, (i_x63.wk (by decide)), ⟨(((hP.tr hL).wk (d' := 0) (n' := 0) (by decide)).pv), fun h => absurd (iv_z i_x63) h⟩⟩ dX12_aRing_14
theorem dX12_putsRings_0 : decode cX12_putsRings 0 = .ok (.aload_n 0, 1) := by decide +kernel
theorem dX12_putsRings_1 : decode cX12_putsRings 1 = .ok (.getfield 7, 3) := by decide +kernel
theorem dX12_putsRings_4 : decode cX12_putsRings 4 = .ok (.sipush 149, 3) := by decide +kernel
theorem dX12_putsRings_7 : decode cX12_putsRings 7 = .ok (.aload_n 0, 1) := by decide +kernel
theorem dX12_putsRings_8 : decode cX12_putsRings 8 = .ok (.getfield 240, 3) := by decide +kernel
theorem dX12_putsRings_11 : decode cX12_putsRings 11 = .ok (.iastore, 1) := by decide +kernel
theorem dX12_putsRings_12 : decode cX12_putsRings 12 = .ok (.iconst 0, 1) := by decide +kernel
theorem dX12_putsRings_13 : decode cX12_putsRings 13 = .ok (.istore_n 1, 1) := by decide +kernel
theorem dX12_putsRings_14 : decode cX12_putsRings 14 = .ok (.iload_n 1, 1) := by decide +kernel
theorem dX12_putsRings_15 : decode cX12_putsRings 15 = .ok (.iconst 3, 1) := by decide +kernel
theorem dX12_putsRings_16 : decode cX12_putsRings 16 = .ok (.aload_n 0, 1) := by decide +kernel
theorem dX12_putsRings_17 : decode cX12_putsRings 17 = .ok (.getfield 240, 3) := by decide +kernel
theorem dX12_putsRings_20 : decode cX12_putsRings 20 = .ok (.imul, 1) := by decide +kernel
theorem dX12_putsRings_21 : decode cX12_putsRings 21 = .ok (.if_icmp .ge 25, 3) := by decide +kernel
theorem dX12_putsRings_24 : decode cX12_putsRings 24 = .ok (.aload_n 0, 1) := by decide +kernel
theorem dX12_putsRings_25 : decode cX12_putsRings 25 = .ok (.getfield 7, 3) := by decide +kernel
theorem dX12_putsRings_28 : decode cX12_putsRings 28 = .ok (.sipush 206, 3) := by decide +kernel
theorem dX12_putsRings_31 : decode cX12_putsRings 31 = .ok (.iload_n 1, 1) := by decide +kernel
theorem dX12_putsRings_32 : decode cX12_putsRings 32 = .ok (.iadd, 1) := by decide +kernel
theorem dX12_putsRings_33 : decode cX12_putsRings 33 = .ok (.aload_n 0, 1) := by decide +kernel
theorem dX12_putsRings_34 : decode cX12_putsRings 34 = .ok (.getfield 25, 3) := by decide +kernel
theorem dX12_putsRings_37 : decode cX12_putsRings 37 = .ok (.iload_n 1, 1) := by decide +kernel
theorem dX12_putsRings_38 : decode cX12_putsRings 38 = .ok (.iaload, 1) := by decide +kernel
theorem dX12_putsRings_39 : decode cX12_putsRings 39 = .ok (.iastore, 1) := by decide +kernel
theorem dX12_putsRings_40 : decode cX12_putsRings 40 = .ok (.iinc 1 1, 3) := by decide +kernel
theorem dX12_putsRings_43 : decode cX12_putsRings 43 = .ok (.goto (-29), 3) := by decide +kernel
theorem dX12_putsRings_46 : decode cX12_putsRings 46 = .ok (.aload_n 0, 1) := by decide +kernel
theorem dX12_putsRings_47 : decode cX12_putsRings 47 = .ok (.invokevirtual 63, 3) := by decide +kernel
theorem dX12_putsRings_50 : decode cX12_putsRings 50 = .ok (.aload_n 0, 1) := by decide +kernel
theorem dX12_putsRings_51 : decode cX12_putsRings 51 = .ok (.getfield 240, 3) := by decide +kernel
theorem dX12_putsRings_54 : decode cX12_putsRings 54 = .ok (.ireturn, 1) := by decide +kernel
set_option maxHeartbeats 4000000 in
set_option maxRecDepth 100000 in
theorem c_X12_putsRings (l : Launch) (D : va_G) (tys : List (ClassId × FieldType)) (base : Nat) (G : iv_G) (h0 : Nat) (g_h0 : Nat → Int32) (r_h0 : Nat → Nat) (a_h0 : G h0 = some (12, g_h0, r_h0)) : Met l yX12_putsRings (Cond.code yX12_putsRings cX12_putsRings 2 (some .int) :: iv_W0) ({ frames := 1, cells := 0, slots := 0, locals := 20 }) (iv_Pc iv_sh D classes tys base G [.ref h0]) (iv_Qi iv_sh D classes tys base (fun v G' => iv_Md [12, 60] G G' ∧ iv_R 0 20 v)) 0 0 (iv_A base) := by
  refine iv_head (by decide) (Nat.le_of_ble_eq_true rfl) ?_
  intro p e s m args below meth c ls X hr hlocks hname hB hl
  have X := X
  have hx := X.1.1
  have hb := X.1.2.1
  have hM : iv_Md [12, 60] G G := iv_Md.rf
  have hl : lv_has ls 2 [(0, .ref h0)] := hl
  refine lv_aload_n hx hb dX12_putsRings_0 rfl (lv_at hl 0 rfl) ?_
  refine iv_getr X ft_X12 hB a_h0 sh_12 0 (by decide) rfl k_fl_X12_7 dX12_putsRings_1 (fun b1 g_b1 r_b1 e_b1 a_b1 => ?_)
  refine lv_sipush (v := 149) hx hb dX12_putsRings_4 (by decide) ?_
  refine lv_aload_n hx hb dX12_putsRings_7 rfl (lv_at hl 0 rfl) ?_
  refine iv_geti X ft_X12 hB a_h0 sh_12 14 (by decide) rfl k_fl_X12_240 dX12_putsRings_8 (fun x2 e_x2 i_x2 => ?_)
  refine iv_wast_c X hB a_b1 q_149 (by decide) (lo := 0) (hi' := 20) (by decide) i_x2 dX12_putsRings_11 (fun H locs hB => ?_)
  have hB : iv_B iv_sh D classes tys base (iv_up G b1 (60, upd g_b1 149 x2, r_b1)) s.heap H locs := hB
  have hm := iv_Md.put (x := x2) a_b1 (j := 149) (by decide) (fun h => absurd h (by decide))
  have h9 := iv_up_eq (G := G) (a := b1) (k := (60, upd g_b1 149 x2, r_b1))
  generalize iv_up G b1 _ = G3 at hB hm h9
  have hM := hM.stp hm (by decide)
  generalize hgn_g4 : upd g_b1 _ _ = g4 at h9
  have a_h0 := hm.at a_h0 (by decide)
  have a_b1 := h9
  have e5 : x2 = g4 149 := by rw [← hgn_g4]; simp [upd]
  refine lv_iconst (v := 0) hx hb dX12_putsRings_12 (by decide) ?_
  refine lv_istore_n (lv' := [(1, .int 0), (0, .ref h0)]) hx hb dX12_putsRings_13 rfl hl (by decide) rfl (fun ls hl => ?_)
  have L_14 : ∀ (n_14 : Nat) (G9 : iv_G) (hM : iv_Md [12, 60] G G9) (H : Heap) (locs : List Loc) (hB : iv_B iv_sh D classes tys base G9 s.heap H locs) (g7 : Nat → Int32) (r8 : Nat → Nat) (a_h0 : G9 h0 = some (12, g7, r8)) (x6 : Int32) (i_x6 : iv_R 0 60 x6) (hn_14 : (61 - x6.toInt).toNat < n_14) (ls : Array Slot) (hl : lv_has ls 2 [(1, .int x6), (0, .ref h0)]), W p l e ({ frames := 1, cells := 0, slots := 0, locals := 20 } : Room) s m args below meth c H locs 0 0 (MQ below (iv_Qi iv_sh D classes tys base (fun v G' => iv_Md [12, 60] G G' ∧ iv_R 0 20 v)) args s 0 0 (iv_A base)) (F0 m 14 ls []) := by
    intro n_14
    induction n_14 with
    | zero => intro G9 hM H locs hB g7 r8 a_h0 x6 i_x6 hn_14 ls hl; exact absurd hn_14 (Nat.not_lt_zero _)
    | succ n_14 ih_14 =>
      intro G9 hM H locs hB g7 r8 a_h0 x6 i_x6 hn_14 ls hl
      refine lv_iload_n hx hb dX12_putsRings_14 rfl (lv_at hl 0 rfl) ?_
      refine lv_iconst (v := 3) hx hb dX12_putsRings_15 (by decide) ?_
      refine lv_aload_n hx hb dX12_putsRings_16 rfl (lv_at hl 1 rfl) ?_
      refine iv_geti X ft_X12 hB a_h0 sh_12 14 (by decide) rfl k_fl_X12_240 dX12_putsRings_17 (fun x10 e_x10 i_x10 => ?_)
      refine iv_imul hx hb q_3 i_x10 (lo := 0) (hi := 60) (by decide) dX12_putsRings_20 (fun x11 e_x11 i_x11 => ?_)
      refine lv_icmp_ge (tgt := 46) hx hb dX12_putsRings_21 (by decide) (fun c12 => ?_) (fun c12 => ?_)
      · skip
        refine lv_aload_n hx hb dX12_putsRings_46 rfl (lv_at hl 1 rfl) ?_
        refine iv_cVv X k_good k_mf_X12_forgets k_im_X12_forgets k_sel_X12_forgets k_ml_X12_63 ft_X12 hB a_h0 sh_12 (As := []) (c_X12_forgets l D tys base G9 h0 g7 r8 a_h0) ⟨rfl, rfl⟩ ⟨Nat.le_of_ble_eq_true rfl, Nat.le_of_ble_eq_true rfl⟩ ⟨Nat.le_of_ble_eq_true rfl, Nat.le_of_ble_eq_true rfl⟩ rfl rfl hl.1 (Nat.le_of_ble_eq_true rfl) dX12_putsRings_47 (fun G9 H locs hq hB => ?_)
        have hm := hq
        obtain ⟨G13, hG9⟩ : ∃ g, g = G9 := ⟨_, rfl⟩
        rw [← hG9] at hm hB
        have hM := hM.stp hm (by decide)
        obtain ⟨g14, r15, a_h0, f_g14⟩ := hm.ex a_h0
        refine lv_aload_n hx hb dX12_putsRings_50 rfl (lv_at hl 1 rfl) ?_
        refine iv_geti X ft_X12 hB a_h0 sh_12 14 (by decide) rfl k_fl_X12_240 dX12_putsRings_51 (fun x16 e_x16 i_x16 => ?_)
        exact iv_iret X hr hlocks hB ⟨hM, i_x16⟩ dX12_putsRings_54
      · skip
        have i16_x6 : iv_R 0 59 x6 := (i_x6.cutHi (n := 59) (iv_lt_r (iv_nle c12) i_x11 (by decide)))
        have i17_x11 : iv_R 1 60 x11 := (i_x11.cutLo (n := 1) (iv_lt_l (iv_nle c12) i_x6 (by decide)))
        refine lv_aload_n hx hb dX12_putsRings_24 rfl (lv_at hl 1 rfl) ?_
        refine iv_getr X ft_X12 hB a_h0 sh_12 0 (by decide) rfl k_fl_X12_7 dX12_putsRings_25 (fun b19 g_b19 r_b19 e_b19 a_b19 => ?_)
        refine lv_sipush (v := 206) hx hb dX12_putsRings_28 (by decide) ?_
        refine lv_iload_n hx hb dX12_putsRings_31 rfl (lv_at hl 0 rfl) ?_
        refine iv_iadd hx hb q_206 i16_x6 (lo := 206) (hi := 265) (by decide) dX12_putsRings_32 (fun x20 e_x20 i_x20 => ?_)
        refine lv_aload_n hx hb dX12_putsRings_33 rfl (lv_at hl 1 rfl) ?_
        refine iv_getr X ft_X12 hB a_h0 sh_12 7 (by decide) rfl k_fl_X12_25 dX12_putsRings_34 (fun b21 g_b21 r_b21 e_b21 a_b21 => ?_)
        refine lv_iload_n hx hb dX12_putsRings_37 rfl (lv_at hl 0 rfl) ?_
        refine iv_ald X hB a_b21 sh_65 (iv_in i16_x6 (by decide)) dX12_putsRings_38 (fun x22 e_x22 i_x22 => ?_)
        refine iv_wast_f X hB a_b19 i_x20 (by decide) dX12_putsRings_39 (fun H locs hB => ?_)
        have hm := iv_Md.put (x := x22) a_b19 (j := x20.toNatClampNeg) (iv_n146 i_x20 (by decide)) (fun h => absurd h (by decide))
        have h9 := iv_up_eq (G := G9) (a := b19) (k := (60, upd g_b19 x20.toNatClampNeg x22, r_b19))
        generalize iv_up G9 b19 _ = G23 at hB hm h9
        have hM := hM.stp hm (by decide)
        generalize hgn_g24 : upd g_b19 _ _ = g24 at h9
        have a_h0 := hm.at a_h0 (by decide)
        have a_b19 := h9
        refine iv_iinc hx hb i16_x6 (lo := 1) (hi := 60) (by decide) dX12_putsRings_40 hl (k := 0) rfl (by decide) (fun x25 ls e_x25 i_x25 hl => ?_)
        have hl : lv_has ls 2 [(1, .int x25), (0, .ref h0)] := hl
        refine lv_goto (tgt := 14) hx hb dX12_putsRings_43 (by decide) ?_
        exact ih_14 G23 hM _ _ hB g7 r8 a_h0 x25 (i_x25.wk (by decide)) (iv_mup (c := 1) i_x6 (by decide) (by decide) (by omega) hn_14) _ (lv_sub hl [0, 1] rfl)
  exact L_14 _ G3 hM _ _ hB g_h0 r_h0 a_h0 0 (q_0.wk (by decide)) (Nat.lt_succ_self _) _ (lv_sub hl [0, 1] rfl)
