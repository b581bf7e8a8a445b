set_option maxHeartbeats 4000000 in
set_option maxRecDepth 100000 in
theorem f_X12_aLine (l : Launch) (D : va_G) (tys : List (ClassId × FieldType)) (base : Nat) (G : iv_G) (h0 : Nat) (g_h0 : Nat → Int32) (r_h0 : Nat → Nat) (a_h0 : G h0 = some (12, g_h0, r_h0)) (hJ : iv_J g_h0) (hE0 : (g_h0 13).toInt ≤ (g_h0 18).toInt) (T : Nat → Int) (n : Nat) (K V P : Nat → Int) (hR : tk_R T n K V P) (rr0 : Nat) (hr3 : rr0 < 3) (dp0 i0 : Nat) (RS : mw h0 T n K V P rr0 dp0 i0 G) (hr12 : rr0 = 1 ∨ rr0 = 2) (nn0 ll0 : Nat) (hll : (g_h0 12).toInt = (ll0 : Int)) (hz : ¬ tk_M rr0 (K i0) = 0) (CF : tk_cf rr0 nn0 K V i0 = .head ll0) : Met l yX12_aLine (Cond.code yX12_aLine cX12_aLine 1 (some .boolean) :: iv_W0) ({ frames := 1221, cells := 0, slots := 0, locals := 24837 }) (iv_Pc iv_sh D classes tys base G [.ref h0]) (iv_Qi iv_sh D classes tys base (fun v G' => iv_MdT [12, 63, 64] G G' ∧ iv_R 0 1 v ∧ iv_pr 0 0 h0 G G' ∧ (¬ v = 0 → iv_pr 1 0 h0 G G' ∧ (g_h0 12).toInt ≤ 15 ∧ iv_ln h0 G G') ∧ (qm h0 T n K V P rr0 nn0 0 (i0 + 1) (fun i' => tk_cf rr0 nn0 K V i' = .head (ll0 + 1)) v G'))) 0 0 (iv_A base) := by
  refine iv_head (by decide) (Nat.le_of_ble_eq_true rfl) ?_
  intro p e s m args below meth c ls X hr hlocks hname hB hl
  have X := X
  have hx := X.1.1
  have hb := X.1.2.1
  have hM : iv_MdT [12, 63, 64] G G := iv_MdT.rf
  have a_st := a_h0
  have RSb := RS
  have a_lb := a_h0
  have hP : iv_pr 0 0 h0 G G := iv_pr.rf a_h0 hJ
  have hL : iv_pr 0 0 h0 G G := hP
  have hE := hE0
  have hl : lv_has ls 1 [(0, .ref h0)] := hl
  obtain ⟨y12, e_y12⟩ : ∃ x, x = g_h0 12 := ⟨_, rfl⟩
  have i_y12 : iv_R 0 16 y12 := by rw [e_y12]; exact iv_sl12 hB a_h0 12 (by decide) rfl
  obtain ⟨y17, e_y17⟩ : ∃ x, x = g_h0 17 := ⟨_, rfl⟩
  have hy17 : y17.toInt = tk_M rr0 (K i0) := by rw [e_y17]; exact RS.tok a_h0
  have i_y17 : iv_R (-2147483648) 2147483647 y17 := by rw [e_y17]; exact iv_R.all _
  obtain ⟨fl0, ql0, hfl0⟩ := iv_get63 hB a_h0
  have hfl00 := hfl0
  refine lv_aload_n hx hb dX12_aLine_0 rfl (lv_at hl 0 rfl) ?_
  refine iv_geti0 X ft_X12 hB a_h0 sh_12 17 (by decide) rfl k_fl_X12_165 dX12_aLine_1 e_y17 ?_
  refine lv_bipush (v := 20) hx hb dX12_aLine_4 (by decide) ?_
  refine lv_bipush (v := 22) hx hb dX12_aLine_6 (by decide) ?_
  refine iv_cSi X k_good k_mf_X12_isIn k_st_X12_isIn k_ml_X12_56 hB (As := [.int y17, .int 20, .int 22]) (c_X12_isIn l D tys base G y17 i_y17 20 (q_20.wk (by decide)) 22 (q_22.wk (by decide))) ⟨rfl, rfl⟩ ⟨Nat.le_of_ble_eq_true rfl, Nat.le_of_ble_eq_true rfl⟩ ⟨Nat.le_of_ble_eq_true rfl, Nat.le_of_ble_eq_true rfl⟩ rfl rfl hl.1 (Nat.le_of_ble_eq_true rfl) dX12_aLine_8 (fun x1 G9 H locs hq hB => ?_)
  obtain ⟨rfl, i_x1, hp2⟩ := hq
  have k3 : ¬ x1 = 0 → iv_R 20 22 y17 := fun h => ⟨iv_max i_y17.1 (Int.le_trans q_20.1 (hp2.1 h).1) (by decide), iv_min i_y17.2 (Int.le_trans (hp2.1 h).2 q_22.2) (by decide)⟩
  refine lv_if_ne (tgt := 20) hx hb dX12_aLine_11 (by decide) (fun c4 => ?_) (fun c4 => ?_)
  · skip
    have i4_x1 : iv_R 1 1 x1 := iv_ne_lo c4 i_x1 q_0 (by decide)
    have i5_y17 : iv_R 20 22 y17 := ((i_y17.cutLo (n := 20) (k3 c4).1).cutHi (n := 22) (k3 c4).2)
    refine lv_aload_n hx hb dX12_aLine_20 rfl (lv_at hl 0 rfl) ?_
    refine iv_geti0 X ft_X12 hB a_h0 sh_12 12 (by decide) rfl k_fl_X12_227 dX12_aLine_21 e_y12 ?_
    refine lv_bipush (v := 16) hx hb dX12_aLine_24 (by decide) ?_
    refine lv_icmp_ne (tgt := 35) hx hb dX12_aLine_26 (by decide) (fun c7 => ?_) (fun c7 => ?_)
    · skip
      have i7_y12 : iv_R 0 15 y12 := iv_ne_hi c7 i_y12 q_16 (by decide)
      have CF2 := mh_ok (RSb.kd hR) hr12 CF (by rw [← hy17]; exact ⟨i5_y17.1, i5_y17.2⟩) (by have w := congrArg Int32.toInt e_y12; have w2 := i7_y12.2; omega)
      refine lv_aload_n hx hb dX12_aLine_35 rfl (lv_at hl 0 rfl) ?_
      refine lv_iconst (v := 0) hx hb dX12_aLine_36 (by decide) ?_
      refine iv_puti X ft_X12 hB a_h0 sh_12 23 (by decide) rfl rfl k_fl_X12_195 rfl (q_0.wk (by decide)) rfl rfl dX12_aLine_37 (fun H locs hB => ?_)
      have hm := iv_MdT.put (x := 0) a_h0 (j := 23) (by decide)
      have h9 := iv_up_eq (G := G) (a := h0) (k := (12, upd g_h0 23 0, r_h0))
      have hL := hL.put (x := 0) a_h0 (j := 23) (by decide)
      have RS := RS.dep (x := 0) (dq := 0) a_h0 rfl
      generalize iv_up G h0 _ = G9 at hB hm h9 hL RS
      have hM := hM.stp hm (by decide)
      generalize hgn_g10 : upd g_h0 _ _ = g10 at h9
      have hfl0 := hm.at hfl0 (by decide)
      have a_h0 := h9
      have e11 : y12 = g10 12 := by rw [← hgn_g10]; exact e_y12
      have e12 : y17 = g10 17 := by rw [← hgn_g10]; exact e_y17
      have e9_g10 : 0 = g10 23 := by rw [← hgn_g10]; simp [upd]
      refine lv_aload_n hx hb dX12_aLine_40 rfl (lv_at hl 0 rfl) ?_
      refine iv_getr0 X ft_X12 hB a_h0 sh_12 5 (by decide) rfl k_fl_X12_19 dX12_aLine_41 (rfl : r_h0 5 = r_h0 5) ?_
      refine lv_iconst (v := 4) hx hb dX12_aLine_44 (by decide) ?_
      refine lv_aload_n hx hb dX12_aLine_45 rfl (lv_at hl 0 rfl) ?_
      refine iv_geti0 X ft_X12 hB a_h0 sh_12 12 (by decide) rfl k_fl_X12_227 dX12_aLine_46 e11 ?_
      refine iv_imul hx hb q_4 i7_y12 (lo := 0) (hi := 60) (by decide) dX12_aLine_49 (fun x13 e_x13 i_x13 => ?_)
      have e_x13 : x13.toInt = 4 * y12.toInt := e_x13
      refine lv_iconst (v := 3) hx hb dX12_aLine_50 (by decide) ?_
      refine iv_iadd hx hb i_x13 q_3 (lo := 3) (hi := 63) (by decide) dX12_aLine_51 (fun x14 e_x14 i_x14 => ?_)
      have e_x14 : x14.toInt = x13.toInt + 3 := e_x14
      refine lv_aload_n hx hb dX12_aLine_52 rfl (lv_at hl 0 rfl) ?_
      refine iv_geti0 X ft_X12 hB a_h0 sh_12 17 (by decide) rfl k_fl_X12_165 dX12_aLine_53 e12 ?_
      refine iv_ast X hB hfl0 sh_63 (iv_in i_x14 (by decide)) (i5_y17.wk (by decide)) dX12_aLine_56 (fun H locs hB => ?_)
      have hm := iv_Md.ast (j := x14.toNatClampNeg) (x := y17) hfl0 rfl (by decide)
      have h9 := iv_up_eq (G := G9) (a := (r_h0 5)) (k := (63, upd fl0 x14.toNatClampNeg y17, ql0))
      have hL := hL.oth (k := (63, upd fl0 x14.toNatClampNeg y17, ql0)) hfl0 rfl (by decide)
      have RS := RS.oth (k := (63, upd fl0 x14.toNatClampNeg y17, ql0)) hfl0 (by decide)
      generalize iv_up G9 (r_h0 5) _ = G15 at hB hm h9 hL RS
      have hM := hM.stp (iv_MdT.of hm) (by decide)
      generalize hgn_g16 : upd fl0 _ _ = g16 at h9
      have a_h0 := hm.at a_h0 (by decide)
      have hfl0 := h9
      refine lv_aload_n hx hb dX12_aLine_57 rfl (lv_at hl 0 rfl) ?_
      have a_q17 := a_h0
      have hx_q17 := iv_get64 hB a_h0
      have hs_q17 := iv_s18 hB a_h0
      refine iv_cVv X k_good k_mf_X12_next0 k_im_X12_next0 k_sel_X12_next0 k_ml_X12_189 ft_X12 hB a_h0 sh_12 (As := []) (f_X12_next0 l D tys base G15 h0 g10 r_h0 a_h0 T n K V P hR rr0 (i0 + 1) hr3 (RS.1.me (RS.lt hR (by omega)))) ⟨rfl, rfl⟩ ⟨Nat.le_of_ble_eq_true rfl, Nat.le_of_ble_eq_true rfl⟩ ⟨Nat.le_of_ble_eq_true rfl, Nat.le_of_ble_eq_true rfl⟩ rfl rfl hl.1 (Nat.le_of_ble_eq_true rfl) dX12_aLine_58 (fun G9 H locs hq hB => ?_)
      obtain ⟨hm, xp18, xm⟩ := hq
      obtain ⟨G19, hG9⟩ : ∃ g, g = G9 := ⟨_, rfl⟩
      rw [← hG9] at hm hB xp18 xm
      have hM := hM.stp (iv_MdT.of hm) (by decide)
      have RS := RS.next hm xm
      obtain ⟨g20, r21, a_h0, f_g20⟩ := hm.ex a_h0
      have e22 : y12 = g20 12 := e11.trans (f_g20.2.1 12 (show (12 : Nat) ∈ iv_stab 12 from by decide)).symm
      have e23 : 0 = g20 23 := e9_g10.trans (f_g20.2.1 23 (show (23 : Nat) ∈ iv_stab 12 from by decide)).symm
      have e24 : (r_h0 5) = r21 5 := (rfl : r_h0 5 = r_h0 5).trans (f_g20.1 5 (fun h => absurd (show (12 : Nat) = 5 from h) (by decide))).symm
      have hfl0 := hm.at hfl0 (by decide)
      have hL : iv_pr (1) 0 h0 G G19 := (hL.next1 hm a_q17 xp18 (by rw [← e12]; exact Int.le_trans (by decide) i5_y17.1)).wk (by decide)
      refine lv_aload_n hx hb dX12_aLine_61 rfl (lv_at hl 0 rfl) ?_
      refine iv_getr0 X ft_X12 hB a_h0 sh_12 5 (by decide) rfl k_fl_X12_19 dX12_aLine_62 e24 ?_
      refine lv_iconst (v := 4) hx hb dX12_aLine_65 (by decide) ?_
      refine lv_aload_n hx hb dX12_aLine_66 rfl (lv_at hl 0 rfl) ?_
      refine iv_geti0 X ft_X12 hB a_h0 sh_12 12 (by decide) rfl k_fl_X12_227 dX12_aLine_67 e22 ?_
      refine iv_imul hx hb q_4 i7_y12 (lo := 0) (hi := 60) (by decide) dX12_aLine_70 (fun x25 e_x25 i_x25 => ?_)
      have e_x25 : x25.toInt = 4 * y12.toInt := e_x25
      refine lv_aload_n hx hb dX12_aLine_71 rfl (lv_at hl 0 rfl) ?_
      refine iv_geti X ft_X12 hB a_h0 sh_12 13 (by decide) rfl k_fl_X12_192 dX12_aLine_72 (fun x26 e_x26 i_x26 => ?_)
      have st0 : x26 = g20 13 := e_x26
      refine iv_ast X hB hfl0 sh_63 (iv_in i_x25 (by decide)) (i_x26.wk (by decide)) dX12_aLine_75 (fun H locs hB => ?_)
      have hm := iv_Md.ast (j := x25.toNatClampNeg) (x := x26) hfl0 rfl (by decide)
      have h9 := iv_up_eq (G := G19) (a := (r_h0 5)) (k := (63, upd g16 x25.toNatClampNeg x26, ql0))
      have hL := hL.oth (k := (63, upd g16 x25.toNatClampNeg x26, ql0)) hfl0 rfl (by decide)
      have RS := RS.oth (k := (63, upd g16 x25.toNatClampNeg x26, ql0)) hfl0 (by decide)
      generalize iv_up G19 (r_h0 5) _ = G27 at hB hm h9 hL RS
      have hM := hM.stp (iv_MdT.of hm) (by decide)
      generalize hgn_g28 : upd g16 _ _ = g28 at h9
      have a_h0 := hm.at a_h0 (by decide)
      have hfl0 := h9
      refine lv_aload_n hx hb dX12_aLine_76 rfl (lv_at hl 0 rfl) ?_
      have a_q29 := a_h0
      have hx_q29 := iv_get64 hB a_h0
      have hs_q29 := iv_s18 hB a_h0
      refine iv_cVi X k_good k_mf_X12_sumUp k_im_X12_sumUp k_sel_X12_sumUp k_ml_X12_224 ft_X12 hB a_h0 sh_12 (As := []) (f_X12_sumUp l D tys base G27 h0 g20 r21 a_h0 (hL.J a_lb a_h0) (hL.le (by decide) a_lb a_h0 hE) T n K V P hR rr0 hr3 0 (i0 + 1) RS nn0 ll0 0 0 [] (tk_at.of CF2)) ⟨rfl, rfl⟩ ⟨Nat.le_of_ble_eq_true rfl, Nat.le_of_ble_eq_true rfl⟩ ⟨Nat.le_of_ble_eq_true rfl, Nat.le_of_ble_eq_true rfl⟩ rfl rfl hl.1 (Nat.le_of_ble_eq_true rfl) dX12_aLine_77 (fun x30 G9 H locs hq hB => ?_)
      obtain ⟨hm, i_x30, xp31a, xp31b, xm⟩ := hq
      have xp31 := And.intro xp31a xp31b
      obtain ⟨G32, hG9⟩ : ∃ g, g = G9 := ⟨_, rfl⟩
      rw [← hG9] at hm hB xp31 xm
      have hM := hM.stp hm (by decide)
      obtain ⟨g33, r34, a_h0, f_g33⟩ := hm.ex a_h0
      have e35 : (r_h0 5) = r34 5 := e24.trans (f_g33.1 5 (fun h => absurd (show (12 : Nat) = 5 from h) (by decide))).symm
      have hfl0 := hm.at hfl0 (by decide)
      have hL : iv_pr (1) 0 h0 G G32 := (hL.tr xp31.1).wk (by decide)
      have e36 : y12 = g33 12 := e22.trans (xp31.1.s12 a_q29 a_h0).symm
      refine lv_if_ne (tgt := 85) hx hb dX12_aLine_80 (by decide) (fun c37 => ?_) (fun c37 => ?_)
      · skip
        obtain ⟨j1, hj1, RS, cf1⟩ := xm.1 c37
        have kdj1 := RS.kd hR
        have i37_x30 : iv_R 1 1 x30 := iv_ne_lo c37 i_x30 q_0 (by decide)
        have hC39 := xp31.2 c37
        have a_q40 := a_h0
        have hx_q40 := iv_get64 hB a_h0
        have hK1 : iv_pr 0 0 h0 G32 G32 := iv_pr.rf a_h0 (hL.J a_lb a_h0)
        refine lv_aload_n hx hb dX12_aLine_85 rfl (lv_at hl 0 rfl) ?_
        refine iv_getr0 X ft_X12 hB a_h0 sh_12 5 (by decide) rfl k_fl_X12_19 dX12_aLine_86 e35 ?_
        refine lv_iconst (v := 4) hx hb dX12_aLine_89 (by decide) ?_
        refine lv_aload_n hx hb dX12_aLine_90 rfl (lv_at hl 0 rfl) ?_
        refine iv_geti0 X ft_X12 hB a_h0 sh_12 12 (by decide) rfl k_fl_X12_227 dX12_aLine_91 e36 ?_
        refine iv_imul hx hb q_4 i7_y12 (lo := 0) (hi := 60) (by decide) dX12_aLine_94 (fun x41 e_x41 i_x41 => ?_)
        have e_x41 : x41.toInt = 4 * y12.toInt := e_x41
        refine lv_iconst (v := 1) hx hb dX12_aLine_95 (by decide) ?_
        refine iv_iadd hx hb i_x41 q_1 (lo := 1) (hi := 61) (by decide) dX12_aLine_96 (fun x42 e_x42 i_x42 => ?_)
        have e_x42 : x42.toInt = x41.toInt + 1 := e_x42
        refine lv_aload_n hx hb dX12_aLine_97 rfl (lv_at hl 0 rfl) ?_
        refine iv_geti X ft_X12 hB a_h0 sh_12 13 (by decide) rfl k_fl_X12_192 dX12_aLine_98 (fun x43 e_x43 i_x43 => ?_)
        have st1 : x43 = g33 13 := e_x43
        refine iv_ast X hB hfl0 sh_63 (iv_in i_x42 (by decide)) (i_x43.wk (by decide)) dX12_aLine_101 (fun H locs hB => ?_)
        have hm := iv_Md.ast (j := x42.toNatClampNeg) (x := x43) hfl0 rfl (by decide)
        have h9 := iv_up_eq (G := G32) (a := (r_h0 5)) (k := (63, upd g28 x42.toNatClampNeg x43, ql0))
        have hL := hL.oth (k := (63, upd g28 x42.toNatClampNeg x43, ql0)) hfl0 rfl (by decide)
        have hK1 := hK1.oth (k := (63, upd g28 x42.toNatClampNeg x43, ql0)) hfl0 rfl (by decide)
        have RS := RS.oth (k := (63, upd g28 x42.toNatClampNeg x43, ql0)) hfl0 (by decide)
        generalize iv_up G32 (r_h0 5) _ = G44 at hB hm h9 hL hK1 RS
        have hM := hM.stp (iv_MdT.of hm) (by decide)
        generalize hgn_g45 : upd g28 _ _ = g45 at h9
        have a_h0 := hm.at a_h0 (by decide)
        have hfl0 := h9
        refine lv_aload_n hx hb dX12_aLine_102 rfl (lv_at hl 0 rfl) ?_
        refine iv_geti X ft_X12 hB a_h0 sh_12 17 (by decide) rfl k_fl_X12_165 dX12_aLine_103 (fun x46 e_x46 i_x46 => ?_)
        have hx46 : x46.toInt = tk_M rr0 (K j1) := by rw [e_x46]; exact RS.tok a_h0
        refine lv_iconst (v := 3) hx hb dX12_aLine_106 (by decide) ?_
        refine lv_icmp_ne (tgt := 123) hx hb dX12_aLine_107 (by decide) (fun c47 => ?_) (fun c47 => ?_)
        · skip
          have m47 : ¬ tk_M rr0 (K j1) = 3 := fun q => c47 (Int32.toInt_inj.mp (by rw [hx46, q]; rfl))
          refine lv_aload_n hx hb dX12_aLine_123 rfl (lv_at hl 0 rfl) ?_
          refine iv_getr0 X ft_X12 hB a_h0 sh_12 5 (by decide) rfl k_fl_X12_19 dX12_aLine_124 e35 ?_
          refine lv_iconst (v := 4) hx hb dX12_aLine_127 (by decide) ?_
          refine lv_aload_n hx hb dX12_aLine_128 rfl (lv_at hl 0 rfl) ?_
          refine iv_geti0 X ft_X12 hB a_h0 sh_12 12 (by decide) rfl k_fl_X12_227 dX12_aLine_129 e36 ?_
          refine iv_imul hx hb q_4 i7_y12 (lo := 0) (hi := 60) (by decide) dX12_aLine_132 (fun x49 e_x49 i_x49 => ?_)
          have e_x49 : x49.toInt = 4 * y12.toInt := e_x49
          refine lv_iconst (v := 2) hx hb dX12_aLine_133 (by decide) ?_
          refine iv_iadd hx hb i_x49 q_2 (lo := 2) (hi := 62) (by decide) dX12_aLine_134 (fun x50 e_x50 i_x50 => ?_)
          have e_x50 : x50.toInt = x49.toInt + 2 := e_x50
          refine lv_aload_n hx hb dX12_aLine_135 rfl (lv_at hl 0 rfl) ?_
          refine iv_geti0 X ft_X12 hB a_h0 sh_12 13 (by decide) rfl k_fl_X12_192 dX12_aLine_136 e_x43 ?_
          have st2 : x43 = g33 13 := e_x43
          refine iv_ast X hB hfl0 sh_63 (iv_in i_x50 (by decide)) (i_x43.wk (by decide)) dX12_aLine_139 (fun H locs hB => ?_)
          have hm := iv_Md.ast (j := x50.toNatClampNeg) (x := x43) hfl0 rfl (by decide)
          have h9 := iv_up_eq (G := G44) (a := (r_h0 5)) (k := (63, upd g45 x50.toNatClampNeg x43, ql0))
          have hL := hL.oth (k := (63, upd g45 x50.toNatClampNeg x43, ql0)) hfl0 rfl (by decide)
          have hK1 := hK1.oth (k := (63, upd g45 x50.toNatClampNeg x43, ql0)) hfl0 rfl (by decide)
          have RS := RS.oth (k := (63, upd g45 x50.toNatClampNeg x43, ql0)) hfl0 (by decide)
          generalize iv_up G44 (r_h0 5) _ = G51 at hB hm h9 hL hK1 RS
          have hM := hM.stp (iv_MdT.of hm) (by decide)
          generalize hgn_g52 : upd g45 _ _ = g52 at h9
          have a_h0 := hm.at a_h0 (by decide)
          have hfl0 := h9
          refine lv_aload_n hx hb dX12_aLine_140 rfl (lv_at hl 0 rfl) ?_
          refine lv_sipush (v := 159) hx hb dX12_aLine_141 (by decide) ?_
          have a_q53 := a_h0
          have hx_q53 := iv_get64 hB a_h0
          have hs_q53 := iv_s18 hB a_h0
          refine iv_cVi X k_good k_mf_X12_need k_im_X12_need k_sel_X12_need k_ml_X12_221 ft_X12 hB a_h0 sh_12 (As := [.int 159]) (f_X12_need l D tys base G51 h0 g33 r34 a_h0 159 (q_159.wk (by decide)) (hL.J a_lb a_h0) T n K V P hR rr0 hr3 0 j1 RS) ⟨rfl, rfl⟩ ⟨Nat.le_of_ble_eq_true rfl, Nat.le_of_ble_eq_true rfl⟩ ⟨Nat.le_of_ble_eq_true rfl, Nat.le_of_ble_eq_true rfl⟩ rfl rfl hl.1 (Nat.le_of_ble_eq_true rfl) dX12_aLine_144 (fun x54 G9 H locs hq hB => ?_)
          obtain ⟨hm, i_x54, xp55a, xp55b, xm⟩ := hq
          have xp55 := And.intro xp55a xp55b
          obtain ⟨G56, hG9⟩ : ∃ g, g = G9 := ⟨_, rfl⟩
          rw [← hG9] at hm hB xp55 xm
          have hM := hM.stp (iv_MdT.of hm) (by decide)
          obtain ⟨g57, r58, a_h0, f_g57⟩ := hm.ex a_h0
          have e59 : y12 = g57 12 := e36.trans (f_g57.2.1 12 (show (12 : Nat) ∈ iv_stab 12 from by decide)).symm
          have e60 : x43 = g57 13 := e_x43.trans (f_g57.2.1 13 (show (13 : Nat) ∈ iv_stab 12 from by decide)).symm
          have e61 : (r_h0 5) = r58 5 := e35.trans (f_g57.1 5 (fun h => absurd (show (12 : Nat) = 5 from h) (by decide))).symm
          have hfl0 := hm.at hfl0 (by decide)
          have hLp_x54 := hL
          have hL : iv_pr (1) 0 h0 G G56 := (hL.tr xp55.1).wk (by decide)
          have hK1 : iv_pr (0) 0 h0 G32 G56 := (hK1.tr xp55.1).wk (by decide)
          exact iv_zret X hr hlocks hB i_x54 ⟨hM, i_x54, ⟨((hP.tr hL).wk (by decide)), fun _ => ⟨(hP.tr hL).wk (by decide), by rw [← e_y12]; exact i7_y12.2, fun g9 r9 fl9 ql9 g8 r8 fl8 ql8 f8 q8 k9 j9 k8 j8 l8 => by have q1 := a_st.symm.trans k9; cases q1; have q2 := a_h0.symm.trans k8; cases q2; have q3 := hfl00.symm.trans j9; cases q3; have z5 : (r_h0 5) = r58 5 := e61; rw [← z5] at j8; have q4 := hfl0.symm.trans j8; cases q4; have wl := congrArg Int32.toInt e_y12; have n3 : x14.toNatClampNeg = 4 * (g_h0 12).toInt.toNat + 3 := (by show x14.toInt.toNat = _; have := i_y12.1; omega); have n0 : x25.toNatClampNeg = 4 * (g_h0 12).toInt.toNat := (by show x25.toInt.toNat = _; have := i_y12.1; omega); have n1 : x42.toNatClampNeg = 4 * (g_h0 12).toInt.toNat + 1 := (by show x42.toInt.toNat = _; have := i_y12.1; omega); have n2 : x50.toNatClampNeg = 4 * (g_h0 12).toInt.toNat + 2 := (by show x50.toInt.toNat = _; have := i_y12.1; omega); have u1 := (hC39).sg hK1 a_q29 a_q40 hx_q40 a_h0 l8; have p0 := congrArg Int32.toInt st0; have p1 := congrArg Int32.toInt st1; have p2 := congrArg Int32.toInt st2; have hz := i_x26.1; have v1 := u1.1; exact ⟨(fun i hi => by rw [← hgn_g52, ← hgn_g45, ← hgn_g28, ← hgn_g16, n2, n1, n0, n3]; simp only [upd]; rw [if_neg (by omega), if_neg (by omega), if_neg (by omega), if_neg (by omega)]), x26.toInt.toNat, x43.toInt.toNat, x43.toInt.toNat, (by rw [← hgn_g52, ← hgn_g45, ← hgn_g28, ← hgn_g16, n2, n1, n0, n3]; simp only [upd]; rw [if_neg (by omega), if_neg (by omega), if_pos trivial]; exact iv_nIof (by omega)), (by rw [← hgn_g52, ← hgn_g45, ← hgn_g28, ← hgn_g16, n2, n1, n0, n3]; simp only [upd]; rw [if_neg (by omega), if_pos trivial]; exact iv_nIof (by omega)), (by rw [← hgn_g52, ← hgn_g45, ← hgn_g28, ← hgn_g16, n2, n1, n0, n3]; simp only [upd]; rw [if_pos trivial]; exact iv_nIof (by omega)), (by omega), (by omega), (by omega), (iv_sgc u1.2 (by omega) (by omega) rfl), (by rw [show x43.toInt.toNat - x43.toInt.toNat = 0 from by omega]; unfold iv_sg; trivial)⟩⟩, (⟨fun h => ⟨j1 + 1, by omega, (xm.1 h).2.2, mz_semi kdj1 cf1.1 cf1.2 (xm.1 h).1⟩, fun h => ⟨j1, 1, mz_no kdj1 cf1.1 cf1.2 m47 (xm.2 h).1, (xm.2 h).2⟩⟩)⟩⟩ dX12_aLine_147
        · skip
          have m47 : tk_M rr0 (K j1) = 3 := by rw [← hx46, c47]; rfl
          have i61_x46 : iv_R 3 3 x46 := ((i_x46.cutLo (n := 3) (iv_eq_r c47 q_3).1).cutHi (n := 3) (iv_eq_r c47 q_3).2)
          refine lv_aload_n hx hb dX12_aLine_110 rfl (lv_at hl 0 rfl) ?_
          have a_q63 := a_h0
          have hx_q63 := iv_get64 hB a_h0
          have hs_q63 := iv_s18 hB a_h0
          refine iv_cVv X k_good k_mf_X12_next0 k_im_X12_next0 k_sel_X12_next0 k_ml_X12_189 ft_X12 hB a_h0 sh_12 (As := []) (f_X12_next0 l D tys base G44 h0 g33 r34 a_h0 T n K V P hR rr0 (j1 + 1) hr3 (RS.1.me (RS.lt hR (by rw [← hx46]; have w := i61_x46.1; omega)))) ⟨rfl, rfl⟩ ⟨Nat.le_of_ble_eq_true rfl, Nat.le_of_ble_eq_true rfl⟩ ⟨Nat.le_of_ble_eq_true rfl, Nat.le_of_ble_eq_true rfl⟩ rfl rfl hl.1 (Nat.le_of_ble_eq_true rfl) dX12_aLine_111 (fun G9 H locs hq hB => ?_)
          obtain ⟨hm, xp64, xm⟩ := hq
          obtain ⟨G65, hG9⟩ : ∃ g, g = G9 := ⟨_, rfl⟩
          rw [← hG9] at hm hB xp64 xm
          have hM := hM.stp (iv_MdT.of hm) (by decide)
          have CFw := mz_when kdj1 cf1.1 cf1.2 m47
          have RS := RS.next hm xm
          obtain ⟨g66, r67, a_h0, f_g66⟩ := hm.ex a_h0
          have e68 : y12 = g66 12 := e36.trans (f_g66.2.1 12 (show (12 : Nat) ∈ iv_stab 12 from by decide)).symm
          have e69 : x43 = g66 13 := e_x43.trans (f_g66.2.1 13 (show (13 : Nat) ∈ iv_stab 12 from by decide)).symm
          have e70 : (r_h0 5) = r67 5 := e35.trans (f_g66.1 5 (fun h => absurd (show (12 : Nat) = 5 from h) (by decide))).symm
          have hfl0 := hm.at hfl0 (by decide)
          have hL : iv_pr (2) 0 h0 G G65 := (hL.next1 hm a_q63 xp64 (by rw [← e_x46]; exact Int.le_trans (by decide) i61_x46.1)).wk (by decide)
          have hK1 : iv_pr (1) 0 h0 G32 G65 := (hK1.next1 hm a_q63 xp64 (by rw [← e_x46]; exact Int.le_trans (by decide) i61_x46.1)).wk (by decide)
          have st4 : x43 = g66 13 := e69
          refine lv_aload_n hx hb dX12_aLine_114 rfl (lv_at hl 0 rfl) ?_
          have a_q71 := a_h0
          have hx_q71 := iv_get64 hB a_h0
          have hs_q71 := iv_s18 hB a_h0
          refine iv_cVi X k_good k_mf_X12_any k_im_X12_any k_sel_X12_any k_ml_X12_218 ft_X12 hB a_h0 sh_12 (As := []) (f_X12_any l D tys base G65 h0 g66 r67 a_h0 (hL.J a_lb a_h0) (hL.le (by decide) a_lb a_h0 hE) (iv_s18 hB a_h0).1.2 (iv_s18 hB a_h0).1.1 T n K V P hR rr0 hr3 0 (j1 + 1) RS nn0 ll0 [] (Nat.zero_le _) (tk_at.of CFw)) ⟨rfl, rfl⟩ ⟨Nat.le_of_ble_eq_true rfl, Nat.le_of_ble_eq_true rfl⟩ ⟨Nat.le_of_ble_eq_true rfl, Nat.le_of_ble_eq_true rfl⟩ rfl rfl hl.1 (Nat.le_of_ble_eq_true rfl) dX12_aLine_115 (fun x72 G9 H locs hq hB => ?_)
          obtain ⟨hm, i_x72, xp73a, xp73b, xm⟩ := hq
          have xp73 := And.intro xp73a xp73b
          obtain ⟨G74, hG9⟩ : ∃ g, g = G9 := ⟨_, rfl⟩
          rw [← hG9] at hm hB xp73 xm
          have hM := hM.stp hm (by decide)
          obtain ⟨g75, r76, a_h0, f_g75⟩ := hm.ex a_h0
          have e77 : (r_h0 5) = r76 5 := e70.trans (f_g75.1 5 (fun h => absurd (show (12 : Nat) = 5 from h) (by decide))).symm
          have hfl0 := hm.at hfl0 (by decide)
          have hL : iv_pr (2) 0 h0 G G74 := (hL.tr xp73.1).wk (by decide)
          have hK1 : iv_pr (1) 0 h0 G32 G74 := (hK1.tr xp73.1).wk (by decide)
          have e78 : y12 = g75 12 := e68.trans (xp73.1.s12 a_q71 a_h0).symm
          refine lv_if_ne (tgt := 123) hx hb dX12_aLine_118 (by decide) (fun c79 => ?_) (fun c79 => ?_)
          · skip
            obtain ⟨j2, hj2, RS, cf2⟩ := xm.1 c79
            have kdj2 := RS.kd hR
            have i79_x72 : iv_R 1 1 x72 := iv_ne_lo c79 i_x72 q_0 (by decide)
            have hC81 := xp73.2 c79
            have a_q82 := a_h0
            have hx_q82 := iv_get64 hB a_h0
            have hK2 : iv_pr 0 0 h0 G74 G74 := iv_pr.rf a_h0 (hL.J a_lb a_h0)
            refine lv_aload_n hx hb dX12_aLine_123 rfl (lv_at hl 0 rfl) ?_
            refine iv_getr0 X ft_X12 hB a_h0 sh_12 5 (by decide) rfl k_fl_X12_19 dX12_aLine_124 e77 ?_
            refine lv_iconst (v := 4) hx hb dX12_aLine_127 (by decide) ?_
            refine lv_aload_n hx hb dX12_aLine_128 rfl (lv_at hl 0 rfl) ?_
            refine iv_geti0 X ft_X12 hB a_h0 sh_12 12 (by decide) rfl k_fl_X12_227 dX12_aLine_129 e78 ?_
            refine iv_imul hx hb q_4 i7_y12 (lo := 0) (hi := 60) (by decide) dX12_aLine_132 (fun x83 e_x83 i_x83 => ?_)
            have e_x83 : x83.toInt = 4 * y12.toInt := e_x83
            refine lv_iconst (v := 2) hx hb dX12_aLine_133 (by decide) ?_
            refine iv_iadd hx hb i_x83 q_2 (lo := 2) (hi := 62) (by decide) dX12_aLine_134 (fun x84 e_x84 i_x84 => ?_)
            have e_x84 : x84.toInt = x83.toInt + 2 := e_x84
            refine lv_aload_n hx hb dX12_aLine_135 rfl (lv_at hl 0 rfl) ?_
            refine iv_geti X ft_X12 hB a_h0 sh_12 13 (by decide) rfl k_fl_X12_192 dX12_aLine_136 (fun x85 e_x85 i_x85 => ?_)
            have st2 : x85 = g75 13 := e_x85
            refine iv_ast X hB hfl0 sh_63 (iv_in i_x84 (by decide)) (i_x85.wk (by decide)) dX12_aLine_139 (fun H locs hB => ?_)
            have hm := iv_Md.ast (j := x84.toNatClampNeg) (x := x85) hfl0 rfl (by decide)
            have h9 := iv_up_eq (G := G74) (a := (r_h0 5)) (k := (63, upd g45 x84.toNatClampNeg x85, ql0))
            have hL := hL.oth (k := (63, upd g45 x84.toNatClampNeg x85, ql0)) hfl0 rfl (by decide)
            have hK1 := hK1.oth (k := (63, upd g45 x84.toNatClampNeg x85, ql0)) hfl0 rfl (by decide)
            have hK2 := hK2.oth (k := (63, upd g45 x84.toNatClampNeg x85, ql0)) hfl0 rfl (by decide)
            have RS := RS.oth (k := (63, upd g45 x84.toNatClampNeg x85, ql0)) hfl0 (by decide)
            generalize iv_up G74 (r_h0 5) _ = G86 at hB hm h9 hL hK1 hK2 RS
            have hM := hM.stp (iv_MdT.of hm) (by decide)
            generalize hgn_g87 : upd g45 _ _ = g87 at h9
            have a_h0 := hm.at a_h0 (by decide)
            have hfl0 := h9
            refine lv_aload_n hx hb dX12_aLine_140 rfl (lv_at hl 0 rfl) ?_
            refine lv_sipush (v := 159) hx hb dX12_aLine_141 (by decide) ?_
            have a_q88 := a_h0
            have hx_q88 := iv_get64 hB a_h0
            have hs_q88 := iv_s18 hB a_h0
            refine iv_cVi X k_good k_mf_X12_need k_im_X12_need k_sel_X12_need k_ml_X12_221 ft_X12 hB a_h0 sh_12 (As := [.int 159]) (f_X12_need l D tys base G86 h0 g75 r76 a_h0 159 (q_159.wk (by decide)) (hL.J a_lb a_h0) T n K V P hR rr0 hr3 0 j2 RS) ⟨rfl, rfl⟩ ⟨Nat.le_of_ble_eq_true rfl, Nat.le_of_ble_eq_true rfl⟩ ⟨Nat.le_of_ble_eq_true rfl, Nat.le_of_ble_eq_true rfl⟩ rfl rfl hl.1 (Nat.le_of_ble_eq_true rfl) dX12_aLine_144 (fun x89 G9 H locs hq hB => ?_)
            obtain ⟨hm, i_x89, xp90a, xp90b, xm⟩ := hq
            have xp90 := And.intro xp90a xp90b
            obtain ⟨G91, hG9⟩ : ∃ g, g = G9 := ⟨_, rfl⟩
            rw [← hG9] at hm hB xp90 xm
            have hM := hM.stp (iv_MdT.of hm) (by decide)
            obtain ⟨g92, r93, a_h0, f_g92⟩ := hm.ex a_h0
            have e94 : y12 = g92 12 := e78.trans (f_g92.2.1 12 (show (12 : Nat) ∈ iv_stab 12 from by decide)).symm
            have e95 : x85 = g92 13 := e_x85.trans (f_g92.2.1 13 (show (13 : Nat) ∈ iv_stab 12 from by decide)).symm
            have e96 : (r_h0 5) = r93 5 := e77.trans (f_g92.1 5 (fun h => absurd (show (12 : Nat) = 5 from h) (by decide))).symm
            have hfl0 := hm.at hfl0 (by decide)
            have hLp_x89 := hL
            have hL : iv_pr (2) 0 h0 G G91 := (hL.tr xp90.1).wk (by decide)
            have hK1 : iv_pr (1) 0 h0 G32 G91 := (hK1.tr xp90.1).wk (by decide)
            have hK2 : iv_pr (0) 0 h0 G74 G91 := (hK2.tr xp90.1).wk (by decide)
            exact iv_zret X hr hlocks hB i_x89 ⟨hM, i_x89, ⟨((hP.tr hL).wk (by decide)), fun _ => ⟨(hP.tr hL).wk (by decide), by rw [← e_y12]; exact i7_y12.2, fun g9 r9 fl9 ql9 g8 r8 fl8 ql8 f8 q8 k9 j9 k8 j8 l8 => by have q1 := a_st.symm.trans k9; cases q1; have q2 := a_h0.symm.trans k8; cases q2; have q3 := hfl00.symm.trans j9; cases q3; have z5 : (r_h0 5) = r93 5 := e96; rw [← z5] at j8; have q4 := hfl0.symm.trans j8; cases q4; have wl := congrArg Int32.toInt e_y12; have n3 : x14.toNatClampNeg = 4 * (g_h0 12).toInt.toNat + 3 := (by show x14.toInt.toNat = _; have := i_y12.1; omega); have n0 : x25.toNatClampNeg = 4 * (g_h0 12).toInt.toNat := (by show x25.toInt.toNat = _; have := i_y12.1; omega); have n1 : x42.toNatClampNeg = 4 * (g_h0 12).toInt.toNat + 1 := (by show x42.toInt.toNat = _; have := i_y12.1; omega); have n2 : x84.toNatClampNeg = 4 * (g_h0 12).toInt.toNat + 2 := (by show x84.toInt.toNat = _; have := i_y12.1; omega); have u1 := (hC39).sg hK1 a_q29 a_q40 hx_q40 a_h0 l8; have p0 := congrArg Int32.toInt st0; have p1 := congrArg Int32.toInt st1; have p2 := congrArg Int32.toInt st2; have hz := i_x26.1; have v1 := u1.1; have u2 := (hC81).sg hK2 a_q71 a_q82 hx_q82 a_h0 l8; have p4 := congrArg Int32.toInt st4; have v2 := u2.1; exact ⟨(fun i hi => by rw [← hgn_g87, ← hgn_g45, ← hgn_g28, ← hgn_g16, n2, n1, n0, n3]; simp only [upd]; rw [if_neg (by omega), if_neg (by omega), if_neg (by omega), if_neg (by omega)]), x26.toInt.toNat, x43.toInt.toNat, x85.toInt.toNat, (by rw [← hgn_g87, ← hgn_g45, ← hgn_g28, ← hgn_g16, n2, n1, n0, n3]; simp only [upd]; rw [if_neg (by omega), if_neg (by omega), if_pos trivial]; exact iv_nIof (by omega)), (by rw [← hgn_g87, ← hgn_g45, ← hgn_g28, ← hgn_g16, n2, n1, n0, n3]; simp only [upd]; rw [if_neg (by omega), if_pos trivial]; exact iv_nIof (by omega)), (by rw [← hgn_g87, ← hgn_g45, ← hgn_g28, ← hgn_g16, n2, n1, n0, n3]; simp only [upd]; rw [if_pos trivial]; exact iv_nIof (by omega)), (by omega), (by omega), (by omega), (iv_sgc u1.2 (by omega) (by omega) rfl), (iv_sgc u2.2 (by omega) (by omega) rfl)⟩⟩, (⟨fun h => ⟨j2 + 1, by omega, (xm.1 h).2.2, mj_semi kdj2 cf2.1 (xm.1 h).1⟩, fun h => ⟨j2, 1, mj_none kdj2 cf2.1 cf2.2 (xm.2 h).1, (xm.2 h).2⟩⟩)⟩⟩ dX12_aLine_147
          · skip
            have i96_x72 : iv_R 0 0 x72 := (i_x72.cutHi (n := 0) (iv_eq_r c79 q_0).2)
            refine lv_iconst (v := 0) hx hb dX12_aLine_121 (by decide) ?_
            exact iv_zret X hr hlocks hB (q_0.wk (by decide)) ⟨hM, (q_0.wk (by decide)), ⟨((hP.tr hL).wk (by decide)), fun h => absurd (iv_z q_0) h, (⟨fun h => absurd (iv_z q_0) h, fun _ => xm.2 c79⟩)⟩⟩ dX12_aLine_122
      · skip
        have i97_x30 : iv_R 0 0 x30 := (i_x30.cutHi (n := 0) (iv_eq_r c37 q_0).2)
        refine lv_iconst (v := 0) hx hb dX12_aLine_83 (by decide) ?_
        exact iv_zret X hr hlocks hB (q_0.wk (by decide)) ⟨hM, (q_0.wk (by decide)), ⟨((hP.tr hL).wk (by decide)), fun h => absurd (iv_z q_0) h, (⟨fun h => absurd (iv_z q_0) h, fun _ => xm.2 c37⟩)⟩⟩ dX12_aLine_84
    · skip
      have i98_y12 : iv_R 16 16 y12 := (i_y12.cutLo (n := 16) (iv_eq_r c7 q_16).1)
      refine lv_aload_n hx hb dX12_aLine_29 rfl (lv_at hl 0 rfl) ?_
      refine lv_iconst (v := 3) hx hb dX12_aLine_30 (by decide) ?_
      have a_q100 := a_h0
      have hx_q100 := iv_get64 hB a_h0
      have hs_q100 := iv_s18 hB a_h0
      refine iv_cVi X k_good k_mf_X12_bad k_im_X12_bad k_sel_X12_bad k_ml_X12_186 ft_X12 hB a_h0 sh_12 (As := [.int 3]) (f_X12_bad l D tys base G h0 g_h0 r_h0 a_h0 3 (q_3.wk (by decide)) (hL.J a_lb a_h0) T n K V P hR rr0 hr3 dp0 i0 RS) ⟨rfl, rfl⟩ ⟨Nat.le_of_ble_eq_true rfl, Nat.le_of_ble_eq_true rfl⟩ ⟨Nat.le_of_ble_eq_true rfl, Nat.le_of_ble_eq_true rfl⟩ rfl rfl hl.1 (Nat.le_of_ble_eq_true rfl) dX12_aLine_31 (fun x101 G9 H locs hq hB => ?_)
      obtain ⟨hm, i_x101, xp102, xm⟩ := hq
      obtain ⟨G103, hG9⟩ : ∃ g, g = G9 := ⟨_, rfl⟩
      rw [← hG9] at hm hB xp102 xm
      have hM := hM.stp (iv_MdT.of hm) (by decide)
      obtain ⟨g104, r105, a_h0, f_g104⟩ := hm.ex a_h0
      have e106 : y12 = g104 12 := e_y12.trans (f_g104.2.1 12 (show (12 : Nat) ∈ iv_stab 12 from by decide)).symm
      have e107 : (r_h0 5) = r105 5 := (rfl : r_h0 5 = r_h0 5).trans (f_g104.1 5 (fun h => absurd (show (12 : Nat) = 5 from h) (by decide))).symm
      have hfl0 := hm.at hfl0 (by decide)
      have hL : iv_pr (0) 0 h0 G G103 := (hL.tr xp102).wk (by decide)
      exact iv_zret X hr hlocks hB (i_x101.wk (by decide)) ⟨hM, (i_x101.wk (by decide)), ⟨((hP.tr hL).wk (by decide)), fun h => absurd (iv_z i_x101) h, (⟨fun h => absurd (iv_z i_x101) h, fun _ => ⟨i0, 3, mh_many (RSb.kd hR) hr12 CF (by rw [← hy17]; exact ⟨i5_y17.1, i5_y17.2⟩) (by have w := congrArg Int32.toInt e_y12; have w2 := i98_y12.1; omega), xm⟩⟩)⟩⟩ dX12_aLine_34
  · skip
    have i107_x1 : iv_R 0 0 x1 := (i_x1.cutHi (n := 0) (iv_eq_r c4 q_0).2)
    refine lv_aload_n hx hb dX12_aLine_14 rfl (lv_at hl 0 rfl) ?_
    refine lv_iconst (v := 1) hx hb dX12_aLine_15 (by decide) ?_
    have a_q109 := a_h0
    have hx_q109 := iv_get64 hB a_h0
    have hs_q109 := iv_s18 hB a_h0
    refine iv_cVi X k_good k_mf_X12_bad k_im_X12_bad k_sel_X12_bad k_ml_X12_186 ft_X12 hB a_h0 sh_12 (As := [.int 1]) (f_X12_bad l D tys base G h0 g_h0 r_h0 a_h0 1 (q_1.wk (by decide)) (hL.J a_lb a_h0) T n K V P hR rr0 hr3 dp0 i0 RS) ⟨rfl, rfl⟩ ⟨Nat.le_of_ble_eq_true rfl, Nat.le_of_ble_eq_true rfl⟩ ⟨Nat.le_of_ble_eq_true rfl, Nat.le_of_ble_eq_true rfl⟩ rfl rfl hl.1 (Nat.le_of_ble_eq_true rfl) dX12_aLine_16 (fun x110 G9 H locs hq hB => ?_)
    obtain ⟨hm, i_x110, xp111, xm⟩ := hq
    obtain ⟨G112, hG9⟩ : ∃ g, g = G9 := ⟨_, rfl⟩
    rw [← hG9] at hm hB xp111 xm
    have hM := hM.stp (iv_MdT.of hm) (by decide)
    obtain ⟨g113, r114, a_h0, f_g113⟩ := hm.ex a_h0
    have e115 : y12 = g113 12 := e_y12.trans (f_g113.2.1 12 (show (12 : Nat) ∈ iv_stab 12 from by decide)).symm
    have e116 : (r_h0 5) = r114 5 := (rfl : r_h0 5 = r_h0 5).trans (f_g113.1 5 (fun h => absurd (show (12 : Nat) = 5 from h) (by decide))).symm
    have hfl0 := hm.at hfl0 (by decide)
    have hL : iv_pr (0) 0 h0 G G112 := (hL.tr xp111).wk (by decide)
    exact iv_zret X hr hlocks hB (i_x110.wk (by decide)) ⟨hM, (i_x110.wk (by decide)), ⟨((hP.tr hL).wk (by decide)), fun h => absurd (iv_z i_x110) h, (⟨fun h => absurd (iv_z i_x110) h, fun _ => ⟨i0, 1, mh_no (RSb.kd hR) CF hz (fun q => by have w := hp2.2 c4; rw [← hy17] at q; have e20 : (20 : Int32).toInt = 20 := rfl; have e22 : (22 : Int32).toInt = 22 := rfl; omega), xm⟩⟩)⟩⟩ dX12_aLine_19
set_option maxHeartbeats 4000000 in
set_option maxRecDepth 100000 in
theorem f_X12_readsLaw (l : Launch) (D : va_G) (tys : List (ClassId × FieldType)) (base : Nat) (G : iv_G) (h0 : Nat) (g_h0 : Nat → Int32) (r_h0 : Nat → Nat) (a_h0 : G h0 = some (12, g_h0, r_h0)) (hJ : iv_J g_h0) (T : Nat → Int) (n : Nat) (K V P : Nat → Int) (hR : tk_R T n K V P) (rr0 : Nat) (hr3 : rr0 < 3) (dp0 i0 : Nat) (RS : mw h0 T n K V P rr0 dp0 i0 G) (hr12 : rr0 = 1 ∨ rr0 = 2) (nn0 : Nat) (CF : tk_cf rr0 nn0 K V i0 = .head 0) : Met l yX12_readsLaw (Cond.code yX12_readsLaw cX12_readsLaw 2 (some .boolean) :: iv_W0) ({ frames := 1222, cells := 0, slots := 0, locals := 24857 }) (iv_Pc iv_sh D classes tys base G [.ref h0]) (iv_Qi iv_sh D classes tys base (fun v G' => iv_MdT [12, 63, 64] G G' ∧ iv_R 0 1 v ∧ (¬ v = 0 → iv_FL h0 G') ∧ ((¬ v = 0 → ∃ j l : Nat, tk_cf rr0 nn0 K V j = .fin l ∧ ∀ (g' : Nat → Int32) (r' : Nat → Nat), G' h0 = some (12, g', r') → (g' 12).toInt = (l : Int) ∧ g' 22 = 0 ∧ g' 24 = -1) ∧ (v = 0 → ∃ i k : Nat, tk_F rr0 nn0 K V i k ∧ mt_ h0 P k i G')))) 0 0 (iv_A base) := by
  refine iv_head (by decide) (Nat.le_of_ble_eq_true rfl) ?_
  intro p e s m args below meth c ls X hr hlocks hname hB hl
  have X := X
  have hx := X.1.1
  have hb := X.1.2.1
  have hM : iv_MdT [12, 63, 64] G G := iv_MdT.rf
  have hs18 := iv_s18 hB a_h0
  have hl : lv_has ls 2 [(0, .ref h0)] := hl
  refine lv_aload_n hx hb dX12_readsLaw_0 rfl (lv_at hl 0 rfl) ?_
  refine lv_iconst (v := 0) hx hb dX12_readsLaw_1 (by decide) ?_
  refine iv_puti X ft_X12 hB a_h0 sh_12 12 (by decide) rfl rfl k_fl_X12_227 rfl (q_0.wk (by decide)) rfl rfl dX12_readsLaw_2 (fun H locs hB => ?_)
  have hm := iv_MdT.put (x := 0) a_h0 (j := 12) (by decide)
  have h9 := iv_up_eq (G := G) (a := h0) (k := (12, upd g_h0 12 0, r_h0))
  have RS := RS.put (x := 0) a_h0 (j := 12) (by decide)
  generalize iv_up G h0 _ = G1 at hB hm h9 RS
  have hM := hM.stp hm (by decide)
  generalize hgn_g2 : upd g_h0 _ _ = g2 at h9
  have a_h0 := h9
  have e9_g2 : 0 = g2 12 := by rw [← hgn_g2]; simp [upd]
  refine lv_aload_n hx hb dX12_readsLaw_5 rfl (lv_at hl 0 rfl) ?_
  refine lv_iconst (v := 0) hx hb dX12_readsLaw_6 (by decide) ?_
  refine iv_puti X ft_X12 hB a_h0 sh_12 13 (by decide) rfl rfl k_fl_X12_192 rfl (q_0.wk (by decide)) rfl rfl dX12_readsLaw_7 (fun H locs hB => ?_)
  have hm := iv_MdT.put (x := 0) a_h0 (j := 13) (by decide)
  have h9 := iv_up_eq (G := G1) (a := h0) (k := (12, upd g2 13 0, r_h0))
  have RS := RS.put (x := 0) a_h0 (j := 13) (by decide)
  generalize iv_up G1 h0 _ = G3 at hB hm h9 RS
  have hM := hM.stp hm (by decide)
  generalize hgn_g4 : upd g2 _ _ = g4 at h9
  have a_h0 := h9
  have e5 : 0 = g4 12 := by rw [← hgn_g4]; exact e9_g2
  have e9_g4 : 0 = g4 13 := by rw [← hgn_g4]; simp [upd]
  refine lv_iconst (v := 1) hx hb dX12_readsLaw_10 (by decide) ?_
  refine lv_istore_n (lv' := [(1, .int 1), (0, .ref h0)]) hx hb dX12_readsLaw_11 rfl hl (by decide) rfl (fun ls hl => ?_)
  have L_12 : ∀ (n_12 : Nat) (G9 : iv_G) (hM : iv_MdT [12, 63, 64] G G9) (H : Heap) (locs : List Loc) (hB : iv_B iv_sh D classes tys base G9 s.heap H locs) (g7 : Nat → Int32) (r8 : Nat → Nat) (a_h0 : G9 h0 = some (12, g7, r8)) (x6 : Int32) (i_x6 : iv_R 0 1 x6) (hn_12 : (401 - (g7 18).toInt).toNat + x6.toInt.toNat < n_12) (gi_12 : iv_J g7 ∧ (g7 13).toInt ≤ (g7 18).toInt ∧ (¬ x6 = 0 → iv_FL h0 G9)) (Q12 : (¬ x6 = 0 → ∃ i1 l1 dp1 : Nat, mw h0 T n K V P rr0 dp1 i1 G9 ∧ tk_cf rr0 nn0 K V i1 = .head l1 ∧ (g7 12).toInt = (l1 : Int)) ∧ (x6 = 0 → ∃ i k : Nat, tk_F rr0 nn0 K V i k ∧ mt_ h0 P k i G9)) (ls : Array Slot) (hl : lv_has ls 2 [(1, .int x6), (0, .ref h0)]), W p l e ({ frames := 1222, cells := 0, slots := 0, locals := 24857 } : Room) s m args below meth c H locs 0 0 (MQ below (iv_Qi iv_sh D classes tys base (fun v G' => iv_MdT [12, 63, 64] G G' ∧ iv_R 0 1 v ∧ (¬ v = 0 → iv_FL h0 G') ∧ ((¬ v = 0 → ∃ j l : Nat, tk_cf rr0 nn0 K V j = .fin l ∧ ∀ (g' : Nat → Int32) (r' : Nat → Nat), G' h0 = some (12, g', r') → (g' 12).toInt = (l : Int) ∧ g' 22 = 0 ∧ g' 24 = -1) ∧ (v = 0 → ∃ i k : Nat, tk_F rr0 nn0 K V i k ∧ mt_ h0 P k i G')))) args s 0 0 (iv_A base)) (F0 m 12 ls []) := by
    intro n_12
    induction n_12 with
    | zero => intro G9 hM H locs hB g7 r8 a_h0 x6 i_x6 hn_12 gi_12 Q12 ls hl; exact absurd hn_12 (Nat.not_lt_zero _)
    | succ n_12 ih_12 =>
      intro G9 hM H locs hB g7 r8 a_h0 x6 i_x6 hn_12 gi_12 Q12 ls hl
      refine lv_iload_n hx hb dX12_readsLaw_12 rfl (lv_at hl 0 rfl) ?_
      refine lv_if_eq (tgt := 49) hx hb dX12_readsLaw_13 (by decide) (fun c10 => ?_) (fun c10 => ?_)
      · skip
        have i10_x6 : iv_R 0 0 x6 := (i_x6.cutHi (n := 0) (iv_eq_r c10 q_0).2)
        refine lv_iload_n hx hb dX12_readsLaw_49 rfl (lv_at hl 0 rfl) ?_
        exact iv_zret X hr hlocks hB (i10_x6.wk (by decide)) ⟨hM, (i10_x6.wk (by decide)), gi_12.2.2, (⟨fun h => absurd c10 h, Q12.2⟩)⟩ dX12_readsLaw_50
      · skip
        obtain ⟨i1, l1, dp1, RS, CF1, hl1⟩ := Q12.1 c10
        have i11_x6 : iv_R 1 1 x6 := iv_ne_lo c10 i_x6 q_0 (by decide)
        refine lv_aload_n hx hb dX12_readsLaw_16 rfl (lv_at hl 1 rfl) ?_
        refine iv_geti X ft_X12 hB a_h0 sh_12 17 (by decide) rfl k_fl_X12_165 dX12_readsLaw_17 (fun x13 e_x13 i_x13 => ?_)
        have hx13 : x13.toInt = tk_M rr0 (K i1) := by rw [e_x13]; exact RS.tok a_h0
        refine lv_if_eq (tgt := 49) hx hb dX12_readsLaw_20 (by decide) (fun c14 => ?_) (fun c14 => ?_)
        · skip
          have m14 : tk_M rr0 (K i1) = 0 := by rw [← hx13, c14]; rfl
          have i14_x13 : iv_R 0 0 x13 := ((i_x13.cutLo (n := 0) (iv_eq_r c14 q_0).1).cutHi (n := 0) (iv_eq_r c14 q_0).2)
          refine lv_iload_n hx hb dX12_readsLaw_49 rfl (lv_at hl 0 rfl) ?_
          exact iv_zret X hr hlocks hB (i11_x6.wk (by decide)) ⟨hM, (i11_x6.wk (by decide)), gi_12.2.2, (⟨fun _ => ⟨i1 + 1, l1, mh_fin (RS.kd hR) CF1 m14, fun g8 r8 h8 => by cases a_h0.symm.trans h8; exact ⟨hl1, RS.2.flt a_h0⟩⟩, fun h => absurd h c10⟩)⟩ dX12_readsLaw_50
        · skip
          have m14 : ¬ tk_M rr0 (K i1) = 0 := fun q => c14 (Int32.toInt_inj.mp (by rw [hx13, q]; rfl))
          refine lv_aload_n hx hb dX12_readsLaw_23 rfl (lv_at hl 1 rfl) ?_
          have a_bf := a_h0
          have hx5 := iv_get63 hB a_h0
          have hx6 := iv_get64 hB a_h0
          have hs18 := iv_s18 hB a_h0
          have h12 := iv_sl12 hB a_h0 12 (by decide) rfl
          refine iv_cVi X k_good k_mf_X12_aLine k_im_X12_aLine k_sel_X12_aLine k_ml_X12_230 ft_X12 hB a_h0 sh_12 (As := []) (f_X12_aLine l D tys base G9 h0 g7 r8 a_h0 gi_12.1 gi_12.2.1 T n K V P hR rr0 hr3 dp1 i1 RS hr12 nn0 l1 hl1 m14 CF1) ⟨rfl, rfl⟩ ⟨Nat.le_of_ble_eq_true rfl, Nat.le_of_ble_eq_true rfl⟩ ⟨Nat.le_of_ble_eq_true rfl, Nat.le_of_ble_eq_true rfl⟩ rfl rfl hl.1 (Nat.le_of_ble_eq_true rfl) dX12_readsLaw_24 (fun x16 G9 H locs hq hB => ?_)
          obtain ⟨hm, i_x16, xp17a, xp17b, xm⟩ := hq
          have xp17 := And.intro xp17a xp17b
          obtain ⟨G18, hG9⟩ : ∃ g, g = G9 := ⟨_, rfl⟩
          rw [← hG9] at hm hB xp17 xm
          have hM := hM.stp hm (by decide)
          obtain ⟨g19, r20, a_h0, f_g19⟩ := hm.ex a_h0
          refine lv_istore_n (lv' := [(1, .int x16), (0, .ref h0)]) hx hb dX12_readsLaw_27 rfl hl (by decide) rfl (fun ls hl => ?_)
          refine lv_aload_n hx hb dX12_readsLaw_28 rfl (lv_at hl 1 rfl) ?_
          refine lv_dup hx hb dX12_readsLaw_29 rfl ?_
          refine iv_geti X ft_X12 hB a_h0 sh_12 12 (by decide) rfl k_fl_X12_227 dX12_readsLaw_30 (fun x21 e_x21 i_x21 => ?_)
          refine lv_iload_n hx hb dX12_readsLaw_33 rfl (lv_at hl 0 rfl) ?_
          refine lv_if_eq (tgt := 41) hx hb dX12_readsLaw_34 (by decide) (fun c22 => ?_) (fun c22 => ?_)
          · skip
            have i22_x16 : iv_R 0 0 x16 := (i_x16.cutHi (n := 0) (iv_eq_r c22 q_0).2)
            refine lv_iconst (v := 0) hx hb dX12_readsLaw_41 (by decide) ?_
            refine iv_iadd hx hb i_x21 q_0 (lo := 0) (hi := 16) (by decide) dX12_readsLaw_42 (fun x24 e_x24 i_x24 => ?_)
            have e_x24 : x24.toInt = x21.toInt + 0 := e_x24
            have a_b6 := a_h0
            refine iv_puti X ft_X12 hB a_h0 sh_12 12 (by decide) rfl rfl k_fl_X12_227 rfl i_x24 rfl rfl dX12_readsLaw_43 (fun H locs hB => ?_)
            have hm := iv_MdT.put (x := x24) a_h0 (j := 12) (by decide)
            have h9 := iv_up_eq (G := G18) (a := h0) (k := (12, upd g19 12 x24, r20))
            have MT : ∃ i k : Nat, tk_F rr0 nn0 K V i k ∧ mt_ h0 P k i (iv_up G18 h0 (12, upd g19 12 x24, r20)) := by obtain ⟨i, k, h1, h2⟩ := xm.2 c22; exact ⟨i, k, h1, h2.put a_h0 (by decide)⟩
            generalize iv_up G18 h0 _ = G25 at hB hm h9 MT
            have hM := hM.stp hm (by decide)
            generalize hgn_g26 : upd g19 _ _ = g26 at h9
            have a_h0 := h9
            have e9_g26 : x24 = g26 12 := by rw [← hgn_g26]; simp [upd]
            refine lv_goto (tgt := 12) hx hb dX12_readsLaw_46 (by decide) ?_
            exact ih_12 G25 hM _ _ hB g26 r20 a_h0 x16 (i22_x16.wk (by decide)) (by have w1 := (xp17.1).ge (by decide) a_bf a_b6; have w2 : g26 18 = g19 18 := (by rw [← hgn_g26]; simp [upd]); have w3 := i22_x16.2; have w4 := i11_x6.1; have w5 := hs18.1.2; rw [w2]; omega) ⟨by rw [← hgn_g26]; exact ((xp17.1).J a_bf a_b6).pt (by decide), by rw [← hgn_g26]; simp only [upd]; rw [if_neg (by decide), if_neg (by decide)]; exact (xp17.1).le (by decide) a_bf a_b6 gi_12.2.1, fun h => absurd (by assumption) h⟩ ⟨fun h => absurd c22 h, fun _ => MT⟩ _ (lv_sub hl [0, 1] rfl)
          · skip
            obtain ⟨j1, hj1, RS, cf1⟩ := xm.1 c22
            have kdj1 := RS.kd hR
            have i26_x16 : iv_R 1 1 x16 := iv_ne_lo c22 i_x16 q_0 (by decide)
            refine lv_iconst (v := 1) hx hb dX12_readsLaw_37 (by decide) ?_
            refine lv_goto (tgt := 42) hx hb dX12_readsLaw_38 (by decide) ?_
            have i27_x21 : iv_R 0 15 x21 := ⟨i_x21.1, by rw [e_x21, (xp17.1).s12 a_bf a_h0]; exact (xp17.2 c22).2.1⟩
            refine iv_iadd hx hb i27_x21 q_1 (lo := 1) (hi := 16) (by decide) dX12_readsLaw_42 (fun x29 e_x29 i_x29 => ?_)
            have e_x29 : x29.toInt = x21.toInt + 1 := e_x29
            have a_b6 := a_h0
            have hF := iv_FL.step (x := x29) (gi_12.2.2 c10) (xp17.2 c22).2.2 (xp17.2 c22).1 a_bf hx5 hx6 a_h0 h12.1 (by have w1 := congrArg Int32.toInt ((e_x21).trans ((xp17.1).s12 a_bf a_h0)); omega)
            refine iv_puti X ft_X12 hB a_h0 sh_12 12 (by decide) rfl rfl k_fl_X12_227 rfl (i_x29.wk (by decide)) rfl rfl dX12_readsLaw_43 (fun H locs hB => ?_)
            have hm := iv_MdT.put (x := x29) a_h0 (j := 12) (by decide)
            have h9 := iv_up_eq (G := G18) (a := h0) (k := (12, upd g19 12 x29, r20))
            have RS := RS.put (x := x29) a_h0 (j := 12) (by decide)
            generalize iv_up G18 h0 _ = G30 at hB hm h9 hF RS
            have hM := hM.stp hm (by decide)
            generalize hgn_g31 : upd g19 _ _ = g31 at h9
            have a_h0 := h9
            have e9_g31 : x29 = g31 12 := by rw [← hgn_g31]; simp [upd]
            refine lv_goto (tgt := 12) hx hb dX12_readsLaw_46 (by decide) ?_
            exact ih_12 G30 hM _ _ hB g31 r20 a_h0 x16 (i26_x16.wk (by decide)) (by have w1 := (xp17.2 c22).1.gt (by decide) a_bf a_b6; have w2 : g31 18 = g19 18 := (by rw [← hgn_g31]; simp [upd]); have w3 := i26_x16.2; have w4 := i11_x6.1; have w5 := hs18.1.2; rw [w2]; omega) ⟨by rw [← hgn_g31]; exact ((xp17.1).J a_bf a_b6).pt (by decide), by rw [← hgn_g31]; simp only [upd]; rw [if_neg (by decide), if_neg (by decide)]; exact (xp17.1).le (by decide) a_bf a_b6 gi_12.2.1, fun _ => hF⟩ ⟨fun _ => ⟨j1, l1 + 1, 0, RS, cf1, by have w := congrArg Int32.toInt e9_g31; have w2 := congrArg Int32.toInt (e_x21.trans ((xp17.1).s12 a_bf a_b6)); rw [← w, e_x29]; omega⟩, fun h => absurd h c22⟩ _ (lv_sub hl [0, 1] rfl)
  exact L_12 _ G3 hM _ _ hB g4 r_h0 a_h0 1 (q_1.wk (by decide)) (Nat.lt_succ_self _) ⟨by rw [← hgn_g4, ← hgn_g2]; exact (hJ.pt (by decide)).pt (by decide), by rw [← hgn_g4, ← hgn_g2]; simp [upd]; exact hs18.1.1, fun _ => iv_FL.zero a_h0 (by rw [← hgn_g4, ← hgn_g2]; simp [upd])⟩ ⟨fun _ => ⟨i0, 0, dp0, RS, CF, by rw [← e5]; rfl⟩, fun h => absurd h (by decide)⟩ _ (lv_sub hl [0, 1] rfl)
