set_option maxHeartbeats 4000000 in
set_option maxRecDepth 100000 in
theorem f_X12_number (l : Launch) (D : va_G) (tys : List (ClassId × FieldType)) (base : Nat) (G : iv_G) (h0 : Nat) (g_h0 : Nat → Int32) (r_h0 : Nat → Nat) (a_h0 : G h0 = some (12, g_h0, r_h0)) (x_0 : Int32) (i_x_0 : iv_R (-2147483648) 2147483647 x_0) (x_1 : Int32) (i_x_1 : iv_R (-2147483648) 2147483647 x_1) (hJ : iv_J g_h0) (T : Nat → Int) (n : Nat) (K V P : Nat → Int) (hR : tk_R T n K V P) (rr0 : Nat) (hr3 : rr0 < 3) (dp0 i0 : Nat) (RS : mw h0 T n K V P rr0 dp0 i0 G) : Met l yX12_number (Cond.code yX12_number cX12_number 3 (some .boolean) :: iv_W0) ({ frames := 9, cells := 0, slots := 0, locals := 190 }) (iv_Pc iv_sh D classes tys base G [.ref h0, .int x_0, .int x_1]) (iv_Qi iv_sh D classes tys base (fun v G' => iv_Md [12] G G' ∧ iv_R 0 1 v ∧ iv_pr 0 0 h0 G G' ∧ (¬ v = 0 → iv_pr 1 0 h0 G G') ∧ ((¬ v = 0 → tk_M rr0 (K i0) = 2 ∧ x_0.toInt ≤ V i0 ∧ V i0 ≤ x_1.toInt ∧ i0 < tk_c T n n ∧ mw h0 T n K V P rr0 dp0 (i0 + 1) G') ∧ (v = 0 → (¬ tk_M rr0 (K i0) = 2 ∧ mt_ h0 P 1 i0 G') ∨ (tk_M rr0 (K i0) = 2 ∧ (V i0 < x_0.toInt ∨ x_1.toInt < V i0) ∧ mt_ h0 P 2 i0 G'))))) 0 0 (iv_A base) := by
  refine iv_head (by decide) (Nat.le_of_ble_eq_true rfl) ?_
  intro p e s m args below meth c ls X hr hlocks hname hB hl
  have X := X
  have hx := X.1.1
  have hb := X.1.2.1
  have hM : iv_Md [12] G G := iv_Md.rf
  have a_st := a_h0
  have a_lb := a_h0
  have hP : iv_pr 0 0 h0 G G := iv_pr.rf a_h0 hJ
  have hL : iv_pr 0 0 h0 G G := hP
  have hl : lv_has ls 3 [(0, .ref h0), (1, .int x_0), (2, .int x_1)] := hl
  obtain ⟨y17, e_y17⟩ : ∃ x, x = g_h0 17 := ⟨_, rfl⟩
  have i_y17 := iv_R.all y17
  have hy17 : y17.toInt = tk_M rr0 (K i0) := by rw [e_y17]; exact RS.tok a_h0
  refine lv_aload_n hx hb dX12_number_0 rfl (lv_at hl 0 rfl) ?_
  refine iv_geti0 X ft_X12 hB a_h0 sh_12 17 (by decide) rfl k_fl_X12_165 dX12_number_1 e_y17 ?_
  refine lv_iconst (v := 2) hx hb dX12_number_4 (by decide) ?_
  refine lv_icmp_eq (tgt := 14) hx hb dX12_number_5 (by decide) (fun c1 => ?_) (fun c1 => ?_)
  · skip
    have m1 : tk_M rr0 (K i0) = 2 := by rw [← hy17, c1]; rfl
    have i1_y17 : iv_R 2 2 y17 := ((i_y17.cutLo (n := 2) (iv_eq_r c1 q_2).1).cutHi (n := 2) (iv_eq_r c1 q_2).2)
    refine lv_aload_n hx hb dX12_number_14 rfl (lv_at hl 0 rfl) ?_
    refine iv_geti X ft_X12 hB a_h0 sh_12 19 (by decide) rfl k_fl_X12_177 dX12_number_15 (fun x3 e_x3 i_x3 => ?_)
    have hv3 : x3.toInt = V i0 := by rw [e_x3]; exact (RS.val hR a_h0 m1).1
    have hlt9 := RS.lt hR (by rw [m1]; decide)
    refine lv_iload_n hx hb dX12_number_18 rfl (lv_at hl 1 rfl) ?_
    refine lv_iload_n hx hb dX12_number_19 rfl (lv_at hl 2 rfl) ?_
    refine iv_cSi X k_good k_mf_X12_isIn k_st_X12_isIn k_ml_X12_56 hB (As := [.int x3, .int x_0, .int x_1]) (c_X12_isIn l D tys base G x3 i_x3 x_0 i_x_0 x_1 i_x_1) ⟨rfl, rfl⟩ ⟨Nat.le_of_ble_eq_true rfl, Nat.le_of_ble_eq_true rfl⟩ ⟨Nat.le_of_ble_eq_true rfl, Nat.le_of_ble_eq_true rfl⟩ rfl rfl hl.1 (Nat.le_of_ble_eq_true rfl) dX12_number_20 (fun x4 G9 H locs hq hB => ?_)
    obtain ⟨rfl, i_x4, hp5⟩ := hq
    have k6 : ¬ x4 = 0 → iv_R (-2147483648) 2147483647 x3 := fun h => ⟨iv_max i_x3.1 (Int.le_trans i_x_0.1 (hp5.1 h).1) (by decide), iv_min i_x3.2 (Int.le_trans (hp5.1 h).2 i_x_1.2) (by decide)⟩
    refine lv_if_ne (tgt := 32) hx hb dX12_number_23 (by decide) (fun c7 => ?_) (fun c7 => ?_)
    · skip
      have i7_x4 : iv_R 1 1 x4 := iv_ne_lo c7 i_x4 q_0 (by decide)
      refine lv_aload_n hx hb dX12_number_32 rfl (lv_at hl 0 rfl) ?_
      refine lv_aload_n hx hb dX12_number_33 rfl (lv_at hl 0 rfl) ?_
      refine iv_geti0 X ft_X12 hB a_h0 sh_12 19 (by decide) rfl k_fl_X12_177 dX12_number_34 e_x3 ?_
      refine iv_puti X ft_X12 hB a_h0 sh_12 25 (by decide) rfl rfl k_fl_X12_233 rfl i_x3 rfl rfl dX12_number_37 (fun H locs hB => ?_)
      have hm := iv_Md.put (x := x3) a_h0 (j := 25) (by decide) (by decide)
      have h9 := iv_up_eq (G := G) (a := h0) (k := (12, upd g_h0 25 x3, r_h0))
      have hL := hL.put (x := x3) a_h0 (j := 25) (by decide)
      have RS := RS.put (x := x3) a_h0 (j := 25) (by decide)
      generalize iv_up G h0 _ = G9 at hB hm h9 hL RS
      have hM := hM.stp hm (by decide)
      generalize hgn_g10 : upd g_h0 _ _ = g10 at h9
      have a_h0 := h9
      have e11 : y17 = g10 17 := by rw [← hgn_g10]; exact e_y17
      have e12 : x3 = g10 19 := by rw [← hgn_g10]; exact e_x3
      have e9_g10 : x3 = g10 25 := by rw [← hgn_g10]; simp [upd]
      refine lv_aload_n hx hb dX12_number_40 rfl (lv_at hl 0 rfl) ?_
      have a_q13 := a_h0
      have hx_q13 := iv_get64 hB a_h0
      have hs_q13 := iv_s18 hB a_h0
      refine iv_cVv X k_good k_mf_X12_next0 k_im_X12_next0 k_sel_X12_next0 k_ml_X12_189 ft_X12 hB a_h0 sh_12 (As := []) (f_X12_next0 l D tys base G9 h0 g10 r_h0 a_h0 T n K V P hR rr0 (i0 + 1) hr3 (RS.1.me (RS.lt hR (by rw [m1]; decide)))) ⟨rfl, rfl⟩ ⟨Nat.le_of_ble_eq_true rfl, Nat.le_of_ble_eq_true rfl⟩ ⟨Nat.le_of_ble_eq_true rfl, Nat.le_of_ble_eq_true rfl⟩ rfl rfl hl.1 (Nat.le_of_ble_eq_true rfl) dX12_number_41 (fun G9 H locs hq hB => ?_)
      obtain ⟨hm, xp14, xm⟩ := hq
      obtain ⟨G15, hG9⟩ : ∃ g, g = G9 := ⟨_, rfl⟩
      rw [← hG9] at hm hB xp14 xm
      have hM := hM.stp hm (by decide)
      have RS := RS.next hm xm
      obtain ⟨g16, r17, a_h0, f_g16⟩ := hm.ex a_h0
      have hL : iv_pr (1) 0 h0 G G15 := (hL.next1 hm a_q13 xp14 (by rw [← e11]; exact Int.le_trans (by decide) i1_y17.1)).wk (by decide)
      refine lv_iconst (v := 1) hx hb dX12_number_44 (by decide) ?_
      exact iv_zret X hr hlocks hB (q_1.wk (by decide)) ⟨hM, (q_1.wk (by decide)), ⟨((hP.tr hL).wk (by decide)), fun _ => (hP.tr hL).wk (by decide), (⟨fun _ => ⟨m1, by rw [← hv3]; exact (hp5.1 c7).1, by rw [← hv3]; exact (hp5.1 c7).2, hlt9, RS⟩, fun h => absurd h (by decide)⟩)⟩⟩ dX12_number_45
    · skip
      have i17_x4 : iv_R 0 0 x4 := (i_x4.cutHi (n := 0) (iv_eq_r c7 q_0).2)
      refine lv_aload_n hx hb dX12_number_26 rfl (lv_at hl 0 rfl) ?_
      refine lv_iconst (v := 2) hx hb dX12_number_27 (by decide) ?_
      have a_q19 := a_h0
      have hx_q19 := iv_get64 hB a_h0
      have hs_q19 := iv_s18 hB a_h0
      refine iv_cVi X k_good k_mf_X12_bad k_im_X12_bad k_sel_X12_bad k_ml_X12_186 ft_X12 hB a_h0 sh_12 (As := [.int 2]) (f_X12_bad l D tys base G h0 g_h0 r_h0 a_h0 2 (q_2.wk (by decide)) (hL.J a_lb a_h0) T n K V P hR rr0 hr3 dp0 i0 RS) ⟨rfl, rfl⟩ ⟨Nat.le_of_ble_eq_true rfl, Nat.le_of_ble_eq_true rfl⟩ ⟨Nat.le_of_ble_eq_true rfl, Nat.le_of_ble_eq_true rfl⟩ rfl rfl hl.1 (Nat.le_of_ble_eq_true rfl) dX12_number_28 (fun x20 G9 H locs hq hB => ?_)
      obtain ⟨hm, i_x20, xp21, xm⟩ := hq
      obtain ⟨G22, hG9⟩ : ∃ g, g = G9 := ⟨_, rfl⟩
      rw [← hG9] at hm hB xp21 xm
      have hM := hM.stp hm (by decide)
      obtain ⟨g23, r24, a_h0, f_g23⟩ := hm.ex a_h0
      have hL : iv_pr (0) 0 h0 G G22 := (hL.tr xp21).wk (by decide)
      exact iv_zret X hr hlocks hB (i_x20.wk (by decide)) ⟨hM, (i_x20.wk (by decide)), ⟨((hP.tr hL).wk (by decide)), fun h => absurd (iv_z i_x20) h, (⟨fun h => absurd (iv_z i_x20) h, fun _ => Or.inr ⟨m1, by rw [← hv3]; exact hp5.2 c7, xm⟩⟩)⟩⟩ dX12_number_31
  · skip
    have m1 : ¬ tk_M rr0 (K i0) = 2 := fun q => c1 (Int32.toInt_inj.mp (by rw [hy17, q]; rfl))
    refine lv_aload_n hx hb dX12_number_8 rfl (lv_at hl 0 rfl) ?_
    refine lv_iconst (v := 1) hx hb dX12_number_9 (by decide) ?_
    have a_q25 := a_h0
    have hx_q25 := iv_get64 hB a_h0
    have hs_q25 := iv_s18 hB a_h0
    refine iv_cVi X k_good k_mf_X12_bad k_im_X12_bad k_sel_X12_bad k_ml_X12_186 ft_X12 hB a_h0 sh_12 (As := [.int 1]) (f_X12_bad l D tys base G h0 g_h0 r_h0 a_h0 1 (q_1.wk (by decide)) (hL.J a_lb a_h0) T n K V P hR rr0 hr3 dp0 i0 RS) ⟨rfl, rfl⟩ ⟨Nat.le_of_ble_eq_true rfl, Nat.le_of_ble_eq_true rfl⟩ ⟨Nat.le_of_ble_eq_true rfl, Nat.le_of_ble_eq_true rfl⟩ rfl rfl hl.1 (Nat.le_of_ble_eq_true rfl) dX12_number_10 (fun x26 G9 H locs hq hB => ?_)
    obtain ⟨hm, i_x26, xp27, xm⟩ := hq
    obtain ⟨G28, hG9⟩ : ∃ g, g = G9 := ⟨_, rfl⟩
    rw [← hG9] at hm hB xp27 xm
    have hM := hM.stp hm (by decide)
    obtain ⟨g29, r30, a_h0, f_g29⟩ := hm.ex a_h0
    have hL : iv_pr (0) 0 h0 G G28 := (hL.tr xp27).wk (by decide)
    exact iv_zret X hr hlocks hB (i_x26.wk (by decide)) ⟨hM, (i_x26.wk (by decide)), ⟨((hP.tr hL).wk (by decide)), fun h => absurd (iv_z i_x26) h, (⟨fun h => absurd (iv_z i_x26) h, fun _ => Or.inl ⟨m1, xm⟩⟩)⟩⟩ dX12_number_13
set_option maxHeartbeats 4000000 in
set_option maxRecDepth 100000 in
theorem f_X12_told (l : Launch) (D : va_G) (tys : List (ClassId × FieldType)) (base : Nat) (G : iv_G) (h0 : Nat) (g_h0 : Nat → Int32) (r_h0 : Nat → Nat) (a_h0 : G h0 = some (12, g_h0, r_h0)) (n_g_h0 : iv_R 0 19 (g_h0 14)) (x_0 : Int32) (i_x_0 : iv_R 0 2 x_0) (x_1 : Int32) (i_x_1 : iv_R 7 9 x_1) (x_2 : Int32) (i_x_2 : iv_R (-2147483648) 2147483647 x_2) (x_3 : Int32) (i_x_3 : iv_R (-2147483648) 2147483647 x_3) (hJ : iv_J g_h0) (T : Nat → Int) (n : Nat) (K V P : Nat → Int) (hR : tk_R T n K V P) (rr0 : Nat) (hr3 : rr0 < 3) (dp0 i0 : Nat) (RS : mw h0 T n K V P rr0 dp0 i0 G) : Met l yX12_told (Cond.code yX12_told cX12_told 5 (some .boolean) :: iv_W0) ({ frames := 10, cells := 0, slots := 0, locals := 212 }) (iv_Pc iv_sh D classes tys base G [.ref h0, .int x_0, .int x_1, .int x_2, .int x_3]) (iv_Qi iv_sh D classes tys base (fun v G' => iv_Md [12, 65] G G' ∧ iv_R 0 1 v ∧ iv_pr 0 0 h0 G G' ∧ (¬ v = 0 → iv_pr 1 0 h0 G G') ∧ ((¬ v = 0 → tk_M rr0 (K i0) = x_1.toInt ∧ tk_M rr0 (K (i0 + 1)) = 2 ∧ x_2.toInt ≤ V (i0 + 1) ∧ V (i0 + 1) ≤ x_3.toInt ∧ mw h0 T n K V P rr0 dp0 (i0 + 2) G') ∧ (v = 0 → (¬ tk_M rr0 (K i0) = x_1.toInt ∧ mt_ h0 P 1 i0 G') ∨ (tk_M rr0 (K i0) = x_1.toInt ∧ i0 < tk_c T n n ∧ ((¬ tk_M rr0 (K (i0 + 1)) = 2 ∧ mt_ h0 P 1 (i0 + 1) G') ∨ (tk_M rr0 (K (i0 + 1)) = 2 ∧ (V (i0 + 1) < x_2.toInt ∨ x_3.toInt < V (i0 + 1)) ∧ mt_ h0 P 2 (i0 + 1) G'))))))) 0 0 (iv_A base) := by
  refine iv_head (by decide) (Nat.le_of_ble_eq_true rfl) ?_
  intro p e s m args below meth c ls X hr hlocks hname hB hl
  have X := X
  have hx := X.1.1
  have hb := X.1.2.1
  have hM : iv_Md [12, 65] G G := iv_Md.rf
  have a_st := a_h0
  have a_lb := a_h0
  have hP : iv_pr 0 0 h0 G G := iv_pr.rf a_h0 hJ
  have hL : iv_pr 0 0 h0 G G := hP
  have hl : lv_has ls 5 [(0, .ref h0), (1, .int x_0), (2, .int x_1), (3, .int x_2), (4, .int x_3)] := hl
  obtain ⟨y14, e_y14⟩ : ∃ x, x = g_h0 14 := ⟨_, rfl⟩
  have i_y14 : iv_R 0 19 y14 := by rw [e_y14]; exact n_g_h0
  refine lv_aload_n hx hb dX12_told_0 rfl (lv_at hl 0 rfl) ?_
  refine lv_iload_n hx hb dX12_told_1 rfl (lv_at hl 2 rfl) ?_
  have a_q1 := a_h0
  have hx_q1 := iv_get64 hB a_h0
  have hs_q1 := iv_s18 hB a_h0
  refine iv_cVi X k_good k_mf_X12_need k_im_X12_need k_sel_X12_need k_ml_X12_221 ft_X12 hB a_h0 sh_12 (As := [.int x_1]) (f_X12_need l D tys base G h0 g_h0 r_h0 a_h0 x_1 (i_x_1.wk (by decide)) (hL.J a_lb a_h0) T n K V P hR rr0 hr3 dp0 i0 RS) ⟨rfl, rfl⟩ ⟨Nat.le_of_ble_eq_true rfl, Nat.le_of_ble_eq_true rfl⟩ ⟨Nat.le_of_ble_eq_true rfl, Nat.le_of_ble_eq_true rfl⟩ rfl rfl hl.1 (Nat.le_of_ble_eq_true rfl) dX12_told_2 (fun x2 G9 H locs hq hB => ?_)
  obtain ⟨hm, i_x2, xp3a, xp3b, xm⟩ := hq
  have xp3 := And.intro xp3a xp3b
  obtain ⟨G4, hG9⟩ : ∃ g, g = G9 := ⟨_, rfl⟩
  rw [← hG9] at hm hB xp3 xm
  have hM := hM.stp hm (by decide)
  obtain ⟨g5, r6, a_h0, f_g5⟩ := hm.ex a_h0
  have e7 : y14 = g5 14 := e_y14.trans (f_g5.2.1 14 (show (14 : Nat) ∈ iv_stab 12 from by decide)).symm
  have hLp_x2 := hL
  have hL : iv_pr (0) 0 h0 G G4 := (hL.tr xp3.1).wk (by decide)
  refine lv_if_eq (tgt := 18) hx hb dX12_told_5 (by decide) (fun c8 => ?_) (fun c8 => ?_)
  · skip
    have i8_x2 : iv_R 0 0 x2 := (i_x2.cutHi (n := 0) (iv_eq_r c8 q_0).2)
    refine lv_iconst (v := 0) hx hb dX12_told_18 (by decide) ?_
    exact iv_zret X hr hlocks hB (q_0.wk (by decide)) ⟨hM, (q_0.wk (by decide)), ⟨((hP.tr hL).wk (by decide)), fun h => absurd (iv_z q_0) h, (⟨fun h => absurd (iv_z q_0) h, fun _ => Or.inl (xm.2 c8)⟩)⟩⟩ dX12_told_19
  · skip
    obtain ⟨ma1, ha1, RS⟩ := xm.1 c8
    have i9_x2 : iv_R 1 1 x2 := iv_ne_lo c8 i_x2 q_0 (by decide)
    have hL : iv_pr (1) 0 h0 G G4 := (hLp_x2.tr (xp3.2 c8)).wk (by decide)
    refine lv_aload_n hx hb dX12_told_8 rfl (lv_at hl 0 rfl) ?_
    refine lv_iload_n hx hb dX12_told_9 rfl (lv_at hl 3 rfl) ?_
    refine lv_iload hx hb dX12_told_10 (lv_at hl 4 rfl) ?_
    have a_q11 := a_h0
    have hx_q11 := iv_get64 hB a_h0
    have hs_q11 := iv_s18 hB a_h0
    refine iv_cVi X k_good k_mf_X12_number k_im_X12_number k_sel_X12_number k_ml_X12_236 ft_X12 hB a_h0 sh_12 (As := [.int x_2, .int x_3]) (f_X12_number l D tys base G4 h0 g5 r6 a_h0 x_2 i_x_2 x_3 i_x_3 (hL.J a_lb a_h0) T n K V P hR rr0 hr3 dp0 (i0 + 1) RS) ⟨rfl, rfl⟩ ⟨Nat.le_of_ble_eq_true rfl, Nat.le_of_ble_eq_true rfl⟩ ⟨Nat.le_of_ble_eq_true rfl, Nat.le_of_ble_eq_true rfl⟩ rfl rfl hl.1 (Nat.le_of_ble_eq_true rfl) dX12_told_12 (fun x12 G9 H locs hq hB => ?_)
    obtain ⟨hm, i_x12, xp13a, xp13b, xm⟩ := hq
    have xp13 := And.intro xp13a xp13b
    obtain ⟨G14, hG9⟩ : ∃ g, g = G9 := ⟨_, rfl⟩
    rw [← hG9] at hm hB xp13 xm
    have hM := hM.stp hm (by decide)
    obtain ⟨g15, r16, a_h0, f_g15⟩ := hm.ex a_h0
    have e17 : y14 = g15 14 := e7.trans (f_g15.2.1 14 (show (14 : Nat) ∈ iv_stab 12 from by decide)).symm
    have hLp_x12 := hL
    have hL : iv_pr (1) 0 h0 G G14 := (hL.tr xp13.1).wk (by decide)
    refine lv_if_ne (tgt := 20) hx hb dX12_told_15 (by decide) (fun c18 => ?_) (fun c18 => ?_)
    · skip
      obtain ⟨mb1, va1, vb1, hb1, RS⟩ := xm.1 c18
      have i18_x12 : iv_R 1 1 x12 := iv_ne_lo c18 i_x12 q_0 (by decide)
      have hL : iv_pr (2) 0 h0 G G14 := (hLp_x12.tr (xp13.2 c18)).wk (by decide)
      refine lv_aload_n hx hb dX12_told_20 rfl (lv_at hl 0 rfl) ?_
      refine iv_getr X ft_X12 hB a_h0 sh_12 7 (by decide) rfl k_fl_X12_25 dX12_told_21 (fun b20 g_b20 r_b20 e_b20 a_b20 => ?_)
      refine lv_iconst (v := 3) hx hb dX12_told_24 (by decide) ?_
      refine lv_aload_n hx hb dX12_told_25 rfl (lv_at hl 0 rfl) ?_
      refine iv_geti0 X ft_X12 hB a_h0 sh_12 14 (by decide) rfl k_fl_X12_240 dX12_told_26 e17 ?_
      refine iv_imul hx hb q_3 i_y14 (lo := 0) (hi := 57) (by decide) dX12_told_29 (fun x21 e_x21 i_x21 => ?_)
      refine lv_iload_n hx hb dX12_told_30 rfl (lv_at hl 1 rfl) ?_
      refine iv_iadd hx hb i_x21 i_x_0 (lo := 0) (hi := 59) (by decide) dX12_told_31 (fun x22 e_x22 i_x22 => ?_)
      refine lv_aload_n hx hb dX12_told_32 rfl (lv_at hl 0 rfl) ?_
      refine iv_geti X ft_X12 hB a_h0 sh_12 25 (by decide) rfl k_fl_X12_233 dX12_told_33 (fun x23 e_x23 i_x23 => ?_)
      refine iv_ast X hB a_b20 sh_65 (iv_in i_x22 (by decide)) i_x23 dX12_told_36 (fun H locs hB => ?_)
      have hm := iv_Md.ast (j := x22.toNatClampNeg) (x := x23) a_b20 rfl (by decide)
      have h9 := iv_up_eq (G := G14) (a := b20) (k := (65, upd g_b20 x22.toNatClampNeg x23, r_b20))
      have hL := hL.oth (k := (65, upd g_b20 x22.toNatClampNeg x23, r_b20)) a_b20 rfl (by decide)
      have RS := RS.oth (k := (65, upd g_b20 x22.toNatClampNeg x23, r_b20)) a_b20 (by decide)
      generalize iv_up G14 b20 _ = G24 at hB hm h9 hL RS
      have hM := hM.stp hm (by decide)
      have a_h0 := hm.at a_h0 (by decide)
      refine lv_iconst (v := 1) hx hb dX12_told_37 (by decide) ?_
      exact iv_zret X hr hlocks hB (q_1.wk (by decide)) ⟨hM, (q_1.wk (by decide)), ⟨((hP.tr hL).wk (by decide)), fun _ => (hP.tr hL).wk (by decide), (⟨fun _ => ⟨ma1, mb1, va1, vb1, RS⟩, fun h => absurd h (by decide)⟩)⟩⟩ dX12_told_38
    · skip
      have i25_x12 : iv_R 0 0 x12 := (i_x12.cutHi (n := 0) (iv_eq_r c18 q_0).2)
      refine lv_iconst (v := 0) hx hb dX12_told_18 (by decide) ?_
      exact iv_zret X hr hlocks hB (q_0.wk (by decide)) ⟨hM, (q_0.wk (by decide)), ⟨((hP.tr hL).wk (by decide)), fun h => absurd (iv_z q_0) h, (⟨fun h => absurd (iv_z q_0) h, fun _ => Or.inr ⟨ma1, ha1, xm.2 c18⟩⟩)⟩⟩ dX12_told_19
theorem tk_M.two2 {r : Nat} {k : Int} (hk : tk_kd k) (h : tk_M r k = 2) : k = 2 := by
  have w := tk_M.tab (r := r) hk
  unfold tk_mt at w
  exact tk_N.two (r := r) (by omega)
set_option maxHeartbeats 4000000 in
set_option maxRecDepth 100000 in
theorem f_X12_aRing (l : Launch) (D : va_G) (tys : List (ClassId × FieldType)) (base : Nat) (G : iv_G) (h0 : Nat) (g_h0 : Nat → Int32) (r_h0 : Nat → Nat) (a_h0 : G h0 = some (12, g_h0, r_h0)) (hJ : iv_J g_h0) (T : Nat → Int) (n : Nat) (K V P : Nat → Int) (hR : tk_R T n K V P) (rr0 : Nat) (hr3 : rr0 < 3) (dp0 i0 : Nat) (RS : mw h0 T n K V P rr0 dp0 i0 G) (nn0 ll0 : Nat) (hll : (g_h0 14).toInt = (ll0 : Int)) (gw : Nat → Int32) (rw9 : Nat → Nat) (hw : G (r_h0 0) = some (60, gw, rw9)) (hwn : (gw 146).toInt = (nn0 : Int)) (hz : ¬ tk_M rr0 (K i0) = 0) (CF : tk_cf rr0 nn0 K V i0 = .ring ll0 0) : Met l yX12_aRing (Cond.code yX12_aRing cX12_aRing 1 (some .boolean) :: iv_W0) ({ frames := 11, cells := 0, slots := 0, locals := 236 }) (iv_Pc iv_sh D classes tys base G [.ref h0]) (iv_Qi iv_sh D classes tys base (fun v G' => iv_MdT [12, 65] G G' ∧ iv_R 0 1 v ∧ iv_pv 0 h0 G G' ∧ (¬ v = 0 → iv_pv 1 h0 G G') ∧ ((qm h0 T n K V P rr0 nn0 dp0 (i0 + 1) (fun i' => tk_cf rr0 nn0 K V i' = .ring (ll0 + 1) 0) v G') ∧ (¬ v = 0 → ∀ (g' : Nat → Int32) (r' : Nat → Nat), G' h0 = some (12, g', r') → (g' 14).toInt = (ll0 : Int) + 1)))) 0 0 (iv_A base) := by
  refine iv_head (by decide) (Nat.le_of_ble_eq_true rfl) ?_
  intro p e s m args below meth c ls X hr hlocks hname hB hl
  have X := X
  have hx := X.1.1
  have hb := X.1.2.1
  have hM : iv_MdT [12, 65] G G := iv_MdT.rf
  have a_st := a_h0
  have a_lb := a_h0
  have hP : iv_pr 0 0 h0 G G := iv_pr.rf a_h0 hJ
  have hL : iv_pr 0 0 h0 G G := hP
  have hl : lv_has ls 1 [(0, .ref h0)] := hl
  refine lv_aload_n hx hb dX12_aRing_0 rfl (lv_at hl 0 rfl) ?_
  refine iv_geti X ft_X12 hB a_h0 sh_12 17 (by decide) rfl k_fl_X12_165 dX12_aRing_1 (fun x1 e_x1 i_x1 => ?_)
  have hx1 : x1.toInt = tk_M rr0 (K i0) := by rw [e_x1]; exact RS.tok a_h0
  refine lv_bipush (v := 7) hx hb dX12_aRing_4 (by decide) ?_
  refine lv_icmp_eq (tgt := 15) hx hb dX12_aRing_6 (by decide) (fun c2 => ?_) (fun c2 => ?_)
  · skip
    have m2 : tk_M rr0 (K i0) = 7 := by rw [← hx1, c2]; rfl
    have i2_x1 : iv_R 7 7 x1 := ((i_x1.cutLo (n := 7) (iv_eq_r c2 q_7).1).cutHi (n := 7) (iv_eq_r c2 q_7).2)
    refine lv_aload_n hx hb dX12_aRing_15 rfl (lv_at hl 0 rfl) ?_
    refine iv_geti X ft_X12 hB a_h0 sh_12 14 (by decide) rfl k_fl_X12_240 dX12_aRing_16 (fun x4 e_x4 i_x4 => ?_)
    refine lv_bipush (v := 20) hx hb dX12_aRing_19 (by decide) ?_
    refine lv_icmp_ne (tgt := 30) hx hb dX12_aRing_21 (by decide) (fun c5 => ?_) (fun c5 => ?_)
    · skip
      have i5_x4 : iv_R 0 19 x4 := iv_ne_hi c5 i_x4 q_20 (by decide)
      refine lv_aload_n hx hb dX12_aRing_30 rfl (lv_at hl 0 rfl) ?_
      refine lv_iconst (v := 0) hx hb dX12_aRing_31 (by decide) ?_
      refine lv_bipush (v := 7) hx hb dX12_aRing_32 (by decide) ?_
      refine lv_iconst (v := 0) hx hb dX12_aRing_34 (by decide) ?_
      refine lv_aload_n hx hb dX12_aRing_35 rfl (lv_at hl 0 rfl) ?_
      refine iv_getr X ft_X12 hB a_h0 sh_12 0 (by decide) rfl k_fl_X12_7 dX12_aRing_36 (fun b7 g_b7 r_b7 e_b7 a_b7 => ?_)
      refine lv_sipush (v := 146) hx hb dX12_aRing_39 (by decide) ?_
      refine iv_wald_c X hB a_b7 q_146 (by decide) (lo := 0) (hi' := 10) (by decide) dX12_aRing_42 (fun x8 e_x8 i_x8 => ?_)
      refine lv_iconst (v := 1) hx hb dX12_aRing_43 (by decide) ?_
      refine iv_isub hx hb i_x8 q_1 (lo := (-1)) (hi := 9) (by decide) dX12_aRing_44 (fun x9 e_x9 i_x9 => ?_)
      have hx9 : x9.toInt = (nn0 : Int) - 1 := by have w1 : x9.toInt = x8.toInt - 1 := e_x9; have w2 : x8 = g_b7 146 := e_x8; rw [w1, w2, iv_samew hw e_b7 a_b7, hwn]
      have a_q10 := a_h0
      have hx_q10 := iv_get64 hB a_h0
      have hs_q10 := iv_s18 hB a_h0
      refine iv_cVi X k_good k_mf_X12_told k_im_X12_told k_sel_X12_told k_ml_X12_243 ft_X12 hB a_h0 sh_12 (As := [.int 0, .int 7, .int 0, .int x9]) (f_X12_told l D tys base G h0 g_h0 r_h0 a_h0 (by rw [← e_x4]; exact i5_x4) 0 (q_0.wk (by decide)) 7 (q_7.wk (by decide)) 0 (q_0.wk (by decide)) x9 (i_x9.wk (by decide)) (hL.J a_lb a_h0) T n K V P hR rr0 hr3 dp0 i0 RS) ⟨rfl, rfl⟩ ⟨Nat.le_of_ble_eq_true rfl, Nat.le_of_ble_eq_true rfl⟩ ⟨Nat.le_of_ble_eq_true rfl, Nat.le_of_ble_eq_true rfl⟩ rfl rfl hl.1 (Nat.le_of_ble_eq_true rfl) dX12_aRing_45 (fun x11 G9 H locs hq hB => ?_)
      obtain ⟨hm, i_x11, xp12a, xp12b, xm⟩ := hq
      have xp12 := And.intro xp12a xp12b
      obtain ⟨G13, hG9⟩ : ∃ g, g = G9 := ⟨_, rfl⟩
      rw [← hG9] at hm hB xp12 xm
      have hM := hM.stp (iv_MdT.of hm) (by decide)
      obtain ⟨g14, r15, a_h0, f_g14⟩ := hm.ex a_h0
      have e16 : x4 = g14 14 := e_x4.trans (f_g14.2.1 14 (show (14 : Nat) ∈ iv_stab 12 from by decide)).symm
      have e17 : b7 = r15 0 := e_b7.trans (f_g14.1 0 (fun h => absurd (show (12 : Nat) = 5 from h) (by decide))).symm
      have a_b7 := hm.at a_b7 (by decide)
      have hLp_x11 := hL
      have hL : iv_pr (0) 0 h0 G G13 := (hL.tr xp12.1).wk (by decide)
      refine lv_if_eq (tgt := 77) hx hb dX12_aRing_48 (by decide) (fun c18 => ?_) (fun c18 => ?_)
      · skip
        have i18_x11 : iv_R 0 0 x11 := (i_x11.cutHi (n := 0) (iv_eq_r c18 q_0).2)
        refine lv_iconst (v := 0) hx hb dX12_aRing_77 (by decide) ?_
        exact iv_zret X hr hlocks hB (q_0.wk (by decide)) ⟨hM, (q_0.wk (by decide)), ⟨(((hP.tr hL).wk (d' := 0) (n' := 0) (by decide)).pv), fun h => absurd (iv_z q_0) h, (⟨fun h => absurd (iv_z q_0) h, fun _ => by rcases xm.2 c18 with w | ⟨w1, w2, w | w⟩; exact absurd m2 w.1; exact ⟨i0 + 1, 1, mq_x1 (hR.kd (j := i0 + 1) (by have w := w2; omega)) (mq_ring (RS.kd hR) CF m2 (by have w := congrArg Int32.toInt e_x4; have w2 := i5_x4.2; omega)) w.1, w.2⟩; exact ⟨i0 + 1, 2, mq_b1 (hR.kd (j := i0 + 1) (by have w := w2; omega)) (mq_ring (RS.kd hR) CF m2 (by have w := congrArg Int32.toInt e_x4; have w2 := i5_x4.2; omega)) w.1 (by have z0 : (0 : Int32).toInt = 0 := rfl; have z1 : (1 : Int32).toInt = 1 := rfl; have z23 : (23 : Int32).toInt = 23 := rfl; have z24 : (24 : Int32).toInt = 24 := rfl; have nb := (hR.nb (j := i0 + 1) (by have w9 := w2; omega) (tk_M.two2 (hR.kd (j := i0 + 1) (by have w := w2; omega)) w.1)); have w3 := w.2.1; omega), w.2.2⟩⟩), fun h => absurd (iv_z q_0) h⟩⟩ dX12_aRing_78
      · skip
        obtain ⟨ma0, mb0, va0, vb0, RS⟩ := xm.1 c18
        have kda0 := hR.kd (j := i0) (by have w := RS.1.1; omega)
        have kdb0 := hR.kd (j := i0 + 1) (by have w := RS.1.1; omega)
        have cfa0 := mq_ring kda0 CF m2 (by have w := congrArg Int32.toInt e_x4; have w2 := i5_x4.2; omega)
        have cfb0 := mq_n1 kdb0 cfa0 mb0 (by omega)
        have i19_x11 : iv_R 1 1 x11 := iv_ne_lo c18 i_x11 q_0 (by decide)
        have hL : iv_pr (1) 0 h0 G G13 := (hLp_x11.tr (xp12.2 c18)).wk (by decide)
        refine lv_aload_n hx hb dX12_aRing_51 rfl (lv_at hl 0 rfl) ?_
        refine lv_iconst (v := 1) hx hb dX12_aRing_52 (by decide) ?_
        refine lv_bipush (v := 8) hx hb dX12_aRing_53 (by decide) ?_
        refine lv_iconst (v := 0) hx hb dX12_aRing_55 (by decide) ?_
        refine lv_bipush (v := 23) hx hb dX12_aRing_56 (by decide) ?_
        have a_q21 := a_h0
        have hx_q21 := iv_get64 hB a_h0
        have hs_q21 := iv_s18 hB a_h0
        refine iv_cVi X k_good k_mf_X12_told k_im_X12_told k_sel_X12_told k_ml_X12_243 ft_X12 hB a_h0 sh_12 (As := [.int 1, .int 8, .int 0, .int 23]) (f_X12_told l D tys base G13 h0 g14 r15 a_h0 (by rw [← e16]; exact i5_x4) 1 (q_1.wk (by decide)) 8 (q_8.wk (by decide)) 0 (q_0.wk (by decide)) 23 (q_23.wk (by decide)) (hL.J a_lb a_h0) T n K V P hR rr0 hr3 dp0 (i0 + 2) RS) ⟨rfl, rfl⟩ ⟨Nat.le_of_ble_eq_true rfl, Nat.le_of_ble_eq_true rfl⟩ ⟨Nat.le_of_ble_eq_true rfl, Nat.le_of_ble_eq_true rfl⟩ rfl rfl hl.1 (Nat.le_of_ble_eq_true rfl) dX12_aRing_58 (fun x22 G9 H locs hq hB => ?_)
        obtain ⟨hm, i_x22, xp23a, xp23b, xm⟩ := hq
        have xp23 := And.intro xp23a xp23b
        obtain ⟨G24, hG9⟩ : ∃ g, g = G9 := ⟨_, rfl⟩
        rw [← hG9] at hm hB xp23 xm
        have hM := hM.stp (iv_MdT.of hm) (by decide)
        obtain ⟨g25, r26, a_h0, f_g25⟩ := hm.ex a_h0
        have e27 : x4 = g25 14 := e16.trans (f_g25.2.1 14 (show (14 : Nat) ∈ iv_stab 12 from by decide)).symm
        have e28 : b7 = r26 0 := e17.trans (f_g25.1 0 (fun h => absurd (show (12 : Nat) = 5 from h) (by decide))).symm
        have a_b7 := hm.at a_b7 (by decide)
        have hLp_x22 := hL
        have hL : iv_pr (1) 0 h0 G G24 := (hL.tr xp23.1).wk (by decide)
        refine lv_if_eq (tgt := 77) hx hb dX12_aRing_61 (by decide) (fun c29 => ?_) (fun c29 => ?_)
        · skip
          have i29_x22 : iv_R 0 0 x22 := (i_x22.cutHi (n := 0) (iv_eq_r c29 q_0).2)
          refine lv_iconst (v := 0) hx hb dX12_aRing_77 (by decide) ?_
          exact iv_zret X hr hlocks hB (q_0.wk (by decide)) ⟨hM, (q_0.wk (by decide)), ⟨(((hP.tr hL).wk (d' := 0) (n' := 0) (by decide)).pv), fun h => absurd (iv_z q_0) h, (⟨fun h => absurd (iv_z q_0) h, fun _ => by rcases xm.2 c29 with w | ⟨w1, w2, w | w⟩; exact ⟨i0 + 2, 1, mq_y2 (RS.kd hR) cfb0 w.1, w.2⟩; exact ⟨i0 + 2 + 1, 1, mq_x3 (hR.kd (j := i0 + 2 + 1) (by have w := w2; omega)) (mq_w2 (RS.kd hR) cfb0 w1) w.1, w.2⟩; exact ⟨i0 + 2 + 1, 2, mq_b3 (hR.kd (j := i0 + 2 + 1) (by have w := w2; omega)) (mq_w2 (RS.kd hR) cfb0 w1) w.1 (by have z0 : (0 : Int32).toInt = 0 := rfl; have z1 : (1 : Int32).toInt = 1 := rfl; have z23 : (23 : Int32).toInt = 23 := rfl; have z24 : (24 : Int32).toInt = 24 := rfl; have nb := (hR.nb (j := i0 + 2 + 1) (by have w9 := w2; omega) (tk_M.two2 (hR.kd (j := i0 + 2 + 1) (by have w := w2; omega)) w.1)); have w3 := w.2.1; omega), w.2.2⟩⟩), fun h => absurd (iv_z q_0) h⟩⟩ dX12_aRing_78
        · skip
          obtain ⟨ma1, mb1, va1, vb1, RS⟩ := xm.1 c29
          have kda1 := hR.kd (j := i0 + 2) (by have w := RS.1.1; omega)
          have kdb1 := hR.kd (j := i0 + 2 + 1) (by have w := RS.1.1; omega)
          have cfa1 := mq_w2 kda1 cfb0 ma1
          have cfb1 := mq_n3 kdb1 cfa1 mb1 (by have e23 : (23 : Int32).toInt = 23 := rfl; omega)
          have i30_x22 : iv_R 1 1 x22 := iv_ne_lo c29 i_x22 q_0 (by decide)
          have hL : iv_pr (2) 0 h0 G G24 := (hLp_x22.tr (xp23.2 c29)).wk (by decide)
          refine lv_aload_n hx hb dX12_aRing_64 rfl (lv_at hl 0 rfl) ?_
          refine lv_iconst (v := 2) hx hb dX12_aRing_65 (by decide) ?_
          refine lv_bipush (v := 9) hx hb dX12_aRing_66 (by decide) ?_
          refine lv_iconst (v := 1) hx hb dX12_aRing_68 (by decide) ?_
          refine lv_bipush (v := 24) hx hb dX12_aRing_69 (by decide) ?_
          have a_q32 := a_h0
          have hx_q32 := iv_get64 hB a_h0
          have hs_q32 := iv_s18 hB a_h0
          refine iv_cVi X k_good k_mf_X12_told k_im_X12_told k_sel_X12_told k_ml_X12_243 ft_X12 hB a_h0 sh_12 (As := [.int 2, .int 9, .int 1, .int 24]) (f_X12_told l D tys base G24 h0 g25 r26 a_h0 (by rw [← e27]; exact i5_x4) 2 (q_2.wk (by decide)) 9 (q_9.wk (by decide)) 1 (q_1.wk (by decide)) 24 (q_24.wk (by decide)) (hL.J a_lb a_h0) T n K V P hR rr0 hr3 dp0 (i0 + 2 + 2) RS) ⟨rfl, rfl⟩ ⟨Nat.le_of_ble_eq_true rfl, Nat.le_of_ble_eq_true rfl⟩ ⟨Nat.le_of_ble_eq_true rfl, Nat.le_of_ble_eq_true rfl⟩ rfl rfl hl.1 (Nat.le_of_ble_eq_true rfl) dX12_aRing_71 (fun x33 G9 H locs hq hB => ?_)
          obtain ⟨hm, i_x33, xp34a, xp34b, xm⟩ := hq
          have xp34 := And.intro xp34a xp34b
          obtain ⟨G35, hG9⟩ : ∃ g, g = G9 := ⟨_, rfl⟩
          rw [← hG9] at hm hB xp34 xm
          have hM := hM.stp (iv_MdT.of hm) (by decide)
          obtain ⟨g36, r37, a_h0, f_g36⟩ := hm.ex a_h0
          have e38 : x4 = g36 14 := e27.trans (f_g36.2.1 14 (show (14 : Nat) ∈ iv_stab 12 from by decide)).symm
          have e39 : b7 = r37 0 := e28.trans (f_g36.1 0 (fun h => absurd (show (12 : Nat) = 5 from h) (by decide))).symm
          have a_b7 := hm.at a_b7 (by decide)
          have hLp_x33 := hL
          have hL : iv_pr (2) 0 h0 G G35 := (hL.tr xp34.1).wk (by decide)
          refine lv_if_ne (tgt := 79) hx hb dX12_aRing_74 (by decide) (fun c40 => ?_) (fun c40 => ?_)
          · skip
            obtain ⟨ma2, mb2, va2, vb2, RS⟩ := xm.1 c40
            have kda2 := hR.kd (j := i0 + 2 + 2) (by have w := RS.1.1; omega)
            have kdb2 := hR.kd (j := i0 + 2 + 2 + 1) (by have w := RS.1.1; omega)
            have cfa2 := mq_w4 kda2 cfb1 ma2
            have cfb2 := mq_n5 kdb2 cfa2 mb2 (by have e1 : (1 : Int32).toInt = 1 := rfl; have e24 : (24 : Int32).toInt = 24 := rfl; omega)
            have i40_x33 : iv_R 1 1 x33 := iv_ne_lo c40 i_x33 q_0 (by decide)
            have hL : iv_pr (3) 0 h0 G G35 := (hLp_x33.tr (xp34.2 c40)).wk (by decide)
            refine lv_aload_n hx hb dX12_aRing_79 rfl (lv_at hl 0 rfl) ?_
            refine lv_dup hx hb dX12_aRing_80 rfl ?_
            refine iv_geti0 X ft_X12 hB a_h0 sh_12 14 (by decide) rfl k_fl_X12_240 dX12_aRing_81 e38 ?_
            refine lv_iconst (v := 1) hx hb dX12_aRing_84 (by decide) ?_
            refine iv_iadd hx hb i5_x4 q_1 (lo := 1) (hi := 20) (by decide) dX12_aRing_85 (fun x42 e_x42 i_x42 => ?_)
            refine iv_puti X ft_X12 hB a_h0 sh_12 14 (by decide) rfl rfl k_fl_X12_240 rfl (i_x42.wk (by decide)) rfl rfl dX12_aRing_86 (fun H locs hB => ?_)
            have hm := iv_MdT.put (x := x42) a_h0 (j := 14) (by decide)
            have h9 := iv_up_eq (G := G35) (a := h0) (k := (12, upd g36 14 x42, r37))
            have hV := ((hP.tr hL).pv).put14 (x := x42) a_h0
            have RS := RS.put (x := x42) a_h0 (j := 14) (by decide)
            generalize iv_up G35 h0 _ = G43 at hB hm h9 hV RS
            have hM := hM.stp hm (by decide)
            generalize hgn_g44 : upd g36 _ _ = g44 at h9
            have a_h0 := h9
            have e9_g44 : x42 = g44 14 := by rw [← hgn_g44]; simp [upd]
            have a_lb := a_h0
            have hL : iv_pr 0 0 h0 G43 G43 := iv_pr.rf a_h0 (hV.J a_st a_h0)
            refine lv_aload_n hx hb dX12_aRing_89 rfl (lv_at hl 0 rfl) ?_
            refine lv_sipush (v := 159) hx hb dX12_aRing_90 (by decide) ?_
            have a_q45 := a_h0
            have hx_q45 := iv_get64 hB a_h0
            have hs_q45 := iv_s18 hB a_h0
            refine iv_cVi X k_good k_mf_X12_need k_im_X12_need k_sel_X12_need k_ml_X12_221 ft_X12 hB a_h0 sh_12 (As := [.int 159]) (f_X12_need l D tys base G43 h0 g44 r37 a_h0 159 (q_159.wk (by decide)) (hL.J a_lb a_h0) T n K V P hR rr0 hr3 dp0 (i0 + 2 + 2 + 2) RS) ⟨rfl, rfl⟩ ⟨Nat.le_of_ble_eq_true rfl, Nat.le_of_ble_eq_true rfl⟩ ⟨Nat.le_of_ble_eq_true rfl, Nat.le_of_ble_eq_true rfl⟩ rfl rfl hl.1 (Nat.le_of_ble_eq_true rfl) dX12_aRing_93 (fun x46 G9 H locs hq hB => ?_)
            obtain ⟨hm, i_x46, xp47a, xp47b, xm⟩ := hq
            have xp47 := And.intro xp47a xp47b
            obtain ⟨G48, hG9⟩ : ∃ g, g = G9 := ⟨_, rfl⟩
            rw [← hG9] at hm hB xp47 xm
            have hM := hM.stp (iv_MdT.of hm) (by decide)
            obtain ⟨g49, r50, a_h0, f_g49⟩ := hm.ex a_h0
            have e51 : x42 = g49 14 := e9_g44.trans (f_g49.2.1 14 (show (14 : Nat) ∈ iv_stab 12 from by decide)).symm
            have e52 : b7 = r50 0 := e39.trans (f_g49.1 0 (fun h => absurd (show (12 : Nat) = 5 from h) (by decide))).symm
            have hLp_x46 := hL
            have hL : iv_pr (0) 0 h0 G43 G48 := (hL.tr xp47.1).wk (by decide)
            exact iv_zret X hr hlocks hB i_x46 ⟨hM, i_x46, ⟨(hV.tr hL.pv).wk (by decide), fun _ => (hV.tr hL.pv).wk (by decide), ⟨fun h => ⟨i0 + 2 + 2 + 2 + 1, by omega, (xm.1 h).2.2, mq_w6 (RS.kd hR) cfb2 (xm.1 h).1⟩, fun h => ⟨i0 + 2 + 2 + 2, 1, mq_y6 (RS.kd hR) cfb2 (xm.2 h).1, (xm.2 h).2⟩⟩, fun _ g8 r8 h8 => by cases a_h0.symm.trans h8; have w1 := congrArg Int32.toInt e51; have w2 := congrArg Int32.toInt e_x4; have w3 : x42.toInt = x4.toInt + 1 := e_x42; omega⟩⟩ dX12_aRing_96
          · skip
            have i52_x33 : iv_R 0 0 x33 := (i_x33.cutHi (n := 0) (iv_eq_r c40 q_0).2)
            refine lv_iconst (v := 0) hx hb dX12_aRing_77 (by decide) ?_
            exact iv_zret X hr hlocks hB (q_0.wk (by decide)) ⟨hM, (q_0.wk (by decide)), ⟨(((hP.tr hL).wk (d' := 0) (n' := 0) (by decide)).pv), fun h => absurd (iv_z q_0) h, (⟨fun h => absurd (iv_z q_0) h, fun _ => by rcases xm.2 c40 with w | ⟨w1, w2, w | w⟩; exact ⟨i0 + 2 + 2, 1, mq_y4 (RS.kd hR) cfb1 w.1, w.2⟩; exact ⟨i0 + 2 + 2 + 1, 1, mq_x5 (hR.kd (j := i0 + 2 + 2 + 1) (by have w := w2; omega)) (mq_w4 (RS.kd hR) cfb1 w1) w.1, w.2⟩; exact ⟨i0 + 2 + 2 + 1, 2, mq_b5 (hR.kd (j := i0 + 2 + 2 + 1) (by have w := w2; omega)) (mq_w4 (RS.kd hR) cfb1 w1) w.1 (by have z0 : (0 : Int32).toInt = 0 := rfl; have z1 : (1 : Int32).toInt = 1 := rfl; have z23 : (23 : Int32).toInt = 23 := rfl; have z24 : (24 : Int32).toInt = 24 := rfl; have nb := (hR.nb (j := i0 + 2 + 2 + 1) (by have w9 := w2; omega) (tk_M.two2 (hR.kd (j := i0 + 2 + 2 + 1) (by have w := w2; omega)) w.1)); have w3 := w.2.1; omega), w.2.2⟩⟩), fun h => absurd (iv_z q_0) h⟩⟩ dX12_aRing_78
    · skip
      have i53_x4 : iv_R 20 20 x4 := (i_x4.cutLo (n := 20) (iv_eq_r c5 q_20).1)
      refine lv_aload_n hx hb dX12_aRing_24 rfl (lv_at hl 0 rfl) ?_
      refine lv_iconst (v := 3) hx hb dX12_aRing_25 (by decide) ?_
      have a_q55 := a_h0
      have hx_q55 := iv_get64 hB a_h0
      have hs_q55 := iv_s18 hB a_h0
      refine iv_cVi X k_good k_mf_X12_bad k_im_X12_bad k_sel_X12_bad k_ml_X12_186 ft_X12 hB a_h0 sh_12 (As := [.int 3]) (f_X12_bad l D tys base G h0 g_h0 r_h0 a_h0 3 (q_3.wk (by decide)) (hL.J a_lb a_h0) T n K V P hR rr0 hr3 dp0 i0 RS) ⟨rfl, rfl⟩ ⟨Nat.le_of_ble_eq_true rfl, Nat.le_of_ble_eq_true rfl⟩ ⟨Nat.le_of_ble_eq_true rfl, Nat.le_of_ble_eq_true rfl⟩ rfl rfl hl.1 (Nat.le_of_ble_eq_true rfl) dX12_aRing_26 (fun x56 G9 H locs hq hB => ?_)
      obtain ⟨hm, i_x56, xp57, xm⟩ := hq
      obtain ⟨G58, hG9⟩ : ∃ g, g = G9 := ⟨_, rfl⟩
      rw [← hG9] at hm hB xp57 xm
      have hM := hM.stp (iv_MdT.of hm) (by decide)
      obtain ⟨g59, r60, a_h0, f_g59⟩ := hm.ex a_h0
      have e61 : x4 = g59 14 := e_x4.trans (f_g59.2.1 14 (show (14 : Nat) ∈ iv_stab 12 from by decide)).symm
      have hL : iv_pr (0) 0 h0 G G58 := (hL.tr xp57).wk (by decide)
      exact iv_zret X hr hlocks hB (i_x56.wk (by decide)) ⟨hM, (i_x56.wk (by decide)), ⟨(((hP.tr hL).wk (d' := 0) (n' := 0) (by decide)).pv), fun h => absurd (iv_z i_x56) h, ⟨fun h => absurd (iv_z i_x56) h, fun _ => ⟨i0, 3, mq_many (RS.kd hR) CF m2 (by have w := congrArg Int32.toInt e_x4; have w2 := i53_x4.1; omega), xm⟩⟩, fun h => absurd (iv_z i_x56) h⟩⟩ dX12_aRing_29
  · skip
    have m2 : ¬ tk_M rr0 (K i0) = 7 := fun q => c2 (Int32.toInt_inj.mp (by rw [hx1, q]; rfl))
    refine lv_aload_n hx hb dX12_aRing_9 rfl (lv_at hl 0 rfl) ?_
    refine lv_iconst (v := 1) hx hb dX12_aRing_10 (by decide) ?_
    have a_q62 := a_h0
    have hx_q62 := iv_get64 hB a_h0
    have hs_q62 := iv_s18 hB a_h0
    refine iv_cVi X k_good k_mf_X12_bad k_im_X12_bad k_sel_X12_bad k_ml_X12_186 ft_X12 hB a_h0 sh_12 (As := [.int 1]) (f_X12_bad l D tys base G h0 g_h0 r_h0 a_h0 1 (q_1.wk (by decide)) (hL.J a_lb a_h0) T n K V P hR rr0 hr3 dp0 i0 RS) ⟨rfl, rfl⟩ ⟨Nat.le_of_ble_eq_true rfl, Nat.le_of_ble_eq_true rfl⟩ ⟨Nat.le_of_ble_eq_true rfl, Nat.le_of_ble_eq_true rfl⟩ rfl rfl hl.1 (Nat.le_of_ble_eq_true rfl) dX12_aRing_11 (fun x63 G9 H locs hq hB => ?_)
    obtain ⟨hm, i_x63, xp64, xm⟩ := hq
    obtain ⟨G65, hG9⟩ : ∃ g, g = G9 := ⟨_, rfl⟩
    rw [← hG9] at hm hB xp64 xm
    have hM := hM.stp (iv_MdT.of hm) (by decide)
    obtain ⟨g66, r67, a_h0, f_g66⟩ := hm.ex a_h0
    have hL : iv_pr (0) 0 h0 G G65 := (hL.tr xp64).wk (by decide)
    exact iv_zret X hr hlocks hB (i_x63.wk (by decide)) ⟨hM, (i_x63.wk (by decide)), ⟨(((hP.tr hL).wk (d' := 0) (n' := 0) (by decide)).pv), fun h => absurd (iv_z i_x63) h, ⟨fun h => absurd (iv_z i_x63) h, fun _ => ⟨i0, 1, mq_no (RS.kd hR) CF hz m2, xm⟩⟩, fun h => absurd (iv_z i_x63) h⟩⟩ dX12_aRing_14
set_option maxHeartbeats 4000000 in
set_option maxRecDepth 100000 in
theorem f_X12_readsRings (l : Launch) (D : va_G) (tys : List (ClassId × FieldType)) (base : Nat) (G : iv_G) (h0 : Nat) (g_h0 : Nat → Int32) (r_h0 : Nat → Nat) (a_h0 : G h0 = some (12, g_h0, r_h0)) (hJ : iv_J g_h0) (T : Nat → Int) (n : Nat) (K V P : Nat → Int) (hR : tk_R T n K V P) (rr0 : Nat) (hr3 : rr0 < 3) (dp0 i0 : Nat) (RS : mw h0 T n K V P rr0 dp0 i0 G) (nn0 : Nat) (gw : Nat → Int32) (rw9 : Nat → Nat) (hw : G (r_h0 0) = some (60, gw, rw9)) (hwn : (gw 146).toInt = (nn0 : Int)) (CF : tk_cf rr0 nn0 K V i0 = .ring 0 0) : Met l yX12_readsRings (Cond.code yX12_readsRings cX12_readsRings 2 (some .boolean) :: iv_W0) ({ frames := 12, cells := 0, slots := 0, locals := 256 }) (iv_Pc iv_sh D classes tys base G [.ref h0]) (iv_Qi iv_sh D classes tys base (fun v G' => iv_MdT [12, 65] G G' ∧ iv_R 0 1 v ∧ ((¬ v = 0 → ∃ j l : Nat, tk_cf rr0 nn0 K V j = .fin l ∧ ∀ (g' : Nat → Int32) (r' : Nat → Nat), G' h0 = some (12, g', r') → (g' 14).toInt = (l : Int) ∧ g' 22 = 0 ∧ g' 24 = -1) ∧ (v = 0 → ∃ i k : Nat, tk_F rr0 nn0 K V i k ∧ mt_ h0 P k i G')))) 0 0 (iv_A base) := by
  refine iv_head (by decide) (Nat.le_of_ble_eq_true rfl) ?_
  intro p e s m args below meth c ls X hr hlocks hname hB hl
  have X := X
  have hx := X.1.1
  have hb := X.1.2.1
  have hM : iv_MdT [12, 65] G G := iv_MdT.rf
  have a_st9 := a_h0
  have hl : lv_has ls 2 [(0, .ref h0)] := hl
  refine lv_aload_n hx hb dX12_readsRings_0 rfl (lv_at hl 0 rfl) ?_
  refine lv_iconst (v := 0) hx hb dX12_readsRings_1 (by decide) ?_
  refine iv_puti X ft_X12 hB a_h0 sh_12 14 (by decide) rfl rfl k_fl_X12_240 rfl (q_0.wk (by decide)) rfl rfl dX12_readsRings_2 (fun H locs hB => ?_)
  have hm := iv_MdT.put (x := 0) a_h0 (j := 14) (by decide)
  have h9 := iv_up_eq (G := G) (a := h0) (k := (12, upd g_h0 14 0, r_h0))
  have RS := RS.put (x := 0) a_h0 (j := 14) (by decide)
  generalize iv_up G h0 _ = G1 at hB hm h9 RS
  have hM := hM.stp hm (by decide)
  generalize hgn_g2 : upd g_h0 _ _ = g2 at h9
  have a_h0 := h9
  have e9_g2 : 0 = g2 14 := by rw [← hgn_g2]; simp [upd]
  refine lv_iconst (v := 1) hx hb dX12_readsRings_5 (by decide) ?_
  refine lv_istore_n (lv' := [(1, .int 1), (0, .ref h0)]) hx hb dX12_readsRings_6 rfl hl (by decide) rfl (fun ls hl => ?_)
  have L_7 : ∀ (n_7 : Nat) (G6 : iv_G) (hM : iv_MdT [12, 65] G G6) (H : Heap) (locs : List Loc) (hB : iv_B iv_sh D classes tys base G6 s.heap H locs) (g4 : Nat → Int32) (r5 : Nat → Nat) (a_h0 : G6 h0 = some (12, g4, r5)) (x3 : Int32) (i_x3 : iv_R 0 1 x3) (hn_7 : (401 - (g4 18).toInt).toNat + x3.toInt.toNat < n_7) (gi_7 : iv_J g4) (Q7 : (¬ x3 = 0 → ∃ i1 l1 dp1 : Nat, mw h0 T n K V P rr0 dp1 i1 G6 ∧ tk_cf rr0 nn0 K V i1 = .ring l1 0 ∧ (g4 14).toInt = (l1 : Int)) ∧ (x3 = 0 → ∃ i k : Nat, tk_F rr0 nn0 K V i k ∧ mt_ h0 P k i G6)) (ls : Array Slot) (hl : lv_has ls 2 [(1, .int x3), (0, .ref h0)]), W p l e ({ frames := 12, cells := 0, slots := 0, locals := 256 } : Room) s m args below meth c H locs 0 0 (MQ below (iv_Qi iv_sh D classes tys base (fun v G' => iv_MdT [12, 65] G G' ∧ iv_R 0 1 v ∧ ((¬ v = 0 → ∃ j l : Nat, tk_cf rr0 nn0 K V j = .fin l ∧ ∀ (g' : Nat → Int32) (r' : Nat → Nat), G' h0 = some (12, g', r') → (g' 14).toInt = (l : Int) ∧ g' 22 = 0 ∧ g' 24 = -1) ∧ (v = 0 → ∃ i k : Nat, tk_F rr0 nn0 K V i k ∧ mt_ h0 P k i G')))) args s 0 0 (iv_A base)) (F0 m 7 ls []) := by
    intro n_7
    induction n_7 with
    | zero => intro G6 hM H locs hB g4 r5 a_h0 x3 i_x3 hn_7 gi_7 Q7 ls hl; exact absurd hn_7 (Nat.not_lt_zero _)
    | succ n_7 ih_7 =>
      intro G6 hM H locs hB g4 r5 a_h0 x3 i_x3 hn_7 gi_7 Q7 ls hl
      refine lv_iload_n hx hb dX12_readsRings_7 rfl (lv_at hl 0 rfl) ?_
      refine lv_if_eq (tgt := 26) hx hb dX12_readsRings_8 (by decide) (fun c7 => ?_) (fun c7 => ?_)
      · skip
        have i7_x3 : iv_R 0 0 x3 := (i_x3.cutHi (n := 0) (iv_eq_r c7 q_0).2)
        refine lv_iload_n hx hb dX12_readsRings_26 rfl (lv_at hl 0 rfl) ?_
        exact iv_zret X hr hlocks hB (i7_x3.wk (by decide)) ⟨hM, (i7_x3.wk (by decide)), (⟨fun h => absurd c7 h, Q7.2⟩)⟩ dX12_readsRings_27
      · skip
        obtain ⟨i1, l1, dp1, RS, CF1, hl1⟩ := Q7.1 c7
        have i8_x3 : iv_R 1 1 x3 := iv_ne_lo c7 i_x3 q_0 (by decide)
        refine lv_aload_n hx hb dX12_readsRings_11 rfl (lv_at hl 1 rfl) ?_
        refine iv_geti X ft_X12 hB a_h0 sh_12 17 (by decide) rfl k_fl_X12_165 dX12_readsRings_12 (fun x10 e_x10 i_x10 => ?_)
        have hx10 : x10.toInt = tk_M rr0 (K i1) := by rw [e_x10]; exact RS.tok a_h0
        refine lv_if_eq (tgt := 26) hx hb dX12_readsRings_15 (by decide) (fun c11 => ?_) (fun c11 => ?_)
        · skip
          have m11 : tk_M rr0 (K i1) = 0 := by rw [← hx10, c11]; rfl
          have i11_x10 : iv_R 0 0 x10 := ((i_x10.cutLo (n := 0) (iv_eq_r c11 q_0).1).cutHi (n := 0) (iv_eq_r c11 q_0).2)
          refine lv_iload_n hx hb dX12_readsRings_26 rfl (lv_at hl 0 rfl) ?_
          exact iv_zret X hr hlocks hB (i8_x3.wk (by decide)) ⟨hM, (i8_x3.wk (by decide)), (⟨fun _ => ⟨i1 + 1, l1, mq_fin (RS.kd hR) CF1 m11, fun g8 r8 h8 => by cases a_h0.symm.trans h8; exact ⟨hl1, RS.2.flt a_h0⟩⟩, fun h => absurd h c7⟩)⟩ dX12_readsRings_27
        · skip
          have m11 : ¬ tk_M rr0 (K i1) = 0 := fun q => c11 (Int32.toInt_inj.mp (by rw [hx10, q]; rfl))
          refine lv_aload_n hx hb dX12_readsRings_18 rfl (lv_at hl 1 rfl) ?_
          have a_bf := a_h0
          have hw6 : G6 (r5 0) = some (60, gw, rw9) := by
            obtain ⟨g8, r8, w1, w2⟩ := hM.ex a_st9
            cases a_h0.symm.trans w1
            have e : r5 0 = r_h0 0 := w2.1 0 (fun h => absurd (show (12 : Nat) = 5 from h) (by decide))
            rw [e]
            exact hM.at hw (by decide)
          have hs18 := iv_s18 hB a_h0
          refine iv_cVi X k_good k_mf_X12_aRing k_im_X12_aRing k_sel_X12_aRing k_ml_X12_247 ft_X12 hB a_h0 sh_12 (As := []) (f_X12_aRing l D tys base G6 h0 g4 r5 a_h0 gi_7 T n K V P hR rr0 hr3 dp1 i1 RS nn0 l1 hl1 gw rw9 hw6 hwn m11 CF1) ⟨rfl, rfl⟩ ⟨Nat.le_of_ble_eq_true rfl, Nat.le_of_ble_eq_true rfl⟩ ⟨Nat.le_of_ble_eq_true rfl, Nat.le_of_ble_eq_true rfl⟩ rfl rfl hl.1 (Nat.le_of_ble_eq_true rfl) dX12_readsRings_19 (fun x13 G9 H locs hq hB => ?_)
          obtain ⟨hm, i_x13, xp14a, xp14b, xm⟩ := hq
          have xp14 := And.intro xp14a xp14b
          obtain ⟨G15, hG9⟩ : ∃ g, g = G9 := ⟨_, rfl⟩
          rw [← hG9] at hm hB xp14 xm
          have hM := hM.stp hm (by decide)
          obtain ⟨g16, r17, a_h0, f_g16⟩ := hm.ex a_h0
          refine lv_istore_n (lv' := [(1, .int x13), (0, .ref h0)]) hx hb dX12_readsRings_22 rfl hl (by decide) rfl (fun ls hl => ?_)
          refine lv_goto (tgt := 7) hx hb dX12_readsRings_23 (by decide) ?_
          exact ih_7 G15 hM _ _ hB g16 r17 a_h0 x13 i_x13 (by have w1 := ((xp14.1).at a_bf a_h0).2; have w2 := fun h => ((xp14.2 h).at a_bf a_h0).2; have w3 := i_x13.2; have w4 := i8_x3.1; have w5 := hs18.1.2; exact Classical.byCases (p := x13 = 0) (fun hv => by have w6 : x13.toInt = 0 := (by rw [hv]; rfl); omega) (fun hv => by have w6 := w2 hv; omega)) ((xp14.1).J a_bf a_h0) ⟨fun h => by obtain ⟨j, hj, w1, w2⟩ := xm.1.1 h; exact ⟨j, l1 + 1, dp1, w1, w2, by rw [xm.2 h _ _ a_h0]; omega⟩, fun h => xm.1.2 h⟩ _ (lv_sub hl [0, 1] rfl)
  exact L_7 _ G1 hM _ _ hB g2 r_h0 a_h0 1 (q_1.wk (by decide)) (Nat.lt_succ_self _) (by rw [← hgn_g2]; exact hJ.pt (by decide)) ⟨fun _ => ⟨i0, 0, dp0, RS, CF, by rw [← e9_g2]; rfl⟩, fun h => absurd h (by decide)⟩ _ (lv_sub hl [0, 1] rfl)
