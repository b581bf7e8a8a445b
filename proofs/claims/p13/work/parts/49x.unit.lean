set_option maxHeartbeats 4000000 in
set_option maxRecDepth 100000 in
theorem f_X12_bad (l : Launch) (D : va_G) (tys : List (ClassId × FieldType)) (base : Nat) (G : iv_G) (h0 : Nat) (g_h0 : Nat → Int32) (r_h0 : Nat → Nat) (a_h0 : G h0 = some (12, g_h0, r_h0)) (x_0 : Int32) (i_x_0 : iv_R 1 3 x_0) (hJ : iv_J g_h0) (T : Nat → Int) (n : Nat) (K V P : Nat → Int) (hR : tk_R T n K V P) (rr0 : Nat) (hr3 : rr0 < 3) (dp0 i0 : Nat) (RS : mw h0 T n K V P rr0 dp0 i0 G) : Met l yX12_bad (Cond.code yX12_bad cX12_bad 2 (some .boolean) :: iv_W0) ({ frames := 0, cells := 0, slots := 0, locals := 0 }) (iv_Pc iv_sh D classes tys base G [.ref h0, .int x_0]) (iv_Qi iv_sh D classes tys base (fun v G' => iv_Md [12] G G' ∧ iv_R 0 0 v ∧ iv_pr 0 0 h0 G G' ∧ (mt_ h0 P x_0.toInt.toNat i0 G'))) 0 0 (iv_A base) := by
  refine iv_head (by decide) (Nat.le_of_ble_eq_true rfl) ?_
  intro p e s m args below meth c ls X hr hlocks hname hB hl
  have X := X
  have hx := X.1.1
  have hb := X.1.2.1
  have hM : iv_Md [12] G G := iv_Md.rf
  have a_st := a_h0
  have a_lb := a_h0
  have hP : iv_pr 0 0 h0 G G := iv_pr.rf a_h0 hJ
  have hL : iv_pr 0 0 h0 G G := hP
  have hl : lv_has ls 2 [(0, .ref h0), (1, .int x_0)] := hl
  refine lv_aload_n hx hb dX12_bad_0 rfl (lv_at hl 0 rfl) ?_
  refine lv_iload_n hx hb dX12_bad_1 rfl (lv_at hl 1 rfl) ?_
  refine iv_puti X ft_X12 hB a_h0 sh_12 20 (by decide) rfl rfl k_fl_X12_180 rfl (i_x_0.wk (by decide)) rfl rfl dX12_bad_2 (fun H locs hB => ?_)
  have hm := iv_Md.put (x := x_0) a_h0 (j := 20) (by decide) (by decide)
  have h9 := iv_up_eq (G := G) (a := h0) (k := (12, upd g_h0 20 x_0, r_h0))
  have hL := hL.put (x := x_0) a_h0 (j := 20) (by decide)
  generalize iv_up G h0 _ = G1 at hB hm h9 hL
  have hM := hM.stp hm (by decide)
  generalize hgn_g2 : upd g_h0 _ _ = g2 at h9
  have a_h0 := h9
  have e9_g2 : x_0 = g2 20 := by rw [← hgn_g2]; simp [upd]
  refine lv_aload_n hx hb dX12_bad_5 rfl (lv_at hl 0 rfl) ?_
  refine lv_aload_n hx hb dX12_bad_6 rfl (lv_at hl 0 rfl) ?_
  refine iv_geti X ft_X12 hB a_h0 sh_12 18 (by decide) rfl k_fl_X12_88 dX12_bad_7 (fun x3 e_x3 i_x3 => ?_)
  refine iv_puti X ft_X12 hB a_h0 sh_12 21 (by decide) rfl rfl k_fl_X12_183 rfl (i_x3.wk (by decide)) rfl rfl dX12_bad_10 (fun H locs hB => ?_)
  have hm := iv_Md.put (x := x3) a_h0 (j := 21) (by decide) (by decide)
  have h9 := iv_up_eq (G := G1) (a := h0) (k := (12, upd g2 21 x3, r_h0))
  have hL := hL.put (x := x3) a_h0 (j := 21) (by decide)
  generalize iv_up G1 h0 _ = G4 at hB hm h9 hL
  have hM := hM.stp hm (by decide)
  generalize hgn_g5 : upd g2 _ _ = g5 at h9
  have a_h0 := h9
  have e6 : x_0 = g5 20 := by rw [← hgn_g5]; exact e9_g2
  have e7 : x3 = g5 18 := by rw [← hgn_g5]; exact e_x3
  have e9_g5 : x3 = g5 21 := by rw [← hgn_g5]; simp [upd]
  refine lv_iconst (v := 0) hx hb dX12_bad_13 (by decide) ?_
  exact iv_zret X hr hlocks hB (q_0.wk (by decide)) ⟨hM, q_0, ((hP.tr hL).wk (by decide)), (⟨g5, r_h0, a_h0, by rw [← e6]; have w := i_x_0.1; omega, by rw [← e9_g5, e_x3, ← hgn_g2]; exact (RS.1.got a_st).2.2.1⟩)⟩ dX12_bad_14
set_option maxHeartbeats 4000000 in
set_option maxRecDepth 100000 in
theorem f_X12_need (l : Launch) (D : va_G) (tys : List (ClassId × FieldType)) (base : Nat) (G : iv_G) (h0 : Nat) (g_h0 : Nat → Int32) (r_h0 : Nat → Nat) (a_h0 : G h0 = some (12, g_h0, r_h0)) (x_0 : Int32) (i_x_0 : iv_R 2 200 x_0) (hJ : iv_J g_h0) (T : Nat → Int) (n : Nat) (K V P : Nat → Int) (hR : tk_R T n K V P) (rr0 : Nat) (hr3 : rr0 < 3) (dp0 i0 : Nat) (RS : mw h0 T n K V P rr0 dp0 i0 G) : Met l yX12_need (Cond.code yX12_need cX12_need 2 (some .boolean) :: iv_W0) ({ frames := 9, cells := 0, slots := 0, locals := 190 }) (iv_Pc iv_sh D classes tys base G [.ref h0, .int x_0]) (iv_Qi iv_sh D classes tys base (fun v G' => iv_Md [12] G G' ∧ iv_R 0 1 v ∧ iv_pr 0 0 h0 G G' ∧ (¬ v = 0 → iv_pr 1 0 h0 G G') ∧ ((¬ v = 0 → tk_M rr0 (K i0) = x_0.toInt ∧ i0 < tk_c T n n ∧ mw h0 T n K V P rr0 dp0 (i0 + 1) G') ∧ (v = 0 → ¬ tk_M rr0 (K i0) = x_0.toInt ∧ mt_ h0 P 1 i0 G')))) 0 0 (iv_A base) := by
  refine iv_head (by decide) (Nat.le_of_ble_eq_true rfl) ?_
  intro p e s m args below meth c ls X hr hlocks hname hB hl
  have X := X
  have hx := X.1.1
  have hb := X.1.2.1
  have hM : iv_Md [12] G G := iv_Md.rf
  have a_st := a_h0
  have a_lb := a_h0
  have hP : iv_pr 0 0 h0 G G := iv_pr.rf a_h0 hJ
  have hL : iv_pr 0 0 h0 G G := hP
  have hl : lv_has ls 2 [(0, .ref h0), (1, .int x_0)] := hl
  refine lv_aload_n hx hb dX12_need_0 rfl (lv_at hl 0 rfl) ?_
  refine iv_geti X ft_X12 hB a_h0 sh_12 17 (by decide) rfl k_fl_X12_165 dX12_need_1 (fun x1 e_x1 i_x1 => ?_)
  have hx1 : x1.toInt = tk_M rr0 (K i0) := by rw [e_x1]; exact RS.tok a_h0
  refine lv_iload_n hx hb dX12_need_4 rfl (lv_at hl 1 rfl) ?_
  refine lv_icmp_eq (tgt := 14) hx hb dX12_need_5 (by decide) (fun c2 => ?_) (fun c2 => ?_)
  · skip
    have m2 : tk_M rr0 (K i0) = x_0.toInt := by rw [← hx1, c2]
    have i2_x1 : iv_R 2 200 x1 := ((i_x1.cutLo (n := 2) (iv_eq_r c2 i_x_0).1).cutHi (n := 200) (iv_eq_r c2 i_x_0).2)
    refine lv_aload_n hx hb dX12_need_14 rfl (lv_at hl 0 rfl) ?_
    have hlt9 := RS.lt hR (by rw [← hx1]; have w := i2_x1.1; omega)
    have a_q4 := a_h0
    have hx_q4 := iv_get64 hB a_h0
    have hs_q4 := iv_s18 hB a_h0
    refine iv_cVv X k_good k_mf_X12_next0 k_im_X12_next0 k_sel_X12_next0 k_ml_X12_189 ft_X12 hB a_h0 sh_12 (As := []) (f_X12_next0 l D tys base G h0 g_h0 r_h0 a_h0 T n K V P hR rr0 (i0 + 1) hr3 (RS.1.me (RS.lt hR (by rw [← hx1]; have w := i2_x1.1; omega)))) ⟨rfl, rfl⟩ ⟨Nat.le_of_ble_eq_true rfl, Nat.le_of_ble_eq_true rfl⟩ ⟨Nat.le_of_ble_eq_true rfl, Nat.le_of_ble_eq_true rfl⟩ rfl rfl hl.1 (Nat.le_of_ble_eq_true rfl) dX12_need_15 (fun G9 H locs hq hB => ?_)
    obtain ⟨hm, xp5, xm⟩ := hq
    obtain ⟨G6, hG9⟩ : ∃ g, g = G9 := ⟨_, rfl⟩
    rw [← hG9] at hm hB xp5 xm
    have hM := hM.stp hm (by decide)
    have RS := RS.next hm xm
    obtain ⟨g7, r8, a_h0, f_g7⟩ := hm.ex a_h0
    have hL : iv_pr (1) 0 h0 G G6 := (hL.next1 hm a_q4 xp5 (by rw [← e_x1]; exact Int.le_trans (by decide) i2_x1.1)).wk (by decide)
    refine lv_iconst (v := 1) hx hb dX12_need_18 (by decide) ?_
    exact iv_zret X hr hlocks hB (q_1.wk (by decide)) ⟨hM, (q_1.wk (by decide)), ⟨((hP.tr hL).wk (by decide)), fun _ => (hP.tr hL).wk (by decide), (⟨fun _ => ⟨m2, hlt9, RS⟩, fun h => absurd h (by decide)⟩)⟩⟩ dX12_need_19
  · skip
    have m2 : ¬ tk_M rr0 (K i0) = x_0.toInt := fun q => c2 (Int32.toInt_inj.mp (by rw [hx1, q]))
    refine lv_aload_n hx hb dX12_need_8 rfl (lv_at hl 0 rfl) ?_
    refine lv_iconst (v := 1) hx hb dX12_need_9 (by decide) ?_
    have a_q9 := a_h0
    have hx_q9 := iv_get64 hB a_h0
    have hs_q9 := iv_s18 hB a_h0
    refine iv_cVi X k_good k_mf_X12_bad k_im_X12_bad k_sel_X12_bad k_ml_X12_186 ft_X12 hB a_h0 sh_12 (As := [.int 1]) (f_X12_bad l D tys base G h0 g_h0 r_h0 a_h0 1 (q_1.wk (by decide)) (hL.J a_lb a_h0) T n K V P hR rr0 hr3 dp0 i0 RS) ⟨rfl, rfl⟩ ⟨Nat.le_of_ble_eq_true rfl, Nat.le_of_ble_eq_true rfl⟩ ⟨Nat.le_of_ble_eq_true rfl, Nat.le_of_ble_eq_true rfl⟩ rfl rfl hl.1 (Nat.le_of_ble_eq_true rfl) dX12_need_10 (fun x10 G9 H locs hq hB => ?_)
    obtain ⟨hm, i_x10, xp11, xm⟩ := hq
    obtain ⟨G12, hG9⟩ : ∃ g, g = G9 := ⟨_, rfl⟩
    rw [← hG9] at hm hB xp11 xm
    have hM := hM.stp hm (by decide)
    obtain ⟨g13, r14, a_h0, f_g13⟩ := hm.ex a_h0
    have hL : iv_pr (0) 0 h0 G G12 := (hL.tr xp11).wk (by decide)
    exact iv_zret X hr hlocks hB (i_x10.wk (by decide)) ⟨hM, (i_x10.wk (by decide)), ⟨((hP.tr hL).wk (by decide)), fun h => absurd (iv_z i_x10) h, (⟨fun h => absurd (iv_z i_x10) h, fun _ => ⟨m2, xm⟩⟩)⟩⟩ dX12_need_13
set_option maxHeartbeats 4000000 in
set_option maxRecDepth 100000 in
theorem f_X12_opens (l : Launch) (D : va_G) (tys : List (ClassId × FieldType)) (base : Nat) (G : iv_G) (h0 : Nat) (g_h0 : Nat → Int32) (r_h0 : Nat → Nat) (a_h0 : G h0 = some (12, g_h0, r_h0)) (hJ : iv_J g_h0) (ht : 2 ≤ (g_h0 17).toInt) (T : Nat → Int) (n : Nat) (K V P : Nat → Int) (hR : tk_R T n K V P) (rr0 : Nat) (hr3 : rr0 < 3) (dp0 i0 : Nat) (RS : mw h0 T n K V P rr0 dp0 i0 G) (hd : dp0 ≤ 8) : Met l yX12_opens (Cond.code yX12_opens cX12_opens 1 (some .boolean) :: iv_W0) ({ frames := 9, cells := 0, slots := 0, locals := 190 }) (iv_Pc iv_sh D classes tys base G [.ref h0]) (iv_Qi iv_sh D classes tys base (fun v G' => iv_MdT [12] G G' ∧ iv_R 0 1 v ∧ iv_pr 0 0 h0 G G' ∧ iv_s13 h0 G G' ∧ (¬ v = 0 → iv_pr 1 0 h0 G G') ∧ ((¬ v = 0 → dp0 < 8 ∧ i0 < tk_c T n n ∧ mw h0 T n K V P rr0 (dp0 + 1) (i0 + 1) G') ∧ (v = 0 → dp0 = 8 ∧ mt_ h0 P 3 i0 G')))) 0 0 (iv_A base) := by
  refine iv_head (by decide) (Nat.le_of_ble_eq_true rfl) ?_
  intro p e s m args below meth c ls X hr hlocks hname hB hl
  have X := X
  have hx := X.1.1
  have hb := X.1.2.1
  have hM : iv_MdT [12] G G := iv_MdT.rf
  have a_st := a_h0
  have a_lb := a_h0
  have hP : iv_pr 0 0 h0 G G := iv_pr.rf a_h0 hJ
  have hL : iv_pr 0 0 h0 G G := hP
  have hl : lv_has ls 1 [(0, .ref h0)] := hl
  obtain ⟨x13, e_x13⟩ : ∃ x, x = g_h0 13 := ⟨_, rfl⟩
  obtain ⟨x17, e_x17⟩ : ∃ x, x = g_h0 17 := ⟨_, rfl⟩
  refine lv_aload_n hx hb dX12_opens_0 rfl (lv_at hl 0 rfl) ?_
  refine iv_geti X ft_X12 hB a_h0 sh_12 23 (by decide) rfl k_fl_X12_195 dX12_opens_1 (fun x1 e_x1 i_x1 => ?_)
  refine lv_bipush (v := 8) hx hb dX12_opens_4 (by decide) ?_
  refine lv_icmp_ne (tgt := 15) hx hb dX12_opens_6 (by decide) (fun c2 => ?_) (fun c2 => ?_)
  · skip
    refine lv_aload_n hx hb dX12_opens_15 rfl (lv_at hl 0 rfl) ?_
    refine lv_dup hx hb dX12_opens_16 rfl ?_
    refine iv_geti0 X ft_X12 hB a_h0 sh_12 23 (by decide) rfl k_fl_X12_195 dX12_opens_17 e_x1 ?_
    refine lv_iconst (v := 1) hx hb dX12_opens_20 (by decide) ?_
    refine lv_iadd hx hb dX12_opens_21 ?_
    refine lv_topi (fun x3 e_x3 => ?_)
    have i_x3 := iv_R.all x3
    have hd1 : x1.toInt = (dp0 : Int) := by rw [e_x1]; exact RS.2.val a_h0 hd
    have hd8 : dp0 < 8 := by have w := mt Int32.toInt_inj.mp c2; have e8 : (8 : Int32).toInt = 8 := rfl; omega
    have hx3 : x3.toInt = ((dp0 + 1 : Nat) : Int) := by
      have e1 : (1 : Int32).toInt = 1 := rfl
      rw [e_x3, iv_ti_add (by omega) (by omega), hd1, e1]
      omega
    have hlt9 := RS.lt hR (by rw [← RS.tok a_h0]; omega)
    refine iv_puti X ft_X12 hB a_h0 sh_12 23 (by decide) rfl rfl k_fl_X12_195 rfl i_x3 rfl rfl dX12_opens_22 (fun H locs hB => ?_)
    have hm := iv_MdT.put (x := x3) a_h0 (j := 23) (by decide)
    have h9 := iv_up_eq (G := G) (a := h0) (k := (12, upd g_h0 23 x3, r_h0))
    have hL := hL.put (x := x3) a_h0 (j := 23) (by decide)
    have RS := RS.dep (x := x3) a_h0 hx3
    generalize iv_up G h0 _ = G4 at hB hm h9 hL RS
    have hM := hM.stp hm (by decide)
    generalize hgn_g5 : upd g_h0 _ _ = g5 at h9
    have a_h0 := h9
    have e6 : x13 = g5 13 := by rw [← hgn_g5]; exact e_x13
    have e7 : x17 = g5 17 := by rw [← hgn_g5]; exact e_x17
    have e9_g5 : x3 = g5 23 := by rw [← hgn_g5]; simp [upd]
    refine lv_aload_n hx hb dX12_opens_25 rfl (lv_at hl 0 rfl) ?_
    have a_q8 := a_h0
    have hx_q8 := iv_get64 hB a_h0
    have hs_q8 := iv_s18 hB a_h0
    refine iv_cVv X k_good k_mf_X12_next0 k_im_X12_next0 k_sel_X12_next0 k_ml_X12_189 ft_X12 hB a_h0 sh_12 (As := []) (f_X12_next0 l D tys base G4 h0 g5 r_h0 a_h0 T n K V P hR rr0 (i0 + 1) hr3 (RS.1.me hlt9)) ⟨rfl, rfl⟩ ⟨Nat.le_of_ble_eq_true rfl, Nat.le_of_ble_eq_true rfl⟩ ⟨Nat.le_of_ble_eq_true rfl, Nat.le_of_ble_eq_true rfl⟩ rfl rfl hl.1 (Nat.le_of_ble_eq_true rfl) dX12_opens_26 (fun G9 H locs hq hB => ?_)
    obtain ⟨hm, xp9, xm⟩ := hq
    obtain ⟨G10, hG9⟩ : ∃ g, g = G9 := ⟨_, rfl⟩
    rw [← hG9] at hm hB xp9 xm
    have hM := hM.stp (iv_MdT.of hm) (by decide)
    have RS := RS.next hm xm
    obtain ⟨g11, r12, a_h0, f_g11⟩ := hm.ex a_h0
    have e13 : x13 = g11 13 := e6.trans (f_g11.2.1 13 (show (13 : Nat) ∈ iv_stab 12 from by decide)).symm
    have e14 : x3 = g11 23 := e9_g5.trans (f_g11.2.1 23 (show (23 : Nat) ∈ iv_stab 12 from by decide)).symm
    have hL : iv_pr (1) 0 h0 G G10 := (hL.next1 hm a_q8 xp9 (by rw [← e7]; exact Int.le_trans (by decide) (iv_R.cutLo (n := 2) (iv_R.all x17) (by rw [e_x17]; exact ht)).1)).wk (by decide)
    refine lv_iconst (v := 1) hx hb dX12_opens_29 (by decide) ?_
    exact iv_zret X hr hlocks hB (q_1.wk (by decide)) ⟨hM, (q_1.wk (by decide)), ⟨((hP.tr hL).wk (by decide)), fun g9 r9 g8 r8 k9 k8 => by have q1 := a_st.symm.trans k9; cases q1; have q2 := a_h0.symm.trans k8; cases q2; exact e13.symm.trans e_x13, fun _ => (hP.tr hL).wk (by decide), (⟨fun _ => ⟨hd8, hlt9, RS⟩, fun h => absurd h (by decide)⟩)⟩⟩ dX12_opens_30
  · skip
    have hd8 : dp0 = 8 := by have w := RS.2.val a_h0 hd; rw [← e_x1, c2] at w; have e8 : (8 : Int32).toInt = 8 := rfl; omega
    have i14_x1 : iv_R 8 8 x1 := ((i_x1.cutLo (n := 8) (iv_eq_r c2 q_8).1).cutHi (n := 8) (iv_eq_r c2 q_8).2)
    refine lv_aload_n hx hb dX12_opens_9 rfl (lv_at hl 0 rfl) ?_
    refine lv_iconst (v := 3) hx hb dX12_opens_10 (by decide) ?_
    have a_q16 := a_h0
    have hx_q16 := iv_get64 hB a_h0
    have hs_q16 := iv_s18 hB a_h0
    refine iv_cVi X k_good k_mf_X12_bad k_im_X12_bad k_sel_X12_bad k_ml_X12_186 ft_X12 hB a_h0 sh_12 (As := [.int 3]) (f_X12_bad l D tys base G h0 g_h0 r_h0 a_h0 3 (q_3.wk (by decide)) (hL.J a_lb a_h0) T n K V P hR rr0 hr3 dp0 i0 RS) ⟨rfl, rfl⟩ ⟨Nat.le_of_ble_eq_true rfl, Nat.le_of_ble_eq_true rfl⟩ ⟨Nat.le_of_ble_eq_true rfl, Nat.le_of_ble_eq_true rfl⟩ rfl rfl hl.1 (Nat.le_of_ble_eq_true rfl) dX12_opens_11 (fun x17 G9 H locs hq hB => ?_)
    obtain ⟨hm, i_x17, xp18, xm⟩ := hq
    obtain ⟨G19, hG9⟩ : ∃ g, g = G9 := ⟨_, rfl⟩
    rw [← hG9] at hm hB xp18 xm
    have hM := hM.stp (iv_MdT.of hm) (by decide)
    obtain ⟨g20, r21, a_h0, f_g20⟩ := hm.ex a_h0
    have e22 : x13 = g20 13 := e_x13.trans (f_g20.2.1 13 (show (13 : Nat) ∈ iv_stab 12 from by decide)).symm
    have e23 : x1 = g20 23 := e_x1.trans (f_g20.2.1 23 (show (23 : Nat) ∈ iv_stab 12 from by decide)).symm
    have hL : iv_pr (0) 0 h0 G G19 := (hL.tr xp18).wk (by decide)
    exact iv_zret X hr hlocks hB (i_x17.wk (by decide)) ⟨hM, (i_x17.wk (by decide)), ⟨((hP.tr hL).wk (by decide)), fun g9 r9 g8 r8 k9 k8 => by have q1 := a_st.symm.trans k9; cases q1; have q2 := a_h0.symm.trans k8; cases q2; exact e22.symm.trans e_x13, fun h => absurd (iv_z i_x17) h, (⟨fun h => absurd (iv_z i_x17) h, fun _ => ⟨hd8, xm⟩⟩)⟩⟩ dX12_opens_14
set_option maxHeartbeats 4000000 in
set_option maxRecDepth 100000 in
theorem f_X12_unit (l : Launch) (D : va_G) (tys : List (ClassId × FieldType)) (base : Nat) (G : iv_G) (h0 : Nat) (g_h0 : Nat → Int32) (r_h0 : Nat → Nat) (a_h0 : G h0 = some (12, g_h0, r_h0)) (hJ : iv_J g_h0) (hE0 : (g_h0 13).toInt ≤ (g_h0 18).toInt) (T : Nat → Int) (n : Nat) (K V P : Nat → Int) (hR : tk_R T n K V P) (rr0 : Nat) (hr3 : rr0 < 3) (dp0 i0 : Nat) (RS : mw h0 T n K V P rr0 dp0 i0 G) (nn0 ll0 cc0 dd0 : Nat) (ss0 : List Nat) (AT : tk_at rr0 nn0 K V i0 (.unit ll0 cc0 dd0 ss0)) : Met l yX12_unit (Cond.code yX12_unit cX12_unit 2 (some .boolean) :: iv_W0) ({ frames := 9, cells := 0, slots := 0, locals := 190 }) (iv_Pc iv_sh D classes tys base G [.ref h0]) (iv_Qi iv_sh D classes tys base (fun v G' => iv_MdT [12, 64] G G' ∧ iv_R 0 1 v ∧ iv_pr 0 0 h0 G G' ∧ (¬ v = 0 → iv_cd h0 G G') ∧ (qm h0 T n K V P rr0 nn0 dp0 (i0 + 1) (fun i' => tk_cf rr0 nn0 K V i' = .aft ll0 cc0 dd0 ss0) v G'))) 0 0 (iv_A base) := by
  refine iv_head (by decide) (Nat.le_of_ble_eq_true rfl) ?_
  intro p e s m args below meth c ls X hr hlocks hname hB hl
  have X := X
  have hx := X.1.1
  have hb := X.1.2.1
  have hM : iv_MdT [12, 64] G G := iv_MdT.rf
  have a_st := a_h0
  have RSb := RS
  have a_lb := a_h0
  have hP : iv_pr 0 0 h0 G G := iv_pr.rf a_h0 hJ
  have hL : iv_pr 0 0 h0 G G := hP
  have hE := hE0
  have hl : lv_has ls 2 [(0, .ref h0)] := hl
  refine lv_aload_n hx hb dX12_unit_0 rfl (lv_at hl 0 rfl) ?_
  refine iv_geti X ft_X12 hB a_h0 sh_12 17 (by decide) rfl k_fl_X12_165 dX12_unit_1 (fun x1 e_x1 i_x1 => ?_)
  have hx1 : x1.toInt = tk_M rr0 (K i0) := by rw [e_x1]; exact RS.tok a_h0
  refine lv_bipush (v := 41) hx hb dX12_unit_4 (by decide) ?_
  refine lv_bipush (v := 51) hx hb dX12_unit_6 (by decide) ?_
  refine iv_cSi X k_good k_mf_X12_isIn k_st_X12_isIn k_ml_X12_56 hB (As := [.int x1, .int 41, .int 51]) (c_X12_isIn l D tys base G x1 i_x1 41 (q_41.wk (by decide)) 51 (q_51.wk (by decide))) ⟨rfl, rfl⟩ ⟨Nat.le_of_ble_eq_true rfl, Nat.le_of_ble_eq_true rfl⟩ ⟨Nat.le_of_ble_eq_true rfl, Nat.le_of_ble_eq_true rfl⟩ rfl rfl hl.1 (Nat.le_of_ble_eq_true rfl) dX12_unit_8 (fun x2 G9 H locs hq hB => ?_)
  obtain ⟨rfl, i_x2, hp3⟩ := hq
  have k4 : ¬ x2 = 0 → iv_R 41 51 x1 := fun h => ⟨iv_max i_x1.1 (Int.le_trans q_41.1 (hp3.1 h).1) (by decide), iv_min i_x1.2 (Int.le_trans (hp3.1 h).2 q_51.2) (by decide)⟩
  refine lv_istore_n (lv' := [(1, .int x2), (0, .ref h0)]) hx hb dX12_unit_11 rfl hl (by decide) rfl (fun ls hl => ?_)
  refine lv_aload_n hx hb dX12_unit_12 rfl (lv_at hl 1 rfl) ?_
  refine iv_geti0 X ft_X12 hB a_h0 sh_12 17 (by decide) rfl k_fl_X12_165 dX12_unit_13 e_x1 ?_
  refine lv_iconst (v := 2) hx hb dX12_unit_16 (by decide) ?_
  refine lv_icmp_eq (tgt := 30) hx hb dX12_unit_17 (by decide) (fun c5 => ?_) (fun c5 => ?_)
  · skip
    have m5 : tk_M rr0 (K i0) = 2 := by rw [← hx1, c5]; rfl
    have i5_x1 : iv_R 2 2 x1 := ((i_x1.cutLo (n := 2) (iv_eq_r c5 q_2).1).cutHi (n := 2) (iv_eq_r c5 q_2).2)
    refine lv_aload_n hx hb dX12_unit_30 rfl (lv_at hl 1 rfl) ?_
    refine lv_iload_n hx hb dX12_unit_31 rfl (lv_at hl 0 rfl) ?_
    refine lv_if_eq (tgt := 45) hx hb dX12_unit_32 (by decide) (fun c7 => ?_) (fun c7 => ?_)
    · skip
      have i7_x2 : iv_R 0 0 x2 := (i_x2.cutHi (n := 0) (iv_eq_r c7 q_0).2)
      refine lv_iconst (v := 0) hx hb dX12_unit_45 (by decide) ?_
      refine lv_aload_n hx hb dX12_unit_46 rfl (lv_at hl 1 rfl) ?_
      refine iv_geti X ft_X12 hB a_h0 sh_12 19 (by decide) rfl k_fl_X12_177 dX12_unit_47 (fun x9 e_x9 i_x9 => ?_)
      have a_q10 := a_h0
      have hx_q10 := iv_get64 hB a_h0
      have hs_q10 := iv_s18 hB a_h0
      refine iv_cVv X k_good k_mf_X12_lay k_im_X12_lay k_sel_X12_lay k_ml_X12_202 ft_X12 hB a_h0 sh_12 (As := [.int 0, .int x9]) (c_X12_lay l D tys base G h0 g_h0 r_h0 a_h0 (hL.ly (by decide) a_lb a_h0 hE (iv_s18 hB a_h0)) 0 (q_0.wk (by decide)) x9 i_x9) ⟨rfl, rfl⟩ ⟨Nat.le_of_ble_eq_true rfl, Nat.le_of_ble_eq_true rfl⟩ ⟨Nat.le_of_ble_eq_true rfl, Nat.le_of_ble_eq_true rfl⟩ rfl rfl hl.1 (Nat.le_of_ble_eq_true rfl) dX12_unit_50 (fun G9 H locs hq hB => ?_)
      obtain ⟨hm, xp11⟩ := hq
      obtain ⟨G12, hG9⟩ : ∃ g, g = G9 := ⟨_, rfl⟩
      rw [← hG9] at hm hB xp11
      have hM := hM.stp hm (by decide)
      have RS := RS.lay xp11 hm (by decide) a_q10 hx_q10
      obtain ⟨g13, r14, a_h0, f_g13⟩ := hm.ex a_h0
      have hL : iv_pr (-1) 1 h0 G G12 := (hL.lay xp11 a_q10 hx_q10).wk (by decide)
      have e15 : x1 = g13 17 := e_x1.trans (iv_ly.sl xp11 a_q10 hx_q10 a_h0 17 (by decide)).symm
      have hC16 := iv_cd.num xp11 a_q10 hx_q10 hs_q10.2 (q_0.wk (by decide))
      refine lv_aload_n hx hb dX12_unit_53 rfl (lv_at hl 1 rfl) ?_
      have a_q17 := a_h0
      have hx_q17 := iv_get64 hB a_h0
      have hs_q17 := iv_s18 hB a_h0
      refine iv_cVv X k_good k_mf_X12_next0 k_im_X12_next0 k_sel_X12_next0 k_ml_X12_189 ft_X12 hB a_h0 sh_12 (As := []) (f_X12_next0 l D tys base G12 h0 g13 r14 a_h0 T n K V P hR rr0 (i0 + 1) hr3 (RS.1.me (RS.lt hR (by rw [← hx1]; have w := i5_x1.1; omega)))) ⟨rfl, rfl⟩ ⟨Nat.le_of_ble_eq_true rfl, Nat.le_of_ble_eq_true rfl⟩ ⟨Nat.le_of_ble_eq_true rfl, Nat.le_of_ble_eq_true rfl⟩ rfl rfl hl.1 (Nat.le_of_ble_eq_true rfl) dX12_unit_54 (fun G9 H locs hq hB => ?_)
      obtain ⟨hm, xp18, xm⟩ := hq
      obtain ⟨G19, hG9⟩ : ∃ g, g = G9 := ⟨_, rfl⟩
      rw [← hG9] at hm hB xp18 xm
      have hM := hM.stp (iv_MdT.of hm) (by decide)
      have RS := RS.next hm xm
      obtain ⟨g20, r21, a_h0, f_g20⟩ := hm.ex a_h0
      have hL : iv_pr (0) 1 h0 G G19 := (hL.next1 hm a_q17 xp18 (by rw [← e15]; exact Int.le_trans (by decide) i5_x1.1)).wk (by decide)
      have hC22 := hC16.keep hm a_q17 hx_q17
      refine lv_iconst (v := 1) hx hb dX12_unit_57 (by decide) ?_
      exact iv_zret X hr hlocks hB (q_1.wk (by decide)) ⟨hM, (q_1.wk (by decide)), ⟨((hP.tr hL).wk (by decide)), fun _ => hC22, (⟨fun _ => ⟨i0 + 1, Nat.le_refl _, RS, mu_ok (RSb.kd hR) AT (by first | exact Or.inl m5 | exact Or.inr (by rw [← hx1]; exact ⟨i25_x1.1, i25_x1.2⟩))⟩, fun h => absurd h (by decide)⟩)⟩⟩ dX12_unit_58
    · skip
      have i22_x2 : iv_R 1 1 x2 := iv_ne_lo c7 i_x2 q_0 (by decide)
      exact (i5_x1.cutLo (n := 41) (k4 c7).1).no (by decide)
  · skip
    have m5 : ¬ tk_M rr0 (K i0) = 2 := fun q => c5 (Int32.toInt_inj.mp (by rw [hx1, q]; rfl))
    refine lv_iload_n hx hb dX12_unit_20 rfl (lv_at hl 0 rfl) ?_
    refine lv_if_ne (tgt := 30) hx hb dX12_unit_21 (by decide) (fun c24 => ?_) (fun c24 => ?_)
    · skip
      have i24_x2 : iv_R 1 1 x2 := iv_ne_lo c24 i_x2 q_0 (by decide)
      have i25_x1 : iv_R 41 51 x1 := ((i_x1.cutLo (n := 41) (k4 c24).1).cutHi (n := 51) (k4 c24).2)
      refine lv_aload_n hx hb dX12_unit_30 rfl (lv_at hl 1 rfl) ?_
      refine lv_iload_n hx hb dX12_unit_31 rfl (lv_at hl 0 rfl) ?_
      refine lv_if_eq (tgt := 45) hx hb dX12_unit_32 (by decide) (fun c27 => ?_) (fun c27 => ?_)
      · skip
        exact absurd c27 c24
      · skip
        refine lv_aload_n hx hb dX12_unit_35 rfl (lv_at hl 1 rfl) ?_
        refine iv_geti0 X ft_X12 hB a_h0 sh_12 17 (by decide) rfl k_fl_X12_165 dX12_unit_36 e_x1 ?_
        refine lv_bipush (v := 40) hx hb dX12_unit_39 (by decide) ?_
        refine iv_isub hx hb i25_x1 q_40 (lo := 1) (hi := 11) (by decide) dX12_unit_41 (fun x28 e_x28 i_x28 => ?_)
        refine lv_goto (tgt := 46) hx hb dX12_unit_42 (by decide) ?_
        refine lv_aload_n hx hb dX12_unit_46 rfl (lv_at hl 1 rfl) ?_
        refine iv_geti X ft_X12 hB a_h0 sh_12 19 (by decide) rfl k_fl_X12_177 dX12_unit_47 (fun x29 e_x29 i_x29 => ?_)
        have a_q30 := a_h0
        have hx_q30 := iv_get64 hB a_h0
        have hs_q30 := iv_s18 hB a_h0
        refine iv_cVv X k_good k_mf_X12_lay k_im_X12_lay k_sel_X12_lay k_ml_X12_202 ft_X12 hB a_h0 sh_12 (As := [.int x28, .int x29]) (c_X12_lay l D tys base G h0 g_h0 r_h0 a_h0 (hL.ly (by decide) a_lb a_h0 hE (iv_s18 hB a_h0)) x28 (i_x28.wk (by decide)) x29 i_x29) ⟨rfl, rfl⟩ ⟨Nat.le_of_ble_eq_true rfl, Nat.le_of_ble_eq_true rfl⟩ ⟨Nat.le_of_ble_eq_true rfl, Nat.le_of_ble_eq_true rfl⟩ rfl rfl hl.1 (Nat.le_of_ble_eq_true rfl) dX12_unit_50 (fun G9 H locs hq hB => ?_)
        obtain ⟨hm, xp31⟩ := hq
        obtain ⟨G32, hG9⟩ : ∃ g, g = G9 := ⟨_, rfl⟩
        rw [← hG9] at hm hB xp31
        have hM := hM.stp hm (by decide)
        have RS := RS.lay xp31 hm (by decide) a_q30 hx_q30
        obtain ⟨g33, r34, a_h0, f_g33⟩ := hm.ex a_h0
        have hL : iv_pr (-1) 1 h0 G G32 := (hL.lay xp31 a_q30 hx_q30).wk (by decide)
        have e35 : x1 = g33 17 := e_x1.trans (iv_ly.sl xp31 a_q30 hx_q30 a_h0 17 (by decide)).symm
        have hC36 := iv_cd.num xp31 a_q30 hx_q30 hs_q30.2 (i_x28.wk (by decide))
        refine lv_aload_n hx hb dX12_unit_53 rfl (lv_at hl 1 rfl) ?_
        have a_q37 := a_h0
        have hx_q37 := iv_get64 hB a_h0
        have hs_q37 := iv_s18 hB a_h0
        refine iv_cVv X k_good k_mf_X12_next0 k_im_X12_next0 k_sel_X12_next0 k_ml_X12_189 ft_X12 hB a_h0 sh_12 (As := []) (f_X12_next0 l D tys base G32 h0 g33 r34 a_h0 T n K V P hR rr0 (i0 + 1) hr3 (RS.1.me (RS.lt hR (by rw [← hx1]; have w := i25_x1.1; omega)))) ⟨rfl, rfl⟩ ⟨Nat.le_of_ble_eq_true rfl, Nat.le_of_ble_eq_true rfl⟩ ⟨Nat.le_of_ble_eq_true rfl, Nat.le_of_ble_eq_true rfl⟩ rfl rfl hl.1 (Nat.le_of_ble_eq_true rfl) dX12_unit_54 (fun G9 H locs hq hB => ?_)
        obtain ⟨hm, xp38, xm⟩ := hq
        obtain ⟨G39, hG9⟩ : ∃ g, g = G9 := ⟨_, rfl⟩
        rw [← hG9] at hm hB xp38 xm
        have hM := hM.stp (iv_MdT.of hm) (by decide)
        have RS := RS.next hm xm
        obtain ⟨g40, r41, a_h0, f_g40⟩ := hm.ex a_h0
        have hL : iv_pr (0) 1 h0 G G39 := (hL.next1 hm a_q37 xp38 (by rw [← e35]; exact Int.le_trans (by decide) i25_x1.1)).wk (by decide)
        have hC42 := hC36.keep hm a_q37 hx_q37
        refine lv_iconst (v := 1) hx hb dX12_unit_57 (by decide) ?_
        exact iv_zret X hr hlocks hB (q_1.wk (by decide)) ⟨hM, (q_1.wk (by decide)), ⟨((hP.tr hL).wk (by decide)), fun _ => hC42, (⟨fun _ => ⟨i0 + 1, Nat.le_refl _, RS, mu_ok (RSb.kd hR) AT (by first | exact Or.inl m5 | exact Or.inr (by rw [← hx1]; exact ⟨i25_x1.1, i25_x1.2⟩))⟩, fun h => absurd h (by decide)⟩)⟩⟩ dX12_unit_58
    · skip
      have i42_x2 : iv_R 0 0 x2 := (i_x2.cutHi (n := 0) (iv_eq_r c24 q_0).2)
      refine lv_aload_n hx hb dX12_unit_24 rfl (lv_at hl 1 rfl) ?_
      refine lv_iconst (v := 1) hx hb dX12_unit_25 (by decide) ?_
      have a_q44 := a_h0
      have hx_q44 := iv_get64 hB a_h0
      have hs_q44 := iv_s18 hB a_h0
      refine iv_cVi X k_good k_mf_X12_bad k_im_X12_bad k_sel_X12_bad k_ml_X12_186 ft_X12 hB a_h0 sh_12 (As := [.int 1]) (f_X12_bad l D tys base G h0 g_h0 r_h0 a_h0 1 (q_1.wk (by decide)) (hL.J a_lb a_h0) T n K V P hR rr0 hr3 dp0 i0 RS) ⟨rfl, rfl⟩ ⟨Nat.le_of_ble_eq_true rfl, Nat.le_of_ble_eq_true rfl⟩ ⟨Nat.le_of_ble_eq_true rfl, Nat.le_of_ble_eq_true rfl⟩ rfl rfl hl.1 (Nat.le_of_ble_eq_true rfl) dX12_unit_26 (fun x45 G9 H locs hq hB => ?_)
      obtain ⟨hm, i_x45, xp46, xm⟩ := hq
      obtain ⟨G47, hG9⟩ : ∃ g, g = G9 := ⟨_, rfl⟩
      rw [← hG9] at hm hB xp46 xm
      have hM := hM.stp (iv_MdT.of hm) (by decide)
      obtain ⟨g48, r49, a_h0, f_g48⟩ := hm.ex a_h0
      have hL : iv_pr (0) 0 h0 G G47 := (hL.tr xp46).wk (by decide)
      exact iv_zret X hr hlocks hB (i_x45.wk (by decide)) ⟨hM, (i_x45.wk (by decide)), ⟨((hP.tr hL).wk (by decide)), fun h => absurd (iv_z i_x45) h, (⟨fun h => absurd (iv_z i_x45) h, fun _ => ⟨i0, 1, mu_no (RSb.kd hR) AT (fun q => by rcases q with q | q; exact m5 q; exact absurd (hp3.2 c24) (by have e41 : (41 : Int32).toInt = 41 := rfl; have e51 : (51 : Int32).toInt = 51 := rfl; omega)), xm⟩⟩)⟩⟩ dX12_unit_29
set_option maxHeartbeats 4000000 in
set_option maxRecDepth 100000 in
theorem f_X12_product (l : Launch) (D : va_G) (tys : List (ClassId × FieldType)) (base : Nat) (G : iv_G) (h0 : Nat) (g_h0 : Nat → Int32) (r_h0 : Nat → Nat) (a_h0 : G h0 = some (12, g_h0, r_h0)) (hJ : iv_J g_h0) (hE0 : (g_h0 13).toInt ≤ (g_h0 18).toInt) (T : Nat → Int) (n : Nat) (K V P : Nat → Int) (hR : tk_R T n K V P) (rr0 : Nat) (hr3 : rr0 < 3) (dp0 i0 : Nat) (RS : mw h0 T n K V P rr0 dp0 i0 G) (nn0 ll0 cc0 dd0 : Nat) (ss0 : List Nat) (AT : tk_at rr0 nn0 K V i0 (.unit ll0 cc0 dd0 ss0)) : Met l yX12_product (Cond.code yX12_product cX12_product 3 (some .boolean) :: iv_W0) ({ frames := 10, cells := 0, slots := 0, locals := 211 }) (iv_Pc iv_sh D classes tys base G [.ref h0]) (iv_Qi iv_sh D classes tys base (fun v G' => iv_MdT [12, 64] G G' ∧ iv_R 0 1 v ∧ iv_pr 0 0 h0 G G' ∧ (¬ v = 0 → iv_cd h0 G G') ∧ (qm h0 T n K V P rr0 nn0 dp0 (i0 + 1) (fun i' => tk_cf rr0 nn0 K V i' = .aft ll0 cc0 dd0 ss0 ∧ ¬ (tk_M rr0 (K i') = 142 ∨ tk_M rr0 (K i') = 147)) v G'))) 0 0 (iv_A base) := by
  refine iv_head (by decide) (Nat.le_of_ble_eq_true rfl) ?_
  intro p e s m args below meth c ls X hr hlocks hname hB hl
  have X := X
  have hx := X.1.1
  have hb := X.1.2.1
  have hM : iv_MdT [12, 64] G G := iv_MdT.rf
  have a_st := a_h0
  have a_lb := a_h0
  have hP : iv_pr 0 0 h0 G G := iv_pr.rf a_h0 hJ
  have hL : iv_pr 0 0 h0 G G := hP
  have hE := hE0
  have hl : lv_has ls 3 [(0, .ref h0)] := hl
  refine lv_aload_n hx hb dX12_product_0 rfl (lv_at hl 0 rfl) ?_
  have a_q1 := a_h0
  have hx_q1 := iv_get64 hB a_h0
  have hs_q1 := iv_s18 hB a_h0
  refine iv_cVi X k_good k_mf_X12_unit k_im_X12_unit k_sel_X12_unit k_ml_X12_206 ft_X12 hB a_h0 sh_12 (As := []) (f_X12_unit l D tys base G h0 g_h0 r_h0 a_h0 (hL.J a_lb a_h0) (hL.le (by decide) a_lb a_h0 hE) T n K V P hR rr0 hr3 dp0 i0 RS nn0 ll0 cc0 dd0 ss0 AT) ⟨rfl, rfl⟩ ⟨Nat.le_of_ble_eq_true rfl, Nat.le_of_ble_eq_true rfl⟩ ⟨Nat.le_of_ble_eq_true rfl, Nat.le_of_ble_eq_true rfl⟩ rfl rfl hl.1 (Nat.le_of_ble_eq_true rfl) dX12_product_1 (fun x2 G9 H locs hq hB => ?_)
  obtain ⟨hm, i_x2, xp3a, xp3b, xm⟩ := hq
  have xp3 := And.intro xp3a xp3b
  obtain ⟨G4, hG9⟩ : ∃ g, g = G9 := ⟨_, rfl⟩
  rw [← hG9] at hm hB xp3 xm
  have hM := hM.stp hm (by decide)
  obtain ⟨g5, r6, a_h0, f_g5⟩ := hm.ex a_h0
  have hL : iv_pr (0) 0 h0 G G4 := (hL.tr xp3.1).wk (by decide)
  refine lv_if_ne (tgt := 9) hx hb dX12_product_4 (by decide) (fun c7 => ?_) (fun c7 => ?_)
  · skip
    obtain ⟨j1, hj1, RS, cf1⟩ := xm.1 c7
    have i7_x2 : iv_R 1 1 x2 := iv_ne_lo c7 i_x2 q_0 (by decide)
    have hC9 := xp3.2 c7
    have L_9 : ∀ (n_9 : Nat) (G12 : iv_G) (hM : iv_MdT [12, 64] G G12) (H : Heap) (locs : List Loc) (hB : iv_B iv_sh D classes tys base G12 s.heap H locs) (g10 : Nat → Int32) (r11 : Nat → Nat) (a_h0 : G12 h0 = some (12, g10, r11)) (hn_9 : (401 - (g10 18).toInt).toNat < n_9) (hP : iv_pr 0 0 h0 G G12) (hC : iv_cd h0 G G12) (i1 : Nat) (hi1 : i0 + 1 ≤ i1) (RS : mw h0 T n K V P rr0 dp0 i1 G12) (CF1 : tk_cf rr0 nn0 K V i1 = .aft ll0 cc0 dd0 ss0) (ls : Array Slot) (hl : lv_has ls 3 [(0, .ref h0)]), W p l e ({ frames := 10, cells := 0, slots := 0, locals := 211 } : Room) s m args below meth c H locs 0 0 (MQ below (iv_Qi iv_sh D classes tys base (fun v G' => iv_MdT [12, 64] G G' ∧ iv_R 0 1 v ∧ iv_pr 0 0 h0 G G' ∧ (¬ v = 0 → iv_cd h0 G G') ∧ (qm h0 T n K V P rr0 nn0 dp0 (i0 + 1) (fun i' => tk_cf rr0 nn0 K V i' = .aft ll0 cc0 dd0 ss0 ∧ ¬ (tk_M rr0 (K i') = 142 ∨ tk_M rr0 (K i') = 147)) v G'))) args s 0 0 (iv_A base)) (F0 m 9 ls []) := by
      intro n_9
      induction n_9 with
      | zero => intro G12 hM H locs hB g10 r11 a_h0 hn_9 hP hC i1 hi1 RS CF1 ls hl; exact absurd hn_9 (Nat.not_lt_zero _)
      | succ n_9 ih_9 =>
        intro G12 hM H locs hB g10 r11 a_h0 hn_9 hP hC i1 hi1 RS CF1 ls hl
        have a_lb := a_h0
        have hL : iv_pr 0 0 h0 G12 G12 := iv_pr.rf a_h0 (hP.J a_st a_h0)
        have hE := hP.le (by decide) a_st a_h0 hE0
        refine lv_aload_n hx hb dX12_product_9 rfl (lv_at hl 0 rfl) ?_
        refine iv_geti X ft_X12 hB a_h0 sh_12 17 (by decide) rfl k_fl_X12_165 dX12_product_10 (fun x13 e_x13 i_x13 => ?_)
        have hx13 : x13.toInt = tk_M rr0 (K i1) := by rw [e_x13]; exact RS.tok a_h0
        refine lv_sipush (v := 142) hx hb dX12_product_13 (by decide) ?_
        refine lv_icmp_eq (tgt := 29) hx hb dX12_product_16 (by decide) (fun c14 => ?_) (fun c14 => ?_)
        · skip
          have m14 : tk_M rr0 (K i1) = 142 := by rw [← hx13, c14]; rfl
          have i14_x13 : iv_R 142 142 x13 := ((i_x13.cutLo (n := 142) (iv_eq_r c14 q_142).1).cutHi (n := 142) (iv_eq_r c14 q_142).2)
          refine lv_aload_n hx hb dX12_product_29 rfl (lv_at hl 0 rfl) ?_
          refine iv_geti0 X ft_X12 hB a_h0 sh_12 17 (by decide) rfl k_fl_X12_165 dX12_product_30 e_x13 ?_
          refine lv_sipush (v := 147) hx hb dX12_product_33 (by decide) ?_
          refine lv_icmp_ne (tgt := 43) hx hb dX12_product_36 (by decide) (fun c16 => ?_) (fun c16 => ?_)
          · skip
            have m16 : ¬ tk_M rr0 (K i1) = 147 := fun q => c16 (Int32.toInt_inj.mp (by rw [hx13, q]; rfl))
            refine lv_iconst (v := 0) hx hb dX12_product_43 (by decide) ?_
            refine lv_istore_n (lv' := [(1, .int 0), (0, .ref h0)]) hx hb dX12_product_44 rfl hl (by decide) rfl (fun ls hl => ?_)
            refine lv_aload_n hx hb dX12_product_45 rfl (lv_at hl 1 rfl) ?_
            have a_q17 := a_h0
            have hx_q17 := iv_get64 hB a_h0
            have hs_q17 := iv_s18 hB a_h0
            refine iv_cVv X k_good k_mf_X12_next0 k_im_X12_next0 k_sel_X12_next0 k_ml_X12_189 ft_X12 hB a_h0 sh_12 (As := []) (f_X12_next0 l D tys base G12 h0 g10 r11 a_h0 T n K V P hR rr0 (i1 + 1) hr3 (RS.1.me (RS.lt hR (by rw [← hx13]; have w := i14_x13.1; omega)))) ⟨rfl, rfl⟩ ⟨Nat.le_of_ble_eq_true rfl, Nat.le_of_ble_eq_true rfl⟩ ⟨Nat.le_of_ble_eq_true rfl, Nat.le_of_ble_eq_true rfl⟩ rfl rfl hl.1 (Nat.le_of_ble_eq_true rfl) dX12_product_46 (fun G9 H locs hq hB => ?_)
            obtain ⟨hm, xp18, xm⟩ := hq
            obtain ⟨G19, hG9⟩ : ∃ g, g = G9 := ⟨_, rfl⟩
            rw [← hG9] at hm hB xp18 xm
            have hM := hM.stp (iv_MdT.of hm) (by decide)
            have CFu := ma_sum (RS.kd hR) CF1 (Or.inr (Or.inr m14))
            have RS := RS.next hm xm
            obtain ⟨g20, r21, a_h0, f_g20⟩ := hm.ex a_h0
            have hL : iv_pr (1) 0 h0 G12 G19 := (hL.next1 hm a_q17 xp18 (by rw [← e_x13]; exact Int.le_trans (by decide) i14_x13.1)).wk (by decide)
            have hC22 := hC.keep hm a_q17 hx_q17
            refine lv_iload_n hx hb dX12_product_49 rfl (lv_at hl 0 rfl) ?_
            refine lv_if_eq (tgt := 96) hx hb dX12_product_50 (by decide) (fun c23 => ?_) (fun c23 => ?_)
            · skip
              refine lv_aload_n hx hb dX12_product_96 rfl (lv_at hl 1 rfl) ?_
              have a_q24 := a_h0
              have hx_q24 := iv_get64 hB a_h0
              have hs_q24 := iv_s18 hB a_h0
              refine iv_cVi X k_good k_mf_X12_unit k_im_X12_unit k_sel_X12_unit k_ml_X12_206 ft_X12 hB a_h0 sh_12 (As := []) (f_X12_unit l D tys base G19 h0 g20 r21 a_h0 (hL.J a_lb a_h0) (hL.le (by decide) a_lb a_h0 hE) T n K V P hR rr0 hr3 dp0 (i1 + 1) RS nn0 ll0 cc0 dd0 ss0 (tk_at.of CFu)) ⟨rfl, rfl⟩ ⟨Nat.le_of_ble_eq_true rfl, Nat.le_of_ble_eq_true rfl⟩ ⟨Nat.le_of_ble_eq_true rfl, Nat.le_of_ble_eq_true rfl⟩ rfl rfl hl.1 (Nat.le_of_ble_eq_true rfl) dX12_product_97 (fun x25 G9 H locs hq hB => ?_)
              obtain ⟨hm, i_x25, xp26a, xp26b, xm⟩ := hq
              have xp26 := And.intro xp26a xp26b
              obtain ⟨G27, hG9⟩ : ∃ g, g = G9 := ⟨_, rfl⟩
              rw [← hG9] at hm hB xp26 xm
              have hM := hM.stp hm (by decide)
              obtain ⟨g28, r29, a_h0, f_g28⟩ := hm.ex a_h0
              have hL : iv_pr (1) 0 h0 G12 G27 := (hL.tr xp26.1).wk (by decide)
              refine lv_if_ne (tgt := 105) hx hb dX12_product_100 (by decide) (fun c30 => ?_) (fun c30 => ?_)
              · skip
                obtain ⟨j2, hj2, RS, cf2⟩ := xm.1 c30
                have i30_x25 : iv_R 1 1 x25 := iv_ne_lo c30 i_x25 q_0 (by decide)
                have hC32 := xp26.2 c30
                refine lv_aload_n hx hb dX12_product_105 rfl (lv_at hl 1 rfl) ?_
                refine lv_bipush (v := 25) hx hb dX12_product_106 (by decide) ?_
                refine lv_iconst (v := 0) hx hb dX12_product_108 (by decide) ?_
                have a_q33 := a_h0
                have hx_q33 := iv_get64 hB a_h0
                have hs_q33 := iv_s18 hB a_h0
                refine iv_cVv X k_good k_mf_X12_lay k_im_X12_lay k_sel_X12_lay k_ml_X12_202 ft_X12 hB a_h0 sh_12 (As := [.int 25, .int 0]) (c_X12_lay l D tys base G27 h0 g28 r29 a_h0 (hL.ly (by decide) a_lb a_h0 hE (iv_s18 hB a_h0)) 25 (q_25.wk (by decide)) 0 (q_0.wk (by decide))) ⟨rfl, rfl⟩ ⟨Nat.le_of_ble_eq_true rfl, Nat.le_of_ble_eq_true rfl⟩ ⟨Nat.le_of_ble_eq_true rfl, Nat.le_of_ble_eq_true rfl⟩ rfl rfl hl.1 (Nat.le_of_ble_eq_true rfl) dX12_product_109 (fun G9 H locs hq hB => ?_)
                obtain ⟨hm, xp34⟩ := hq
                obtain ⟨G35, hG9⟩ : ∃ g, g = G9 := ⟨_, rfl⟩
                rw [← hG9] at hm hB xp34
                have hM := hM.stp hm (by decide)
                have RS := RS.lay xp34 hm (by decide) a_q33 hx_q33
                obtain ⟨g36, r37, a_h0, f_g36⟩ := hm.ex a_h0
                have hL : iv_pr (0) 1 h0 G12 G35 := (hL.lay xp34 a_q33 hx_q33).wk (by decide)
                have hC38 := hC22.op xp26 hC32 xp34 a_q24 a_q33 hx_q24 (by decide)
                refine lv_goto (tgt := 9) hx hb dX12_product_112 (by decide) ?_
                exact ih_9 G35 hM _ _ hB g36 r37 a_h0 (iv_mea (hL.gt (by decide) a_lb a_h0) (iv_s18 hB a_h0) hn_9) ((hP.tr hL).wk (by decide)) hC38 j2 (by omega) RS cf2 _ (lv_sub hl [1] rfl)
              · skip
                have i38_x25 : iv_R 0 0 x25 := (i_x25.cutHi (n := 0) (iv_eq_r c30 q_0).2)
                refine lv_iconst (v := 0) hx hb dX12_product_103 (by decide) ?_
                exact iv_zret X hr hlocks hB (q_0.wk (by decide)) ⟨hM, (q_0.wk (by decide)), ⟨((hP.tr hL).wk (by decide)), fun h => absurd (iv_z q_0) h, (⟨fun h => absurd (iv_z q_0) h, fun _ => xm.2 c30⟩)⟩⟩ dX12_product_104
            · skip
              exact absurd rfl c23
          · skip
            have m16 : tk_M rr0 (K i1) = 147 := by rw [← hx13, c16]; rfl
            exact (i14_x13.cutLo (n := 147) (iv_eq_r c16 q_147).1).no (by decide)
        · skip
          have m14 : ¬ tk_M rr0 (K i1) = 142 := fun q => c14 (Int32.toInt_inj.mp (by rw [hx13, q]; rfl))
          refine lv_aload_n hx hb dX12_product_19 rfl (lv_at hl 0 rfl) ?_
          refine iv_geti0 X ft_X12 hB a_h0 sh_12 17 (by decide) rfl k_fl_X12_165 dX12_product_20 e_x13 ?_
          refine lv_sipush (v := 147) hx hb dX12_product_23 (by decide) ?_
          refine lv_icmp_ne (tgt := 115) hx hb dX12_product_26 (by decide) (fun c40 => ?_) (fun c40 => ?_)
          · skip
            have m40 : ¬ tk_M rr0 (K i1) = 147 := fun q => c40 (Int32.toInt_inj.mp (by rw [hx13, q]; rfl))
            refine lv_iconst (v := 1) hx hb dX12_product_115 (by decide) ?_
            exact iv_zret X hr hlocks hB (q_1.wk (by decide)) ⟨hM, (q_1.wk (by decide)), ⟨((hP.tr hL).wk (by decide)), fun _ => hC, (⟨fun _ => ⟨i1, hi1, RS, CF1, fun q => by rcases q with q | q; exact m14 q; exact m40 q⟩, fun h => absurd h (by decide)⟩)⟩⟩ dX12_product_116
          · skip
            have m40 : tk_M rr0 (K i1) = 147 := by rw [← hx13, c40]; rfl
            have i40_x13 : iv_R 147 147 x13 := ((i_x13.cutLo (n := 147) (iv_eq_r c40 q_147).1).cutHi (n := 147) (iv_eq_r c40 q_147).2)
            refine lv_aload_n hx hb dX12_product_29 rfl (lv_at hl 0 rfl) ?_
            refine iv_geti0 X ft_X12 hB a_h0 sh_12 17 (by decide) rfl k_fl_X12_165 dX12_product_30 e_x13 ?_
            refine lv_sipush (v := 147) hx hb dX12_product_33 (by decide) ?_
            refine lv_icmp_ne (tgt := 43) hx hb dX12_product_36 (by decide) (fun c42 => ?_) (fun c42 => ?_)
            · skip
              have m42 : ¬ tk_M rr0 (K i1) = 147 := fun q => c42 (Int32.toInt_inj.mp (by rw [hx13, q]; rfl))
              exact (iv_ne_lo c42 i40_x13 q_147 (a' := 148) (by decide)).no (by decide)
            · skip
              have m42 : tk_M rr0 (K i1) = 147 := by rw [← hx13, c42]; rfl
              refine lv_iconst (v := 1) hx hb dX12_product_39 (by decide) ?_
              refine lv_goto (tgt := 44) hx hb dX12_product_40 (by decide) ?_
              refine lv_istore_n (lv' := [(1, .int 1), (0, .ref h0)]) hx hb dX12_product_44 rfl hl (by decide) rfl (fun ls hl => ?_)
              refine lv_aload_n hx hb dX12_product_45 rfl (lv_at hl 1 rfl) ?_
              have a_q43 := a_h0
              have hx_q43 := iv_get64 hB a_h0
              have hs_q43 := iv_s18 hB a_h0
              refine iv_cVv X k_good k_mf_X12_next0 k_im_X12_next0 k_sel_X12_next0 k_ml_X12_189 ft_X12 hB a_h0 sh_12 (As := []) (f_X12_next0 l D tys base G12 h0 g10 r11 a_h0 T n K V P hR rr0 (i1 + 1) hr3 (RS.1.me (RS.lt hR (by rw [← hx13]; have w := i40_x13.1; omega)))) ⟨rfl, rfl⟩ ⟨Nat.le_of_ble_eq_true rfl, Nat.le_of_ble_eq_true rfl⟩ ⟨Nat.le_of_ble_eq_true rfl, Nat.le_of_ble_eq_true rfl⟩ rfl rfl hl.1 (Nat.le_of_ble_eq_true rfl) dX12_product_46 (fun G9 H locs hq hB => ?_)
              obtain ⟨hm, xp44, xm⟩ := hq
              obtain ⟨G45, hG9⟩ : ∃ g, g = G9 := ⟨_, rfl⟩
              rw [← hG9] at hm hB xp44 xm
              have hM := hM.stp (iv_MdT.of hm) (by decide)
              have CFp := ma_part (RS.kd hR) CF1 m40
              have RS := RS.next hm xm
              obtain ⟨g46, r47, a_h0, f_g46⟩ := hm.ex a_h0
              have hL : iv_pr (1) 0 h0 G12 G45 := (hL.next1 hm a_q43 xp44 (by rw [← e_x13]; exact Int.le_trans (by decide) i40_x13.1)).wk (by decide)
              have hC48 := hC.keep hm a_q43 hx_q43
              refine lv_iload_n hx hb dX12_product_49 rfl (lv_at hl 0 rfl) ?_
              refine lv_if_eq (tgt := 96) hx hb dX12_product_50 (by decide) (fun c49 => ?_) (fun c49 => ?_)
              · skip
                exact (q_1.cutHi (n := 0) (iv_eq_r c49 q_0).2).no (by decide)
              · skip
                refine lv_aload_n hx hb dX12_product_53 rfl (lv_at hl 1 rfl) ?_
                refine iv_geti X ft_X12 hB a_h0 sh_12 19 (by decide) rfl k_fl_X12_177 dX12_product_54 (fun x50 e_x50 i_x50 => ?_)
                refine lv_istore_n (lv' := [(2, .int x50), (1, .int 1), (0, .ref h0)]) hx hb dX12_product_57 rfl hl (by decide) rfl (fun ls hl => ?_)
                refine lv_aload_n hx hb dX12_product_58 rfl (lv_at hl 2 rfl) ?_
                refine iv_geti X ft_X12 hB a_h0 sh_12 17 (by decide) rfl k_fl_X12_165 dX12_product_59 (fun x51 e_x51 i_x51 => ?_)
                have hx51 : x51.toInt = tk_M rr0 (K (i1 + 1)) := by rw [e_x51]; exact RS.tok a_h0
                refine lv_iconst (v := 2) hx hb dX12_product_62 (by decide) ?_
                refine lv_icmp_eq (tgt := 72) hx hb dX12_product_63 (by decide) (fun c52 => ?_) (fun c52 => ?_)
                · skip
                  have m52 : tk_M rr0 (K (i1 + 1)) = 2 := by rw [← hx51, c52]; rfl
                  have i52_x51 : iv_R 2 2 x51 := ((i_x51.cutLo (n := 2) (iv_eq_r c52 q_2).1).cutHi (n := 2) (iv_eq_r c52 q_2).2)
                  refine lv_iload_n hx hb dX12_product_72 rfl (lv_at hl 0 rfl) ?_
                  refine lv_if_ne (tgt := 82) hx hb dX12_product_73 (by decide) (fun c54 => ?_) (fun c54 => ?_)
                  · skip
                    refine lv_aload_n hx hb dX12_product_82 rfl (lv_at hl 2 rfl) ?_
                    have a_q55 := a_h0
                    have hx_q55 := iv_get64 hB a_h0
                    have hs_q55 := iv_s18 hB a_h0
                    refine iv_cVv X k_good k_mf_X12_next0 k_im_X12_next0 k_sel_X12_next0 k_ml_X12_189 ft_X12 hB a_h0 sh_12 (As := []) (f_X12_next0 l D tys base G45 h0 g46 r47 a_h0 T n K V P hR rr0 (i1 + 1 + 1) hr3 (RS.1.me (RS.lt hR (by rw [← hx51]; have w := i52_x51.1; omega)))) ⟨rfl, rfl⟩ ⟨Nat.le_of_ble_eq_true rfl, Nat.le_of_ble_eq_true rfl⟩ ⟨Nat.le_of_ble_eq_true rfl, Nat.le_of_ble_eq_true rfl⟩ rfl rfl hl.1 (Nat.le_of_ble_eq_true rfl) dX12_product_83 (fun G9 H locs hq hB => ?_)
                    obtain ⟨hm, xp56, xm⟩ := hq
                    obtain ⟨G57, hG9⟩ : ∃ g, g = G9 := ⟨_, rfl⟩
                    rw [← hG9] at hm hB xp56 xm
                    have hM := hM.stp (iv_MdT.of hm) (by decide)
                    have hv9 := RS.val hR a_q55 m52
                    have cfp := mp_ok (RS.kd hR) CFp m52 (by have w := mt Int32.toInt_inj.mp c54; have z : (0 : Int32).toInt = 0 := rfl; have w2 := congrArg Int32.toInt e_x50; omega) hv9.2.2
                    have RS := RS.next hm xm
                    obtain ⟨g58, r59, a_h0, f_g58⟩ := hm.ex a_h0
                    have hL : iv_pr (2) 0 h0 G12 G57 := (hL.next1 hm a_q55 xp56 (by rw [← e_x51]; exact Int.le_trans (by decide) i52_x51.1)).wk (by decide)
                    have hC60 := hC48.keep hm a_q55 hx_q55
                    refine lv_aload_n hx hb dX12_product_86 rfl (lv_at hl 2 rfl) ?_
                    refine lv_bipush (v := 26) hx hb dX12_product_87 (by decide) ?_
                    refine lv_iload_n hx hb dX12_product_89 rfl (lv_at hl 0 rfl) ?_
                    have a_q61 := a_h0
                    have hx_q61 := iv_get64 hB a_h0
                    have hs_q61 := iv_s18 hB a_h0
                    refine iv_cVv X k_good k_mf_X12_lay k_im_X12_lay k_sel_X12_lay k_ml_X12_202 ft_X12 hB a_h0 sh_12 (As := [.int 26, .int x50]) (c_X12_lay l D tys base G57 h0 g58 r59 a_h0 (hL.ly (by decide) a_lb a_h0 hE (iv_s18 hB a_h0)) 26 (q_26.wk (by decide)) x50 i_x50) ⟨rfl, rfl⟩ ⟨Nat.le_of_ble_eq_true rfl, Nat.le_of_ble_eq_true rfl⟩ ⟨Nat.le_of_ble_eq_true rfl, Nat.le_of_ble_eq_true rfl⟩ rfl rfl hl.1 (Nat.le_of_ble_eq_true rfl) dX12_product_90 (fun G9 H locs hq hB => ?_)
                    obtain ⟨hm, xp62⟩ := hq
                    obtain ⟨G63, hG9⟩ : ∃ g, g = G9 := ⟨_, rfl⟩
                    rw [← hG9] at hm hB xp62
                    have hM := hM.stp hm (by decide)
                    have RS := RS.lay xp62 hm (by decide) a_q61 hx_q61
                    obtain ⟨g64, r65, a_h0, f_g64⟩ := hm.ex a_h0
                    have hL : iv_pr (1) 1 h0 G12 G63 := (hL.lay xp62 a_q61 hx_q61).wk (by decide)
                    have hC66 := hC60.un xp62 a_q61 hx_q61 (Or.inl ⟨by decide, c54⟩)
                    refine lv_goto (tgt := 112) hx hb dX12_product_93 (by decide) ?_
                    refine lv_goto (tgt := 9) hx hb dX12_product_112 (by decide) ?_
                    exact ih_9 G63 hM _ _ hB g64 r65 a_h0 (iv_mea (hL.gt (by decide) a_lb a_h0) (iv_s18 hB a_h0) hn_9) ((hP.tr hL).wk (by decide)) hC66 (i1 + 1 + 1) (by omega) RS cfp _ (lv_sub hl [2] rfl)
                  · skip
                    have i66_x50 : iv_R 0 0 x50 := ((i_x50.cutLo (n := 0) (iv_eq_r c54 q_0).1).cutHi (n := 0) (iv_eq_r c54 q_0).2)
                    refine lv_aload_n hx hb dX12_product_76 rfl (lv_at hl 2 rfl) ?_
                    refine lv_iconst (v := 2) hx hb dX12_product_77 (by decide) ?_
                    have a_q68 := a_h0
                    have hx_q68 := iv_get64 hB a_h0
                    have hs_q68 := iv_s18 hB a_h0
                    refine iv_cVi X k_good k_mf_X12_bad k_im_X12_bad k_sel_X12_bad k_ml_X12_186 ft_X12 hB a_h0 sh_12 (As := [.int 2]) (f_X12_bad l D tys base G45 h0 g46 r47 a_h0 2 (q_2.wk (by decide)) (hL.J a_lb a_h0) T n K V P hR rr0 hr3 dp0 (i1 + 1) RS) ⟨rfl, rfl⟩ ⟨Nat.le_of_ble_eq_true rfl, Nat.le_of_ble_eq_true rfl⟩ ⟨Nat.le_of_ble_eq_true rfl, Nat.le_of_ble_eq_true rfl⟩ rfl rfl hl.1 (Nat.le_of_ble_eq_true rfl) dX12_product_78 (fun x69 G9 H locs hq hB => ?_)
                    obtain ⟨hm, i_x69, xp70, xm⟩ := hq
                    obtain ⟨G71, hG9⟩ : ∃ g, g = G9 := ⟨_, rfl⟩
                    rw [← hG9] at hm hB xp70 xm
                    have hM := hM.stp (iv_MdT.of hm) (by decide)
                    obtain ⟨g72, r73, a_h0, f_g72⟩ := hm.ex a_h0
                    have hL : iv_pr (1) 0 h0 G12 G71 := (hL.tr xp70).wk (by decide)
                    have hC74 := hC48.keep hm a_q68 hx_q68
                    exact iv_zret X hr hlocks hB (i_x69.wk (by decide)) ⟨hM, (i_x69.wk (by decide)), ⟨((hP.tr hL).wk (by decide)), fun h => absurd (iv_z i_x69) h, (⟨fun h => absurd (iv_z i_x69) h, fun _ => ⟨(i1 + 1), 2, mp_out (RS.kd hR) CFp m52 (Or.inl (by have w := (RS.val hR a_q68 m52).1; rw [← e_x50, c54] at w; have z : (0 : Int32).toInt = 0 := rfl; omega)), xm⟩⟩)⟩⟩ dX12_product_81
                · skip
                  have m52 : ¬ tk_M rr0 (K (i1 + 1)) = 2 := fun q => c52 (Int32.toInt_inj.mp (by rw [hx51, q]; rfl))
                  refine lv_aload_n hx hb dX12_product_66 rfl (lv_at hl 2 rfl) ?_
                  refine lv_iconst (v := 1) hx hb dX12_product_67 (by decide) ?_
                  have a_q75 := a_h0
                  have hx_q75 := iv_get64 hB a_h0
                  have hs_q75 := iv_s18 hB a_h0
                  refine iv_cVi X k_good k_mf_X12_bad k_im_X12_bad k_sel_X12_bad k_ml_X12_186 ft_X12 hB a_h0 sh_12 (As := [.int 1]) (f_X12_bad l D tys base G45 h0 g46 r47 a_h0 1 (q_1.wk (by decide)) (hL.J a_lb a_h0) T n K V P hR rr0 hr3 dp0 (i1 + 1) RS) ⟨rfl, rfl⟩ ⟨Nat.le_of_ble_eq_true rfl, Nat.le_of_ble_eq_true rfl⟩ ⟨Nat.le_of_ble_eq_true rfl, Nat.le_of_ble_eq_true rfl⟩ rfl rfl hl.1 (Nat.le_of_ble_eq_true rfl) dX12_product_68 (fun x76 G9 H locs hq hB => ?_)
                  obtain ⟨hm, i_x76, xp77, xm⟩ := hq
                  obtain ⟨G78, hG9⟩ : ∃ g, g = G9 := ⟨_, rfl⟩
                  rw [← hG9] at hm hB xp77 xm
                  have hM := hM.stp (iv_MdT.of hm) (by decide)
                  obtain ⟨g79, r80, a_h0, f_g79⟩ := hm.ex a_h0
                  have hL : iv_pr (1) 0 h0 G12 G78 := (hL.tr xp77).wk (by decide)
                  have hC81 := hC48.keep hm a_q75 hx_q75
                  exact iv_zret X hr hlocks hB (i_x76.wk (by decide)) ⟨hM, (i_x76.wk (by decide)), ⟨((hP.tr hL).wk (by decide)), fun h => absurd (iv_z i_x76) h, (⟨fun h => absurd (iv_z i_x76) h, fun _ => ⟨(i1 + 1), 1, mp_no (RS.kd hR) CFp m52, xm⟩⟩)⟩⟩ dX12_product_71
    exact L_9 _ G4 hM _ _ hB g5 r6 a_h0 (Nat.lt_succ_self _) ((hP.tr hL).wk (by decide)) hC9 j1 hj1 RS cf1 _ (lv_sub hl [0] rfl)
  · skip
    have i81_x2 : iv_R 0 0 x2 := (i_x2.cutHi (n := 0) (iv_eq_r c7 q_0).2)
    refine lv_iconst (v := 0) hx hb dX12_product_7 (by decide) ?_
    exact iv_zret X hr hlocks hB (q_0.wk (by decide)) ⟨hM, (q_0.wk (by decide)), ⟨((hP.tr hL).wk (by decide)), fun h => absurd (iv_z q_0) h, (⟨fun h => absurd (iv_z q_0) h, fun _ => xm.2 c7⟩)⟩⟩ dX12_product_8
set_option maxHeartbeats 4000000 in
set_option maxRecDepth 100000 in
theorem f_X12_sumUp (l : Launch) (D : va_G) (tys : List (ClassId × FieldType)) (base : Nat) (G : iv_G) (h0 : Nat) (g_h0 : Nat → Int32) (r_h0 : Nat → Nat) (a_h0 : G h0 = some (12, g_h0, r_h0)) (hJ : iv_J g_h0) (hE0 : (g_h0 13).toInt ≤ (g_h0 18).toInt) (T : Nat → Int) (n : Nat) (K V P : Nat → Int) (hR : tk_R T n K V P) (rr0 : Nat) (hr3 : rr0 < 3) (dp0 i0 : Nat) (RS : mw h0 T n K V P rr0 dp0 i0 G) (nn0 ll0 cc0 dd0 : Nat) (ss0 : List Nat) (AT : tk_at rr0 nn0 K V i0 (.unit ll0 cc0 dd0 ss0)) : Met l yX12_sumUp (Cond.code yX12_sumUp cX12_sumUp 2 (some .boolean) :: iv_W0) ({ frames := 11, cells := 0, slots := 0, locals := 233 }) (iv_Pc iv_sh D classes tys base G [.ref h0]) (iv_Qi iv_sh D classes tys base (fun v G' => iv_MdT [12, 64] G G' ∧ iv_R 0 1 v ∧ iv_pr 0 0 h0 G G' ∧ (¬ v = 0 → iv_cd h0 G G') ∧ (qm h0 T n K V P rr0 nn0 dp0 (i0 + 1) (fun i' => tk_cf rr0 nn0 K V i' = .aft ll0 cc0 dd0 ss0 ∧ ¬ tm_SG (tk_M rr0 (K i'))) v G'))) 0 0 (iv_A base) := by
  refine iv_head (by decide) (Nat.le_of_ble_eq_true rfl) ?_
  intro p e s m args below meth c ls X hr hlocks hname hB hl
  have X := X
  have hx := X.1.1
  have hb := X.1.2.1
  have hM : iv_MdT [12, 64] G G := iv_MdT.rf
  have a_st := a_h0
  have a_lb := a_h0
  have hP : iv_pr 0 0 h0 G G := iv_pr.rf a_h0 hJ
  have hL : iv_pr 0 0 h0 G G := hP
  have hE := hE0
  have hl : lv_has ls 2 [(0, .ref h0)] := hl
  refine lv_aload_n hx hb dX12_sumUp_0 rfl (lv_at hl 0 rfl) ?_
  have a_q1 := a_h0
  have hx_q1 := iv_get64 hB a_h0
  have hs_q1 := iv_s18 hB a_h0
  refine iv_cVi X k_good k_mf_X12_product k_im_X12_product k_sel_X12_product k_ml_X12_198 ft_X12 hB a_h0 sh_12 (As := []) (f_X12_product l D tys base G h0 g_h0 r_h0 a_h0 (hL.J a_lb a_h0) (hL.le (by decide) a_lb a_h0 hE) T n K V P hR rr0 hr3 dp0 i0 RS nn0 ll0 cc0 dd0 ss0 AT) ⟨rfl, rfl⟩ ⟨Nat.le_of_ble_eq_true rfl, Nat.le_of_ble_eq_true rfl⟩ ⟨Nat.le_of_ble_eq_true rfl, Nat.le_of_ble_eq_true rfl⟩ rfl rfl hl.1 (Nat.le_of_ble_eq_true rfl) dX12_sumUp_1 (fun x2 G9 H locs hq hB => ?_)
  obtain ⟨hm, i_x2, xp3a, xp3b, xm⟩ := hq
  have xp3 := And.intro xp3a xp3b
  obtain ⟨G4, hG9⟩ : ∃ g, g = G9 := ⟨_, rfl⟩
  rw [← hG9] at hm hB xp3 xm
  have hM := hM.stp hm (by decide)
  obtain ⟨g5, r6, a_h0, f_g5⟩ := hm.ex a_h0
  have hL : iv_pr (0) 0 h0 G G4 := (hL.tr xp3.1).wk (by decide)
  refine lv_if_ne (tgt := 9) hx hb dX12_sumUp_4 (by decide) (fun c7 => ?_) (fun c7 => ?_)
  · skip
    obtain ⟨j1, hj1, RS, cf1⟩ := xm.1 c7
    have i7_x2 : iv_R 1 1 x2 := iv_ne_lo c7 i_x2 q_0 (by decide)
    have hC9 := xp3.2 c7
    have L_9 : ∀ (n_9 : Nat) (G12 : iv_G) (hM : iv_MdT [12, 64] G G12) (H : Heap) (locs : List Loc) (hB : iv_B iv_sh D classes tys base G12 s.heap H locs) (g10 : Nat → Int32) (r11 : Nat → Nat) (a_h0 : G12 h0 = some (12, g10, r11)) (hn_9 : (401 - (g10 18).toInt).toNat < n_9) (hP : iv_pr 0 0 h0 G G12) (hC : iv_cd h0 G G12) (i1 : Nat) (hi1 : i0 + 1 ≤ i1) (RS : mw h0 T n K V P rr0 dp0 i1 G12) (CF1 : tk_cf rr0 nn0 K V i1 = .aft ll0 cc0 dd0 ss0 ∧ ¬ (tk_M rr0 (K i1) = 142 ∨ tk_M rr0 (K i1) = 147)) (ls : Array Slot) (hl : lv_has ls 2 [(0, .ref h0)]), W p l e ({ frames := 11, cells := 0, slots := 0, locals := 233 } : Room) s m args below meth c H locs 0 0 (MQ below (iv_Qi iv_sh D classes tys base (fun v G' => iv_MdT [12, 64] G G' ∧ iv_R 0 1 v ∧ iv_pr 0 0 h0 G G' ∧ (¬ v = 0 → iv_cd h0 G G') ∧ (qm h0 T n K V P rr0 nn0 dp0 (i0 + 1) (fun i' => tk_cf rr0 nn0 K V i' = .aft ll0 cc0 dd0 ss0 ∧ ¬ tm_SG (tk_M rr0 (K i'))) v G'))) args s 0 0 (iv_A base)) (F0 m 9 ls []) := by
      intro n_9
      induction n_9 with
      | zero => intro G12 hM H locs hB g10 r11 a_h0 hn_9 hP hC i1 hi1 RS CF1 ls hl; exact absurd hn_9 (Nat.not_lt_zero _)
      | succ n_9 ih_9 =>
        intro G12 hM H locs hB g10 r11 a_h0 hn_9 hP hC i1 hi1 RS CF1 ls hl
        have a_lb := a_h0
        have hL : iv_pr 0 0 h0 G12 G12 := iv_pr.rf a_h0 (hP.J a_st a_h0)
        have hE := hP.le (by decide) a_st a_h0 hE0
        refine lv_aload_n hx hb dX12_sumUp_9 rfl (lv_at hl 0 rfl) ?_
        refine iv_geti X ft_X12 hB a_h0 sh_12 17 (by decide) rfl k_fl_X12_165 dX12_sumUp_10 (fun x13 e_x13 i_x13 => ?_)
        have hx13 : x13.toInt = tk_M rr0 (K i1) := by rw [e_x13]; exact RS.tok a_h0
        refine lv_sipush (v := 143) hx hb dX12_sumUp_13 (by decide) ?_
        refine lv_icmp_eq (tgt := 29) hx hb dX12_sumUp_16 (by decide) (fun c14 => ?_) (fun c14 => ?_)
        · skip
          have m14 : tk_M rr0 (K i1) = 143 := by rw [← hx13, c14]; rfl
          have i14_x13 : iv_R 143 143 x13 := ((i_x13.cutLo (n := 143) (iv_eq_r c14 q_143).1).cutHi (n := 143) (iv_eq_r c14 q_143).2)
          refine lv_aload_n hx hb dX12_sumUp_29 rfl (lv_at hl 0 rfl) ?_
          refine iv_geti0 X ft_X12 hB a_h0 sh_12 17 (by decide) rfl k_fl_X12_165 dX12_sumUp_30 e_x13 ?_
          refine lv_sipush (v := 143) hx hb dX12_sumUp_33 (by decide) ?_
          refine lv_icmp_ne (tgt := 44) hx hb dX12_sumUp_36 (by decide) (fun c16 => ?_) (fun c16 => ?_)
          · skip
            have m16 : ¬ tk_M rr0 (K i1) = 143 := fun q => c16 (Int32.toInt_inj.mp (by rw [hx13, q]; rfl))
            exact (iv_ne_lo c16 i14_x13 q_143 (a' := 144) (by decide)).no (by decide)
          · skip
            have m16 : tk_M rr0 (K i1) = 143 := by rw [← hx13, c16]; rfl
            refine lv_bipush (v := 23) hx hb dX12_sumUp_39 (by decide) ?_
            refine lv_goto (tgt := 46) hx hb dX12_sumUp_41 (by decide) ?_
            refine lv_istore_n (lv' := [(1, .int 23), (0, .ref h0)]) hx hb dX12_sumUp_46 rfl hl (by decide) rfl (fun ls hl => ?_)
            refine lv_aload_n hx hb dX12_sumUp_47 rfl (lv_at hl 1 rfl) ?_
            have a_q17 := a_h0
            have hx_q17 := iv_get64 hB a_h0
            have hs_q17 := iv_s18 hB a_h0
            refine iv_cVv X k_good k_mf_X12_next0 k_im_X12_next0 k_sel_X12_next0 k_ml_X12_189 ft_X12 hB a_h0 sh_12 (As := []) (f_X12_next0 l D tys base G12 h0 g10 r11 a_h0 T n K V P hR rr0 (i1 + 1) hr3 (RS.1.me (RS.lt hR (by rw [← hx13]; have w := i14_x13.1; omega)))) ⟨rfl, rfl⟩ ⟨Nat.le_of_ble_eq_true rfl, Nat.le_of_ble_eq_true rfl⟩ ⟨Nat.le_of_ble_eq_true rfl, Nat.le_of_ble_eq_true rfl⟩ rfl rfl hl.1 (Nat.le_of_ble_eq_true rfl) dX12_sumUp_48 (fun G9 H locs hq hB => ?_)
            obtain ⟨hm, xp18, xm⟩ := hq
            obtain ⟨G19, hG9⟩ : ∃ g, g = G9 := ⟨_, rfl⟩
            rw [← hG9] at hm hB xp18 xm
            have hM := hM.stp (iv_MdT.of hm) (by decide)
            have CFu := ma_sum (RS.kd hR) CF1.1 (Or.inl m14)
            have RS := RS.next hm xm
            obtain ⟨g20, r21, a_h0, f_g20⟩ := hm.ex a_h0
            have hL : iv_pr (1) 0 h0 G12 G19 := (hL.next1 hm a_q17 xp18 (by rw [← e_x13]; exact Int.le_trans (by decide) i14_x13.1)).wk (by decide)
            have hC22 := hC.keep hm a_q17 hx_q17
            refine lv_aload_n hx hb dX12_sumUp_51 rfl (lv_at hl 1 rfl) ?_
            have a_q23 := a_h0
            have hx_q23 := iv_get64 hB a_h0
            have hs_q23 := iv_s18 hB a_h0
            refine iv_cVi X k_good k_mf_X12_product k_im_X12_product k_sel_X12_product k_ml_X12_198 ft_X12 hB a_h0 sh_12 (As := []) (f_X12_product l D tys base G19 h0 g20 r21 a_h0 (hL.J a_lb a_h0) (hL.le (by decide) a_lb a_h0 hE) T n K V P hR rr0 hr3 dp0 (i1 + 1) RS nn0 ll0 cc0 dd0 ss0 (tk_at.of CFu)) ⟨rfl, rfl⟩ ⟨Nat.le_of_ble_eq_true rfl, Nat.le_of_ble_eq_true rfl⟩ ⟨Nat.le_of_ble_eq_true rfl, Nat.le_of_ble_eq_true rfl⟩ rfl rfl hl.1 (Nat.le_of_ble_eq_true rfl) dX12_sumUp_52 (fun x24 G9 H locs hq hB => ?_)
            obtain ⟨hm, i_x24, xp25a, xp25b, xm⟩ := hq
            have xp25 := And.intro xp25a xp25b
            obtain ⟨G26, hG9⟩ : ∃ g, g = G9 := ⟨_, rfl⟩
            rw [← hG9] at hm hB xp25 xm
            have hM := hM.stp hm (by decide)
            obtain ⟨g27, r28, a_h0, f_g27⟩ := hm.ex a_h0
            have hL : iv_pr (1) 0 h0 G12 G26 := (hL.tr xp25.1).wk (by decide)
            refine lv_if_ne (tgt := 60) hx hb dX12_sumUp_55 (by decide) (fun c29 => ?_) (fun c29 => ?_)
            · skip
              obtain ⟨j2, hj2, RS, cf2⟩ := xm.1 c29
              have i29_x24 : iv_R 1 1 x24 := iv_ne_lo c29 i_x24 q_0 (by decide)
              have hC31 := xp25.2 c29
              refine lv_aload_n hx hb dX12_sumUp_60 rfl (lv_at hl 1 rfl) ?_
              refine lv_iload_n hx hb dX12_sumUp_61 rfl (lv_at hl 0 rfl) ?_
              refine lv_iconst (v := 0) hx hb dX12_sumUp_62 (by decide) ?_
              have a_q32 := a_h0
              have hx_q32 := iv_get64 hB a_h0
              have hs_q32 := iv_s18 hB a_h0
              refine iv_cVv X k_good k_mf_X12_lay k_im_X12_lay k_sel_X12_lay k_ml_X12_202 ft_X12 hB a_h0 sh_12 (As := [.int 23, .int 0]) (c_X12_lay l D tys base G26 h0 g27 r28 a_h0 (hL.ly (by decide) a_lb a_h0 hE (iv_s18 hB a_h0)) 23 (q_23.wk (by decide)) 0 (q_0.wk (by decide))) ⟨rfl, rfl⟩ ⟨Nat.le_of_ble_eq_true rfl, Nat.le_of_ble_eq_true rfl⟩ ⟨Nat.le_of_ble_eq_true rfl, Nat.le_of_ble_eq_true rfl⟩ rfl rfl hl.1 (Nat.le_of_ble_eq_true rfl) dX12_sumUp_63 (fun G9 H locs hq hB => ?_)
              obtain ⟨hm, xp33⟩ := hq
              obtain ⟨G34, hG9⟩ : ∃ g, g = G9 := ⟨_, rfl⟩
              rw [← hG9] at hm hB xp33
              have hM := hM.stp hm (by decide)
              have RS := RS.lay xp33 hm (by decide) a_q32 hx_q32
              obtain ⟨g35, r36, a_h0, f_g35⟩ := hm.ex a_h0
              have hL : iv_pr (0) 1 h0 G12 G34 := (hL.lay xp33 a_q32 hx_q32).wk (by decide)
              have hC37 := hC22.op xp25 hC31 xp33 a_q23 a_q32 hx_q23 (by decide)
              refine lv_goto (tgt := 9) hx hb dX12_sumUp_66 (by decide) ?_
              exact ih_9 G34 hM _ _ hB g35 r36 a_h0 (iv_mea (hL.gt (by decide) a_lb a_h0) (iv_s18 hB a_h0) hn_9) ((hP.tr hL).wk (by decide)) hC37 j2 (by omega) RS cf2 _ (lv_sub hl [1] rfl)
            · skip
              have i37_x24 : iv_R 0 0 x24 := (i_x24.cutHi (n := 0) (iv_eq_r c29 q_0).2)
              refine lv_iconst (v := 0) hx hb dX12_sumUp_58 (by decide) ?_
              exact iv_zret X hr hlocks hB (q_0.wk (by decide)) ⟨hM, (q_0.wk (by decide)), ⟨((hP.tr hL).wk (by decide)), fun h => absurd (iv_z q_0) h, (⟨fun h => absurd (iv_z q_0) h, fun _ => xm.2 c29⟩)⟩⟩ dX12_sumUp_59
        · skip
          have m14 : ¬ tk_M rr0 (K i1) = 143 := fun q => c14 (Int32.toInt_inj.mp (by rw [hx13, q]; rfl))
          refine lv_aload_n hx hb dX12_sumUp_19 rfl (lv_at hl 0 rfl) ?_
          refine iv_geti0 X ft_X12 hB a_h0 sh_12 17 (by decide) rfl k_fl_X12_165 dX12_sumUp_20 e_x13 ?_
          refine lv_sipush (v := 145) hx hb dX12_sumUp_23 (by decide) ?_
          refine lv_icmp_ne (tgt := 69) hx hb dX12_sumUp_26 (by decide) (fun c39 => ?_) (fun c39 => ?_)
          · skip
            have m39 : ¬ tk_M rr0 (K i1) = 145 := fun q => c39 (Int32.toInt_inj.mp (by rw [hx13, q]; rfl))
            refine lv_iconst (v := 1) hx hb dX12_sumUp_69 (by decide) ?_
            exact iv_zret X hr hlocks hB (q_1.wk (by decide)) ⟨hM, (q_1.wk (by decide)), ⟨((hP.tr hL).wk (by decide)), fun _ => hC, (⟨fun _ => ⟨i1, hi1, RS, CF1.1, fun q => by rcases q with q | q | q | q; exact CF1.2 (Or.inl q); exact m14 q; exact m39 q; exact CF1.2 (Or.inr q)⟩, fun h => absurd h (by decide)⟩)⟩⟩ dX12_sumUp_70
          · skip
            have m39 : tk_M rr0 (K i1) = 145 := by rw [← hx13, c39]; rfl
            have i39_x13 : iv_R 145 145 x13 := ((i_x13.cutLo (n := 145) (iv_eq_r c39 q_145).1).cutHi (n := 145) (iv_eq_r c39 q_145).2)
            refine lv_aload_n hx hb dX12_sumUp_29 rfl (lv_at hl 0 rfl) ?_
            refine iv_geti0 X ft_X12 hB a_h0 sh_12 17 (by decide) rfl k_fl_X12_165 dX12_sumUp_30 e_x13 ?_
            refine lv_sipush (v := 143) hx hb dX12_sumUp_33 (by decide) ?_
            refine lv_icmp_ne (tgt := 44) hx hb dX12_sumUp_36 (by decide) (fun c41 => ?_) (fun c41 => ?_)
            · skip
              have m41 : ¬ tk_M rr0 (K i1) = 143 := fun q => c41 (Int32.toInt_inj.mp (by rw [hx13, q]; rfl))
              refine lv_bipush (v := 24) hx hb dX12_sumUp_44 (by decide) ?_
              refine lv_istore_n (lv' := [(1, .int 24), (0, .ref h0)]) hx hb dX12_sumUp_46 rfl hl (by decide) rfl (fun ls hl => ?_)
              refine lv_aload_n hx hb dX12_sumUp_47 rfl (lv_at hl 1 rfl) ?_
              have a_q42 := a_h0
              have hx_q42 := iv_get64 hB a_h0
              have hs_q42 := iv_s18 hB a_h0
              refine iv_cVv X k_good k_mf_X12_next0 k_im_X12_next0 k_sel_X12_next0 k_ml_X12_189 ft_X12 hB a_h0 sh_12 (As := []) (f_X12_next0 l D tys base G12 h0 g10 r11 a_h0 T n K V P hR rr0 (i1 + 1) hr3 (RS.1.me (RS.lt hR (by rw [← hx13]; have w := i39_x13.1; omega)))) ⟨rfl, rfl⟩ ⟨Nat.le_of_ble_eq_true rfl, Nat.le_of_ble_eq_true rfl⟩ ⟨Nat.le_of_ble_eq_true rfl, Nat.le_of_ble_eq_true rfl⟩ rfl rfl hl.1 (Nat.le_of_ble_eq_true rfl) dX12_sumUp_48 (fun G9 H locs hq hB => ?_)
              obtain ⟨hm, xp43, xm⟩ := hq
              obtain ⟨G44, hG9⟩ : ∃ g, g = G9 := ⟨_, rfl⟩
              rw [← hG9] at hm hB xp43 xm
              have hM := hM.stp (iv_MdT.of hm) (by decide)
              have CFu := ma_sum (RS.kd hR) CF1.1 (Or.inr (Or.inl m39))
              have RS := RS.next hm xm
              obtain ⟨g45, r46, a_h0, f_g45⟩ := hm.ex a_h0
              have hL : iv_pr (1) 0 h0 G12 G44 := (hL.next1 hm a_q42 xp43 (by rw [← e_x13]; exact Int.le_trans (by decide) i39_x13.1)).wk (by decide)
              have hC47 := hC.keep hm a_q42 hx_q42
              refine lv_aload_n hx hb dX12_sumUp_51 rfl (lv_at hl 1 rfl) ?_
              have a_q48 := a_h0
              have hx_q48 := iv_get64 hB a_h0
              have hs_q48 := iv_s18 hB a_h0
              refine iv_cVi X k_good k_mf_X12_product k_im_X12_product k_sel_X12_product k_ml_X12_198 ft_X12 hB a_h0 sh_12 (As := []) (f_X12_product l D tys base G44 h0 g45 r46 a_h0 (hL.J a_lb a_h0) (hL.le (by decide) a_lb a_h0 hE) T n K V P hR rr0 hr3 dp0 (i1 + 1) RS nn0 ll0 cc0 dd0 ss0 (tk_at.of CFu)) ⟨rfl, rfl⟩ ⟨Nat.le_of_ble_eq_true rfl, Nat.le_of_ble_eq_true rfl⟩ ⟨Nat.le_of_ble_eq_true rfl, Nat.le_of_ble_eq_true rfl⟩ rfl rfl hl.1 (Nat.le_of_ble_eq_true rfl) dX12_sumUp_52 (fun x49 G9 H locs hq hB => ?_)
              obtain ⟨hm, i_x49, xp50a, xp50b, xm⟩ := hq
              have xp50 := And.intro xp50a xp50b
              obtain ⟨G51, hG9⟩ : ∃ g, g = G9 := ⟨_, rfl⟩
              rw [← hG9] at hm hB xp50 xm
              have hM := hM.stp hm (by decide)
              obtain ⟨g52, r53, a_h0, f_g52⟩ := hm.ex a_h0
              have hL : iv_pr (1) 0 h0 G12 G51 := (hL.tr xp50.1).wk (by decide)
              refine lv_if_ne (tgt := 60) hx hb dX12_sumUp_55 (by decide) (fun c54 => ?_) (fun c54 => ?_)
              · skip
                obtain ⟨j3, hj3, RS, cf3⟩ := xm.1 c54
                have i54_x49 : iv_R 1 1 x49 := iv_ne_lo c54 i_x49 q_0 (by decide)
                have hC56 := xp50.2 c54
                refine lv_aload_n hx hb dX12_sumUp_60 rfl (lv_at hl 1 rfl) ?_
                refine lv_iload_n hx hb dX12_sumUp_61 rfl (lv_at hl 0 rfl) ?_
                refine lv_iconst (v := 0) hx hb dX12_sumUp_62 (by decide) ?_
                have a_q57 := a_h0
                have hx_q57 := iv_get64 hB a_h0
                have hs_q57 := iv_s18 hB a_h0
                refine iv_cVv X k_good k_mf_X12_lay k_im_X12_lay k_sel_X12_lay k_ml_X12_202 ft_X12 hB a_h0 sh_12 (As := [.int 24, .int 0]) (c_X12_lay l D tys base G51 h0 g52 r53 a_h0 (hL.ly (by decide) a_lb a_h0 hE (iv_s18 hB a_h0)) 24 (q_24.wk (by decide)) 0 (q_0.wk (by decide))) ⟨rfl, rfl⟩ ⟨Nat.le_of_ble_eq_true rfl, Nat.le_of_ble_eq_true rfl⟩ ⟨Nat.le_of_ble_eq_true rfl, Nat.le_of_ble_eq_true rfl⟩ rfl rfl hl.1 (Nat.le_of_ble_eq_true rfl) dX12_sumUp_63 (fun G9 H locs hq hB => ?_)
                obtain ⟨hm, xp58⟩ := hq
                obtain ⟨G59, hG9⟩ : ∃ g, g = G9 := ⟨_, rfl⟩
                rw [← hG9] at hm hB xp58
                have hM := hM.stp hm (by decide)
                have RS := RS.lay xp58 hm (by decide) a_q57 hx_q57
                obtain ⟨g60, r61, a_h0, f_g60⟩ := hm.ex a_h0
                have hL : iv_pr (0) 1 h0 G12 G59 := (hL.lay xp58 a_q57 hx_q57).wk (by decide)
                have hC62 := hC47.op xp50 hC56 xp58 a_q48 a_q57 hx_q48 (by decide)
                refine lv_goto (tgt := 9) hx hb dX12_sumUp_66 (by decide) ?_
                exact ih_9 G59 hM _ _ hB g60 r61 a_h0 (iv_mea (hL.gt (by decide) a_lb a_h0) (iv_s18 hB a_h0) hn_9) ((hP.tr hL).wk (by decide)) hC62 j3 (by omega) RS cf3 _ (lv_sub hl [1] rfl)
              · skip
                have i62_x49 : iv_R 0 0 x49 := (i_x49.cutHi (n := 0) (iv_eq_r c54 q_0).2)
                refine lv_iconst (v := 0) hx hb dX12_sumUp_58 (by decide) ?_
                exact iv_zret X hr hlocks hB (q_0.wk (by decide)) ⟨hM, (q_0.wk (by decide)), ⟨((hP.tr hL).wk (by decide)), fun h => absurd (iv_z q_0) h, (⟨fun h => absurd (iv_z q_0) h, fun _ => xm.2 c54⟩)⟩⟩ dX12_sumUp_59
            · skip
              have m41 : tk_M rr0 (K i1) = 143 := by rw [← hx13, c41]; rfl
              exact absurd c41 c14
    exact L_9 _ G4 hM _ _ hB g5 r6 a_h0 (Nat.lt_succ_self _) ((hP.tr hL).wk (by decide)) hC9 j1 hj1 RS cf1 _ (lv_sub hl [0] rfl)
  · skip
    have i63_x2 : iv_R 0 0 x2 := (i_x2.cutHi (n := 0) (iv_eq_r c7 q_0).2)
    refine lv_iconst (v := 0) hx hb dX12_sumUp_7 (by decide) ?_
    exact iv_zret X hr hlocks hB (q_0.wk (by decide)) ⟨hM, (q_0.wk (by decide)), ⟨((hP.tr hL).wk (by decide)), fun h => absurd (iv_z q_0) h, (⟨fun h => absurd (iv_z q_0) h, fun _ => xm.2 c7⟩)⟩⟩ dX12_sumUp_8
