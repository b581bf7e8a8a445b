theorem dX12_every_0 : decode cX12_every 0 = .ok (.aload_n 0, 1) := by decide +kernel
theorem dX12_every_1 : decode cX12_every 1 = .ok (.invokevirtual 212, 3) := by decide +kernel
theorem dX12_every_4 : decode cX12_every 4 = .ok (.ifCond .ne 5, 3) := by decide +kernel
theorem dX12_every_7 : decode cX12_every 7 = .ok (.iconst 0, 1) := by decide +kernel
theorem dX12_every_8 : decode cX12_every 8 = .ok (.ireturn, 1) := by decide +kernel
theorem dX12_every_9 : decode cX12_every 9 = .ok (.aload_n 0, 1) := by decide +kernel
theorem dX12_every_10 : decode cX12_every 10 = .ok (.getfield 165, 3) := by decide +kernel
theorem dX12_every_13 : decode cX12_every 13 = .ok (.iconst 5, 1) := by decide +kernel
theorem dX12_every_14 : decode cX12_every 14 = .ok (.if_icmp .ne 26, 3) := by decide +kernel
theorem dX12_every_17 : decode cX12_every 17 = .ok (.aload_n 0, 1) := by decide +kernel
theorem dX12_every_18 : decode cX12_every 18 = .ok (.invokevirtual 189, 3) := by decide +kernel
theorem dX12_every_21 : decode cX12_every 21 = .ok (.aload_n 0, 1) := by decide +kernel
theorem dX12_every_22 : decode cX12_every 22 = .ok (.invokevirtual 212, 3) := by decide +kernel
theorem dX12_every_25 : decode cX12_every 25 = .ok (.ifCond .ne 5, 3) := by decide +kernel
theorem dX12_every_28 : decode cX12_every 28 = .ok (.iconst 0, 1) := by decide +kernel
theorem dX12_every_29 : decode cX12_every 29 = .ok (.ireturn, 1) := by decide +kernel
theorem dX12_every_30 : decode cX12_every 30 = .ok (.aload_n 0, 1) := by decide +kernel
theorem dX12_every_31 : decode cX12_every 31 = .ok (.bipush 31, 2) := by decide +kernel
theorem dX12_every_33 : decode cX12_every 33 = .ok (.iconst 0, 1) := by decide +kernel
theorem dX12_every_34 : decode cX12_every 34 = .ok (.invokevirtual 202, 3) := by decide +kernel
theorem dX12_every_37 : decode cX12_every 37 = .ok (.goto (-28), 3) := by decide +kernel
theorem dX12_every_40 : decode cX12_every 40 = .ok (.iconst 1, 1) := by decide +kernel
theorem dX12_every_41 : decode cX12_every 41 = .ok (.ireturn, 1) := by decide +kernel
set_option maxHeartbeats 4000000 in
set_option maxRecDepth 100000 in
theorem c_X12_every_h (l : Launch) (D : va_G) (tys : List (ClassId × FieldType)) (base : Nat) (d : Nat) (ihO : ∀ (G : iv_G) (h0 : Nat) (g_h0 : Nat → Int32) (r_h0 : Nat → Nat) (a_h0 : G h0 = some (12, g_h0, r_h0)) (hJ : iv_J g_h0) (hE0 : (g_h0 13).toInt ≤ (g_h0 18).toInt) (h18 : (g_h0 18).toInt ≤ 400) (hd : (401 - (g_h0 18).toInt).toNat ≤ d), Met l yX12_oneTest (Cond.code yX12_oneTest cX12_oneTest 2 (some .boolean) :: iv_W0) ({ frames := 12 + 3 * d, cells := 0, slots := 0, locals := 254 + 61 * d }) (iv_Pc iv_sh D classes tys base G [.ref h0]) (iv_Qi iv_sh D classes tys base (fun v G' => iv_MdT [12, 64] G G' ∧ iv_R 0 1 v ∧ iv_pr 0 0 h0 G G' ∧ (¬ v = 0 → iv_cd h0 G G'))) 0 0 (iv_A base)) (G : iv_G) (h0 : Nat) (g_h0 : Nat → Int32) (r_h0 : Nat → Nat) (a_h0 : G h0 = some (12, g_h0, r_h0)) (hJ : iv_J g_h0) (hE0 : (g_h0 13).toInt ≤ (g_h0 18).toInt) (h18 : (g_h0 18).toInt ≤ 400) (hd : (401 - (g_h0 18).toInt).toNat ≤ d) : Met l yX12_every (Cond.code yX12_every cX12_every 1 (some .boolean) :: iv_W0) ({ frames := 13 + 3 * d, cells := 0, slots := 0, locals := 275 + 61 * d }) (iv_Pc iv_sh D classes tys base G [.ref h0]) (iv_Qi iv_sh D classes tys base (fun v G' => iv_MdT [12, 64] G G' ∧ iv_R 0 1 v ∧ iv_pr 0 0 h0 G G' ∧ (¬ v = 0 → iv_cd h0 G G'))) 0 0 (iv_A base) := by
  refine iv_head (by decide) (Nat.le_of_ble_eq_true rfl) ?_
  intro p e s m args below meth c ls X hr hlocks hname hB hl
  have X := X
  have hx := X.1.1
  have hb := X.1.2.1
  have hM : iv_MdT [12, 64] G G := iv_MdT.rf
  have a_st := a_h0
  have a_lb := a_h0
  have hP : iv_pr 0 0 h0 G G := iv_pr.rf a_h0 hJ
  have hL : iv_pr 0 0 h0 G G := hP
  have hE := hE0
  have hl : lv_has ls 1 [(0, .ref h0)] := hl
  refine lv_aload_n hx hb dX12_every_0 rfl (lv_at hl 0 rfl) ?_
  have a_q1 := a_h0
  have hx_q1 := iv_get64 hB a_h0
  have hs_q1 := iv_s18 hB a_h0
  refine iv_cVi X k_good k_mf_X12_oneTest k_im_X12_oneTest k_sel_X12_oneTest k_ml_X12_212 ft_X12 hB a_h0 sh_12 (As := []) (ihO G h0 g_h0 r_h0 a_h0 (hL.J a_lb a_h0) (hL.le (by decide) a_lb a_h0 hE) (iv_s18 hB a_h0).1.2 (by have w1 := (hP.tr hL).ge (by decide) a_st a_h0; omega)) ⟨rfl, rfl⟩ ⟨by dsimp only; omega, by dsimp only; omega⟩ ⟨Nat.le_of_ble_eq_true rfl, Nat.le_of_ble_eq_true rfl⟩ rfl rfl hl.1 (Nat.le_of_ble_eq_true rfl) dX12_every_1 (fun x2 G9 H locs hq hB => ?_)
  obtain ⟨hm, i_x2, xp3⟩ := hq
  obtain ⟨G4, hG9⟩ : ∃ g, g = G9 := ⟨_, rfl⟩
  rw [← hG9] at hm hB xp3
  have hM := hM.stp hm (by decide)
  obtain ⟨g5, r6, a_h0, f_g5⟩ := hm.ex a_h0
  have hL : iv_pr (0) 0 h0 G G4 := (hL.tr xp3.1).wk (by decide)
  refine lv_if_ne (tgt := 9) hx hb dX12_every_4 (by decide) (fun c7 => ?_) (fun c7 => ?_)
  · skip
    have i7_x2 : iv_R 1 1 x2 := iv_ne_lo c7 i_x2 q_0 (by decide)
    have hC9 := xp3.2 c7
    have L_9 : ∀ (n_9 : Nat) (G12 : iv_G) (hM : iv_MdT [12, 64] G G12) (H : Heap) (locs : List Loc) (hB : iv_B iv_sh D classes tys base G12 s.heap H locs) (g10 : Nat → Int32) (r11 : Nat → Nat) (a_h0 : G12 h0 = some (12, g10, r11)) (hn_9 : (401 - (g10 18).toInt).toNat < n_9) (hP : iv_pr 0 0 h0 G G12) (hC : iv_cd h0 G G12) (ls : Array Slot) (hl : lv_has ls 1 [(0, .ref h0)]), W p l e ({ frames := 13 + 3 * d, cells := 0, slots := 0, locals := 275 + 61 * d } : Room) s m args below meth c H locs 0 0 (MQ below (iv_Qi iv_sh D classes tys base (fun v G' => iv_MdT [12, 64] G G' ∧ iv_R 0 1 v ∧ iv_pr 0 0 h0 G G' ∧ (¬ v = 0 → iv_cd h0 G G'))) args s 0 0 (iv_A base)) (F0 m 9 ls []) := by
      intro n_9
      induction n_9 with
      | zero => intro G12 hM H locs hB g10 r11 a_h0 hn_9 hP hC ls hl; exact absurd hn_9 (Nat.not_lt_zero _)
      | succ n_9 ih_9 =>
        intro G12 hM H locs hB g10 r11 a_h0 hn_9 hP hC ls hl
        have a_lb := a_h0
        have hL : iv_pr 0 0 h0 G12 G12 := iv_pr.rf a_h0 (hP.J a_st a_h0)
        have hE := hP.le (by decide) a_st a_h0 hE0
        refine lv_aload_n hx hb dX12_every_9 rfl (lv_at hl 0 rfl) ?_
        refine iv_geti X ft_X12 hB a_h0 sh_12 17 (by decide) rfl k_fl_X12_165 dX12_every_10 (fun x13 e_x13 i_x13 => ?_)
        refine lv_iconst (v := 5) hx hb dX12_every_13 (by decide) ?_
        refine lv_icmp_ne (tgt := 40) hx hb dX12_every_14 (by decide) (fun c14 => ?_) (fun c14 => ?_)
        · skip
          refine lv_iconst (v := 1) hx hb dX12_every_40 (by decide) ?_
          exact iv_zret X hr hlocks hB (q_1.wk (by decide)) ⟨hM, (q_1.wk (by decide)), ⟨((hP.tr hL).wk (by decide)), fun _ => hC⟩⟩ dX12_every_41
        · skip
          have i14_x13 : iv_R 5 5 x13 := ((i_x13.cutLo (n := 5) (iv_eq_r c14 q_5).1).cutHi (n := 5) (iv_eq_r c14 q_5).2)
          refine lv_aload_n hx hb dX12_every_17 rfl (lv_at hl 0 rfl) ?_
          have a_q16 := a_h0
          have hx_q16 := iv_get64 hB a_h0
          have hs_q16 := iv_s18 hB a_h0
          refine iv_cVv X k_good k_mf_X12_next0 k_im_X12_next0 k_sel_X12_next0 k_ml_X12_189 ft_X12 hB a_h0 sh_12 (As := []) (e_X12_next0 l D tys base G12 h0 g10 r11 a_h0) ⟨rfl, rfl⟩ ⟨by dsimp only; omega, by dsimp only; omega⟩ ⟨Nat.le_of_ble_eq_true rfl, Nat.le_of_ble_eq_true rfl⟩ rfl rfl hl.1 (Nat.le_of_ble_eq_true rfl) dX12_every_18 (fun G9 H locs hq hB => ?_)
          obtain ⟨hm, xp17⟩ := hq
          obtain ⟨G18, hG9⟩ : ∃ g, g = G9 := ⟨_, rfl⟩
          rw [← hG9] at hm hB xp17
          have hM := hM.stp (iv_MdT.of hm) (by decide)
          obtain ⟨g19, r20, a_h0, f_g19⟩ := hm.ex a_h0
          have hL : iv_pr (1) 0 h0 G12 G18 := (hL.next1 hm a_q16 xp17 (by rw [← e_x13]; exact Int.le_trans (by decide) i14_x13.1)).wk (by decide)
          have hC21 := hC.keep hm a_q16 hx_q16
          refine lv_aload_n hx hb dX12_every_21 rfl (lv_at hl 0 rfl) ?_
          have a_q22 := a_h0
          have hx_q22 := iv_get64 hB a_h0
          have hs_q22 := iv_s18 hB a_h0
          refine iv_cVi X k_good k_mf_X12_oneTest k_im_X12_oneTest k_sel_X12_oneTest k_ml_X12_212 ft_X12 hB a_h0 sh_12 (As := []) (ihO G18 h0 g19 r20 a_h0 (hL.J a_lb a_h0) (hL.le (by decide) a_lb a_h0 hE) (iv_s18 hB a_h0).1.2 (by have w1 := (hP.tr hL).ge (by decide) a_st a_h0; omega)) ⟨rfl, rfl⟩ ⟨by dsimp only; omega, by dsimp only; omega⟩ ⟨Nat.le_of_ble_eq_true rfl, Nat.le_of_ble_eq_true rfl⟩ rfl rfl hl.1 (Nat.le_of_ble_eq_true rfl) dX12_every_22 (fun x23 G9 H locs hq hB => ?_)
          obtain ⟨hm, i_x23, xp24⟩ := hq
          obtain ⟨G25, hG9⟩ : ∃ g, g = G9 := ⟨_, rfl⟩
          rw [← hG9] at hm hB xp24
          have hM := hM.stp hm (by decide)
          obtain ⟨g26, r27, a_h0, f_g26⟩ := hm.ex a_h0
          have hL : iv_pr (1) 0 h0 G12 G25 := (hL.tr xp24.1).wk (by decide)
          refine lv_if_ne (tgt := 30) hx hb dX12_every_25 (by decide) (fun c28 => ?_) (fun c28 => ?_)
          · skip
            have i28_x23 : iv_R 1 1 x23 := iv_ne_lo c28 i_x23 q_0 (by decide)
            have hC30 := xp24.2 c28
            refine lv_aload_n hx hb dX12_every_30 rfl (lv_at hl 0 rfl) ?_
            refine lv_bipush (v := 31) hx hb dX12_every_31 (by decide) ?_
            refine lv_iconst (v := 0) hx hb dX12_every_33 (by decide) ?_
            have a_q31 := a_h0
            have hx_q31 := iv_get64 hB a_h0
            have hs_q31 := iv_s18 hB a_h0
            refine iv_cVv X k_good k_mf_X12_lay k_im_X12_lay k_sel_X12_lay k_ml_X12_202 ft_X12 hB a_h0 sh_12 (As := [.int 31, .int 0]) (c_X12_lay l D tys base G25 h0 g26 r27 a_h0 (hL.ly (by decide) a_lb a_h0 hE (iv_s18 hB a_h0)) 31 (q_31.wk (by decide)) 0 (q_0.wk (by decide))) ⟨rfl, rfl⟩ ⟨by dsimp only; omega, by dsimp only; omega⟩ ⟨Nat.le_of_ble_eq_true rfl, Nat.le_of_ble_eq_true rfl⟩ rfl rfl hl.1 (Nat.le_of_ble_eq_true rfl) dX12_every_34 (fun G9 H locs hq hB => ?_)
            obtain ⟨hm, xp32⟩ := hq
            obtain ⟨G33, hG9⟩ : ∃ g, g = G9 := ⟨_, rfl⟩
            rw [← hG9] at hm hB xp32
            have hM := hM.stp hm (by decide)
            obtain ⟨g34, r35, a_h0, f_g34⟩ := hm.ex a_h0
            have hL : iv_pr (0) 1 h0 G12 G33 := (hL.lay xp32 a_q31 hx_q31).wk (by decide)
            have hC36 := hC21.op xp24 hC30 xp32 a_q22 a_q31 hx_q22 (by decide)
            refine lv_goto (tgt := 9) hx hb dX12_every_37 (by decide) ?_
            exact ih_9 G33 hM _ _ hB g34 r35 a_h0 (iv_mea (hL.gt (by decide) a_lb a_h0) (iv_s18 hB a_h0) hn_9) ((hP.tr hL).wk (by decide)) hC36 _ (lv_sub hl [0] rfl)
          · skip
            have i36_x23 : iv_R 0 0 x23 := (i_x23.cutHi (n := 0) (iv_eq_r c28 q_0).2)
            refine lv_iconst (v := 0) hx hb dX12_every_28 (by decide) ?_
            exact iv_zret X hr hlocks hB (q_0.wk (by decide)) ⟨hM, (q_0.wk (by decide)), ⟨((hP.tr hL).wk (by decide)), fun h => absurd (iv_z q_0) h⟩⟩ dX12_every_29
    exact L_9 _ G4 hM _ _ hB g5 r6 a_h0 (Nat.lt_succ_self _) ((hP.tr hL).wk (by decide)) hC9 _ (lv_sub hl [0] rfl)
  · skip
    have i37_x2 : iv_R 0 0 x2 := (i_x2.cutHi (n := 0) (iv_eq_r c7 q_0).2)
    refine lv_iconst (v := 0) hx hb dX12_every_7 (by decide) ?_
    exact iv_zret X hr hlocks hB (q_0.wk (by decide)) ⟨hM, (q_0.wk (by decide)), ⟨((hP.tr hL).wk (by decide)), fun h => absurd (iv_z q_0) h⟩⟩ dX12_every_8
theorem dX12_any_0 : decode cX12_any 0 = .ok (.aload_n 0, 1) := by decide +kernel
theorem dX12_any_1 : decode cX12_any 1 = .ok (.invokevirtual 209, 3) := by decide +kernel
theorem dX12_any_4 : decode cX12_any 4 = .ok (.ifCond .ne 5, 3) := by decide +kernel
theorem dX12_any_7 : decode cX12_any 7 = .ok (.iconst 0, 1) := by decide +kernel
theorem dX12_any_8 : decode cX12_any 8 = .ok (.ireturn, 1) := by decide +kernel
theorem dX12_any_9 : decode cX12_any 9 = .ok (.aload_n 0, 1) := by decide +kernel
theorem dX12_any_10 : decode cX12_any 10 = .ok (.getfield 165, 3) := by decide +kernel
theorem dX12_any_13 : decode cX12_any 13 = .ok (.iconst 4, 1) := by decide +kernel
theorem dX12_any_14 : decode cX12_any 14 = .ok (.if_icmp .ne 26, 3) := by decide +kernel
theorem dX12_any_17 : decode cX12_any 17 = .ok (.aload_n 0, 1) := by decide +kernel
theorem dX12_any_18 : decode cX12_any 18 = .ok (.invokevirtual 189, 3) := by decide +kernel
theorem dX12_any_21 : decode cX12_any 21 = .ok (.aload_n 0, 1) := by decide +kernel
theorem dX12_any_22 : decode cX12_any 22 = .ok (.invokevirtual 209, 3) := by decide +kernel
theorem dX12_any_25 : decode cX12_any 25 = .ok (.ifCond .ne 5, 3) := by decide +kernel
theorem dX12_any_28 : decode cX12_any 28 = .ok (.iconst 0, 1) := by decide +kernel
theorem dX12_any_29 : decode cX12_any 29 = .ok (.ireturn, 1) := by decide +kernel
theorem dX12_any_30 : decode cX12_any 30 = .ok (.aload_n 0, 1) := by decide +kernel
theorem dX12_any_31 : decode cX12_any 31 = .ok (.bipush 32, 2) := by decide +kernel
theorem dX12_any_33 : decode cX12_any 33 = .ok (.iconst 0, 1) := by decide +kernel
theorem dX12_any_34 : decode cX12_any 34 = .ok (.invokevirtual 202, 3) := by decide +kernel
theorem dX12_any_37 : decode cX12_any 37 = .ok (.goto (-28), 3) := by decide +kernel
theorem dX12_any_40 : decode cX12_any 40 = .ok (.iconst 1, 1) := by decide +kernel
theorem dX12_any_41 : decode cX12_any 41 = .ok (.ireturn, 1) := by decide +kernel
set_option maxHeartbeats 4000000 in
set_option maxRecDepth 100000 in
theorem c_X12_any_h (l : Launch) (D : va_G) (tys : List (ClassId × FieldType)) (base : Nat) (d : Nat) (ihO : ∀ (G : iv_G) (h0 : Nat) (g_h0 : Nat → Int32) (r_h0 : Nat → Nat) (a_h0 : G h0 = some (12, g_h0, r_h0)) (hJ : iv_J g_h0) (hE0 : (g_h0 13).toInt ≤ (g_h0 18).toInt) (h18 : (g_h0 18).toInt ≤ 400) (hd : (401 - (g_h0 18).toInt).toNat ≤ d), Met l yX12_oneTest (Cond.code yX12_oneTest cX12_oneTest 2 (some .boolean) :: iv_W0) ({ frames := 12 + 3 * d, cells := 0, slots := 0, locals := 254 + 61 * d }) (iv_Pc iv_sh D classes tys base G [.ref h0]) (iv_Qi iv_sh D classes tys base (fun v G' => iv_MdT [12, 64] G G' ∧ iv_R 0 1 v ∧ iv_pr 0 0 h0 G G' ∧ (¬ v = 0 → iv_cd h0 G G'))) 0 0 (iv_A base)) (G : iv_G) (h0 : Nat) (g_h0 : Nat → Int32) (r_h0 : Nat → Nat) (a_h0 : G h0 = some (12, g_h0, r_h0)) (hJ : iv_J g_h0) (hE0 : (g_h0 13).toInt ≤ (g_h0 18).toInt) (h18 : (g_h0 18).toInt ≤ 400) (hd : (401 - (g_h0 18).toInt).toNat ≤ d) : Met l yX12_any (Cond.code yX12_any cX12_any 1 (some .boolean) :: iv_W0) ({ frames := 14 + 3 * d, cells := 0, slots := 0, locals := 295 + 61 * d }) (iv_Pc iv_sh D classes tys base G [.ref h0]) (iv_Qi iv_sh D classes tys base (fun v G' => iv_MdT [12, 64] G G' ∧ iv_R 0 1 v ∧ iv_pr 0 0 h0 G G' ∧ (¬ v = 0 → iv_cd h0 G G'))) 0 0 (iv_A base) := by
  refine iv_head (by decide) (Nat.le_of_ble_eq_true rfl) ?_
  intro p e s m args below meth c ls X hr hlocks hname hB hl
  have X := X
  have hx := X.1.1
  have hb := X.1.2.1
  have hM : iv_MdT [12, 64] G G := iv_MdT.rf
  have a_st := a_h0
  have a_lb := a_h0
  have hP : iv_pr 0 0 h0 G G := iv_pr.rf a_h0 hJ
  have hL : iv_pr 0 0 h0 G G := hP
  have hE := hE0
  have hl : lv_has ls 1 [(0, .ref h0)] := hl
  refine lv_aload_n hx hb dX12_any_0 rfl (lv_at hl 0 rfl) ?_
  have a_q1 := a_h0
  have hx_q1 := iv_get64 hB a_h0
  have hs_q1 := iv_s18 hB a_h0
  refine iv_cVi X k_good k_mf_X12_every k_im_X12_every k_sel_X12_every k_ml_X12_209 ft_X12 hB a_h0 sh_12 (As := []) (c_X12_every_h l D tys base d ihO G h0 g_h0 r_h0 a_h0 (hL.J a_lb a_h0) (hL.le (by decide) a_lb a_h0 hE) (iv_s18 hB a_h0).1.2 (by have w1 := (hP.tr hL).ge (by decide) a_st a_h0; omega)) ⟨rfl, rfl⟩ ⟨by dsimp only; omega, by dsimp only; omega⟩ ⟨Nat.le_of_ble_eq_true rfl, Nat.le_of_ble_eq_true rfl⟩ rfl rfl hl.1 (Nat.le_of_ble_eq_true rfl) dX12_any_1 (fun x2 G9 H locs hq hB => ?_)
  obtain ⟨hm, i_x2, xp3⟩ := hq
  obtain ⟨G4, hG9⟩ : ∃ g, g = G9 := ⟨_, rfl⟩
  rw [← hG9] at hm hB xp3
  have hM := hM.stp hm (by decide)
  obtain ⟨g5, r6, a_h0, f_g5⟩ := hm.ex a_h0
  have hL : iv_pr (0) 0 h0 G G4 := (hL.tr xp3.1).wk (by decide)
  refine lv_if_ne (tgt := 9) hx hb dX12_any_4 (by decide) (fun c7 => ?_) (fun c7 => ?_)
  · skip
    have i7_x2 : iv_R 1 1 x2 := iv_ne_lo c7 i_x2 q_0 (by decide)
    have hC9 := xp3.2 c7
    have L_9 : ∀ (n_9 : Nat) (G12 : iv_G) (hM : iv_MdT [12, 64] G G12) (H : Heap) (locs : List Loc) (hB : iv_B iv_sh D classes tys base G12 s.heap H locs) (g10 : Nat → Int32) (r11 : Nat → Nat) (a_h0 : G12 h0 = some (12, g10, r11)) (hn_9 : (401 - (g10 18).toInt).toNat < n_9) (hP : iv_pr 0 0 h0 G G12) (hC : iv_cd h0 G G12) (ls : Array Slot) (hl : lv_has ls 1 [(0, .ref h0)]), W p l e ({ frames := 14 + 3 * d, cells := 0, slots := 0, locals := 295 + 61 * d } : Room) s m args below meth c H locs 0 0 (MQ below (iv_Qi iv_sh D classes tys base (fun v G' => iv_MdT [12, 64] G G' ∧ iv_R 0 1 v ∧ iv_pr 0 0 h0 G G' ∧ (¬ v = 0 → iv_cd h0 G G'))) args s 0 0 (iv_A base)) (F0 m 9 ls []) := by
      intro n_9
      induction n_9 with
      | zero => intro G12 hM H locs hB g10 r11 a_h0 hn_9 hP hC ls hl; exact absurd hn_9 (Nat.not_lt_zero _)
      | succ n_9 ih_9 =>
        intro G12 hM H locs hB g10 r11 a_h0 hn_9 hP hC ls hl
        have a_lb := a_h0
        have hL : iv_pr 0 0 h0 G12 G12 := iv_pr.rf a_h0 (hP.J a_st a_h0)
        have hE := hP.le (by decide) a_st a_h0 hE0
        refine lv_aload_n hx hb dX12_any_9 rfl (lv_at hl 0 rfl) ?_
        refine iv_geti X ft_X12 hB a_h0 sh_12 17 (by decide) rfl k_fl_X12_165 dX12_any_10 (fun x13 e_x13 i_x13 => ?_)
        refine lv_iconst (v := 4) hx hb dX12_any_13 (by decide) ?_
        refine lv_icmp_ne (tgt := 40) hx hb dX12_any_14 (by decide) (fun c14 => ?_) (fun c14 => ?_)
        · skip
          refine lv_iconst (v := 1) hx hb dX12_any_40 (by decide) ?_
          exact iv_zret X hr hlocks hB (q_1.wk (by decide)) ⟨hM, (q_1.wk (by decide)), ⟨((hP.tr hL).wk (by decide)), fun _ => hC⟩⟩ dX12_any_41
        · skip
          have i14_x13 : iv_R 4 4 x13 := ((i_x13.cutLo (n := 4) (iv_eq_r c14 q_4).1).cutHi (n := 4) (iv_eq_r c14 q_4).2)
          refine lv_aload_n hx hb dX12_any_17 rfl (lv_at hl 0 rfl) ?_
          have a_q16 := a_h0
          have hx_q16 := iv_get64 hB a_h0
          have hs_q16 := iv_s18 hB a_h0
          refine iv_cVv X k_good k_mf_X12_next0 k_im_X12_next0 k_sel_X12_next0 k_ml_X12_189 ft_X12 hB a_h0 sh_12 (As := []) (e_X12_next0 l D tys base G12 h0 g10 r11 a_h0) ⟨rfl, rfl⟩ ⟨by dsimp only; omega, by dsimp only; omega⟩ ⟨Nat.le_of_ble_eq_true rfl, Nat.le_of_ble_eq_true rfl⟩ rfl rfl hl.1 (Nat.le_of_ble_eq_true rfl) dX12_any_18 (fun G9 H locs hq hB => ?_)
          obtain ⟨hm, xp17⟩ := hq
          obtain ⟨G18, hG9⟩ : ∃ g, g = G9 := ⟨_, rfl⟩
          rw [← hG9] at hm hB xp17
          have hM := hM.stp (iv_MdT.of hm) (by decide)
          obtain ⟨g19, r20, a_h0, f_g19⟩ := hm.ex a_h0
          have hL : iv_pr (1) 0 h0 G12 G18 := (hL.next1 hm a_q16 xp17 (by rw [← e_x13]; exact Int.le_trans (by decide) i14_x13.1)).wk (by decide)
          have hC21 := hC.keep hm a_q16 hx_q16
          refine lv_aload_n hx hb dX12_any_21 rfl (lv_at hl 0 rfl) ?_
          have a_q22 := a_h0
          have hx_q22 := iv_get64 hB a_h0
          have hs_q22 := iv_s18 hB a_h0
          refine iv_cVi X k_good k_mf_X12_every k_im_X12_every k_sel_X12_every k_ml_X12_209 ft_X12 hB a_h0 sh_12 (As := []) (c_X12_every_h l D tys base d ihO G18 h0 g19 r20 a_h0 (hL.J a_lb a_h0) (hL.le (by decide) a_lb a_h0 hE) (iv_s18 hB a_h0).1.2 (by have w1 := (hP.tr hL).ge (by decide) a_st a_h0; omega)) ⟨rfl, rfl⟩ ⟨by dsimp only; omega, by dsimp only; omega⟩ ⟨Nat.le_of_ble_eq_true rfl, Nat.le_of_ble_eq_true rfl⟩ rfl rfl hl.1 (Nat.le_of_ble_eq_true rfl) dX12_any_22 (fun x23 G9 H locs hq hB => ?_)
          obtain ⟨hm, i_x23, xp24⟩ := hq
          obtain ⟨G25, hG9⟩ : ∃ g, g = G9 := ⟨_, rfl⟩
          rw [← hG9] at hm hB xp24
          have hM := hM.stp hm (by decide)
          obtain ⟨g26, r27, a_h0, f_g26⟩ := hm.ex a_h0
          have hL : iv_pr (1) 0 h0 G12 G25 := (hL.tr xp24.1).wk (by decide)
          refine lv_if_ne (tgt := 30) hx hb dX12_any_25 (by decide) (fun c28 => ?_) (fun c28 => ?_)
          · skip
            have i28_x23 : iv_R 1 1 x23 := iv_ne_lo c28 i_x23 q_0 (by decide)
            have hC30 := xp24.2 c28
            refine lv_aload_n hx hb dX12_any_30 rfl (lv_at hl 0 rfl) ?_
            refine lv_bipush (v := 32) hx hb dX12_any_31 (by decide) ?_
            refine lv_iconst (v := 0) hx hb dX12_any_33 (by decide) ?_
            have a_q31 := a_h0
            have hx_q31 := iv_get64 hB a_h0
            have hs_q31 := iv_s18 hB a_h0
            refine iv_cVv X k_good k_mf_X12_lay k_im_X12_lay k_sel_X12_lay k_ml_X12_202 ft_X12 hB a_h0 sh_12 (As := [.int 32, .int 0]) (c_X12_lay l D tys base G25 h0 g26 r27 a_h0 (hL.ly (by decide) a_lb a_h0 hE (iv_s18 hB a_h0)) 32 (q_32.wk (by decide)) 0 (q_0.wk (by decide))) ⟨rfl, rfl⟩ ⟨by dsimp only; omega, by dsimp only; omega⟩ ⟨Nat.le_of_ble_eq_true rfl, Nat.le_of_ble_eq_true rfl⟩ rfl rfl hl.1 (Nat.le_of_ble_eq_true rfl) dX12_any_34 (fun G9 H locs hq hB => ?_)
            obtain ⟨hm, xp32⟩ := hq
            obtain ⟨G33, hG9⟩ : ∃ g, g = G9 := ⟨_, rfl⟩
            rw [← hG9] at hm hB xp32
            have hM := hM.stp hm (by decide)
            obtain ⟨g34, r35, a_h0, f_g34⟩ := hm.ex a_h0
            have hL : iv_pr (0) 1 h0 G12 G33 := (hL.lay xp32 a_q31 hx_q31).wk (by decide)
            have hC36 := hC21.op xp24 hC30 xp32 a_q22 a_q31 hx_q22 (by decide)
            refine lv_goto (tgt := 9) hx hb dX12_any_37 (by decide) ?_
            exact ih_9 G33 hM _ _ hB g34 r35 a_h0 (iv_mea (hL.gt (by decide) a_lb a_h0) (iv_s18 hB a_h0) hn_9) ((hP.tr hL).wk (by decide)) hC36 _ (lv_sub hl [0] rfl)
          · skip
            have i36_x23 : iv_R 0 0 x23 := (i_x23.cutHi (n := 0) (iv_eq_r c28 q_0).2)
            refine lv_iconst (v := 0) hx hb dX12_any_28 (by decide) ?_
            exact iv_zret X hr hlocks hB (q_0.wk (by decide)) ⟨hM, (q_0.wk (by decide)), ⟨((hP.tr hL).wk (by decide)), fun h => absurd (iv_z q_0) h⟩⟩ dX12_any_29
    exact L_9 _ G4 hM _ _ hB g5 r6 a_h0 (Nat.lt_succ_self _) ((hP.tr hL).wk (by decide)) hC9 _ (lv_sub hl [0] rfl)
  · skip
    have i37_x2 : iv_R 0 0 x2 := (i_x2.cutHi (n := 0) (iv_eq_r c7 q_0).2)
    refine lv_iconst (v := 0) hx hb dX12_any_7 (by decide) ?_
    exact iv_zret X hr hlocks hB (q_0.wk (by decide)) ⟨hM, (q_0.wk (by decide)), ⟨((hP.tr hL).wk (by decide)), fun h => absurd (iv_z q_0) h⟩⟩ dX12_any_8
theorem dX12_oneTest_0 : decode cX12_oneTest 0 = .ok (.aload_n 0, 1) := by decide +kernel
theorem dX12_oneTest_1 : decode cX12_oneTest 1 = .ok (.getfield 165, 3) := by decide +kernel
theorem dX12_oneTest_4 : decode cX12_oneTest 4 = .ok (.bipush 6, 2) := by decide +kernel
theorem dX12_oneTest_6 : decode cX12_oneTest 6 = .ok (.if_icmp .ne 38, 3) := by decide +kernel
theorem dX12_oneTest_9 : decode cX12_oneTest 9 = .ok (.aload_n 0, 1) := by decide +kernel
theorem dX12_oneTest_10 : decode cX12_oneTest 10 = .ok (.invokevirtual 215, 3) := by decide +kernel
theorem dX12_oneTest_13 : decode cX12_oneTest 13 = .ok (.ifCond .eq 10, 3) := by decide +kernel
theorem dX12_oneTest_16 : decode cX12_oneTest 16 = .ok (.aload_n 0, 1) := by decide +kernel
theorem dX12_oneTest_17 : decode cX12_oneTest 17 = .ok (.invokevirtual 212, 3) := by decide +kernel
theorem dX12_oneTest_20 : decode cX12_oneTest 20 = .ok (.ifCond .ne 5, 3) := by decide +kernel
theorem dX12_oneTest_23 : decode cX12_oneTest 23 = .ok (.iconst 0, 1) := by decide +kernel
theorem dX12_oneTest_24 : decode cX12_oneTest 24 = .ok (.ireturn, 1) := by decide +kernel
theorem dX12_oneTest_25 : decode cX12_oneTest 25 = .ok (.aload_n 0, 1) := by decide +kernel
theorem dX12_oneTest_26 : decode cX12_oneTest 26 = .ok (.dup, 1) := by decide +kernel
theorem dX12_oneTest_27 : decode cX12_oneTest 27 = .ok (.getfield 195, 3) := by decide +kernel
theorem dX12_oneTest_30 : decode cX12_oneTest 30 = .ok (.iconst 1, 1) := by decide +kernel
theorem dX12_oneTest_31 : decode cX12_oneTest 31 = .ok (.isub, 1) := by decide +kernel
theorem dX12_oneTest_32 : decode cX12_oneTest 32 = .ok (.putfield 195, 3) := by decide +kernel
theorem dX12_oneTest_35 : decode cX12_oneTest 35 = .ok (.aload_n 0, 1) := by decide +kernel
theorem dX12_oneTest_36 : decode cX12_oneTest 36 = .ok (.bipush 30, 2) := by decide +kernel
theorem dX12_oneTest_38 : decode cX12_oneTest 38 = .ok (.iconst 0, 1) := by decide +kernel
theorem dX12_oneTest_39 : decode cX12_oneTest 39 = .ok (.invokevirtual 202, 3) := by decide +kernel
theorem dX12_oneTest_42 : decode cX12_oneTest 42 = .ok (.iconst 1, 1) := by decide +kernel
theorem dX12_oneTest_43 : decode cX12_oneTest 43 = .ok (.ireturn, 1) := by decide +kernel
theorem dX12_oneTest_44 : decode cX12_oneTest 44 = .ok (.aload_n 0, 1) := by decide +kernel
theorem dX12_oneTest_45 : decode cX12_oneTest 45 = .ok (.getfield 165, 3) := by decide +kernel
theorem dX12_oneTest_48 : decode cX12_oneTest 48 = .ok (.sipush 140, 3) := by decide +kernel
theorem dX12_oneTest_51 : decode cX12_oneTest 51 = .ok (.if_icmp .ne 41, 3) := by decide +kernel
theorem dX12_oneTest_54 : decode cX12_oneTest 54 = .ok (.aload_n 0, 1) := by decide +kernel
theorem dX12_oneTest_55 : decode cX12_oneTest 55 = .ok (.invokevirtual 215, 3) := by decide +kernel
theorem dX12_oneTest_58 : decode cX12_oneTest 58 = .ok (.ifCond .eq 20, 3) := by decide +kernel
theorem dX12_oneTest_61 : decode cX12_oneTest 61 = .ok (.aload_n 0, 1) := by decide +kernel
theorem dX12_oneTest_62 : decode cX12_oneTest 62 = .ok (.invokevirtual 218, 3) := by decide +kernel
theorem dX12_oneTest_65 : decode cX12_oneTest 65 = .ok (.ifCond .eq 13, 3) := by decide +kernel
theorem dX12_oneTest_68 : decode cX12_oneTest 68 = .ok (.aload_n 0, 1) := by decide +kernel
theorem dX12_oneTest_69 : decode cX12_oneTest 69 = .ok (.sipush 141, 3) := by decide +kernel
theorem dX12_oneTest_72 : decode cX12_oneTest 72 = .ok (.invokevirtual 221, 3) := by decide +kernel
theorem dX12_oneTest_75 : decode cX12_oneTest 75 = .ok (.ifCond .ne 5, 3) := by decide +kernel
theorem dX12_oneTest_78 : decode cX12_oneTest 78 = .ok (.iconst 0, 1) := by decide +kernel
theorem dX12_oneTest_79 : decode cX12_oneTest 79 = .ok (.ireturn, 1) := by decide +kernel
theorem dX12_oneTest_80 : decode cX12_oneTest 80 = .ok (.aload_n 0, 1) := by decide +kernel
theorem dX12_oneTest_81 : decode cX12_oneTest 81 = .ok (.dup, 1) := by decide +kernel
theorem dX12_oneTest_82 : decode cX12_oneTest 82 = .ok (.getfield 195, 3) := by decide +kernel
theorem dX12_oneTest_85 : decode cX12_oneTest 85 = .ok (.iconst 1, 1) := by decide +kernel
theorem dX12_oneTest_86 : decode cX12_oneTest 86 = .ok (.isub, 1) := by decide +kernel
theorem dX12_oneTest_87 : decode cX12_oneTest 87 = .ok (.putfield 195, 3) := by decide +kernel
theorem dX12_oneTest_90 : decode cX12_oneTest 90 = .ok (.iconst 1, 1) := by decide +kernel
theorem dX12_oneTest_91 : decode cX12_oneTest 91 = .ok (.ireturn, 1) := by decide +kernel
theorem dX12_oneTest_92 : decode cX12_oneTest 92 = .ok (.aload_n 0, 1) := by decide +kernel
theorem dX12_oneTest_93 : decode cX12_oneTest 93 = .ok (.invokevirtual 224, 3) := by decide +kernel
theorem dX12_oneTest_96 : decode cX12_oneTest 96 = .ok (.ifCond .ne 5, 3) := by decide +kernel
theorem dX12_oneTest_99 : decode cX12_oneTest 99 = .ok (.iconst 0, 1) := by decide +kernel
theorem dX12_oneTest_100 : decode cX12_oneTest 100 = .ok (.ireturn, 1) := by decide +kernel
theorem dX12_oneTest_101 : decode cX12_oneTest 101 = .ok (.aload_n 0, 1) := by decide +kernel
theorem dX12_oneTest_102 : decode cX12_oneTest 102 = .ok (.getfield 165, 3) := by decide +kernel
theorem dX12_oneTest_105 : decode cX12_oneTest 105 = .ok (.sipush 160, 3) := by decide +kernel
theorem dX12_oneTest_108 : decode cX12_oneTest 108 = .ok (.if_icmp .ne 8, 3) := by decide +kernel
theorem dX12_oneTest_111 : decode cX12_oneTest 111 = .ok (.bipush 27, 2) := by decide +kernel
theorem dX12_oneTest_113 : decode cX12_oneTest 113 = .ok (.goto 34, 3) := by decide +kernel
theorem dX12_oneTest_116 : decode cX12_oneTest 116 = .ok (.aload_n 0, 1) := by decide +kernel
theorem dX12_oneTest_117 : decode cX12_oneTest 117 = .ok (.getfield 165, 3) := by decide +kernel
theorem dX12_oneTest_120 : decode cX12_oneTest 120 = .ok (.sipush 161, 3) := by decide +kernel
theorem dX12_oneTest_123 : decode cX12_oneTest 123 = .ok (.if_icmp .ne 8, 3) := by decide +kernel
theorem dX12_oneTest_126 : decode cX12_oneTest 126 = .ok (.bipush 28, 2) := by decide +kernel
theorem dX12_oneTest_128 : decode cX12_oneTest 128 = .ok (.goto 19, 3) := by decide +kernel
theorem dX12_oneTest_131 : decode cX12_oneTest 131 = .ok (.aload_n 0, 1) := by decide +kernel
theorem dX12_oneTest_132 : decode cX12_oneTest 132 = .ok (.getfield 165, 3) := by decide +kernel
theorem dX12_oneTest_135 : decode cX12_oneTest 135 = .ok (.sipush 162, 3) := by decide +kernel
theorem dX12_oneTest_138 : decode cX12_oneTest 138 = .ok (.if_icmp .ne 8, 3) := by decide +kernel
theorem dX12_oneTest_141 : decode cX12_oneTest 141 = .ok (.bipush 29, 2) := by decide +kernel
theorem dX12_oneTest_143 : decode cX12_oneTest 143 = .ok (.goto 4, 3) := by decide +kernel
theorem dX12_oneTest_146 : decode cX12_oneTest 146 = .ok (.iconst (-1), 1) := by decide +kernel
theorem dX12_oneTest_147 : decode cX12_oneTest 147 = .ok (.istore_n 1, 1) := by decide +kernel
theorem dX12_oneTest_148 : decode cX12_oneTest 148 = .ok (.iload_n 1, 1) := by decide +kernel
theorem dX12_oneTest_149 : decode cX12_oneTest 149 = .ok (.iconst (-1), 1) := by decide +kernel
theorem dX12_oneTest_150 : decode cX12_oneTest 150 = .ok (.if_icmp .ne 9, 3) := by decide +kernel
theorem dX12_oneTest_153 : decode cX12_oneTest 153 = .ok (.aload_n 0, 1) := by decide +kernel
theorem dX12_oneTest_154 : decode cX12_oneTest 154 = .ok (.iconst 1, 1) := by decide +kernel
theorem dX12_oneTest_155 : decode cX12_oneTest 155 = .ok (.invokevirtual 186, 3) := by decide +kernel
theorem dX12_oneTest_158 : decode cX12_oneTest 158 = .ok (.ireturn, 1) := by decide +kernel
theorem dX12_oneTest_159 : decode cX12_oneTest 159 = .ok (.aload_n 0, 1) := by decide +kernel
theorem dX12_oneTest_160 : decode cX12_oneTest 160 = .ok (.invokevirtual 189, 3) := by decide +kernel
theorem dX12_oneTest_163 : decode cX12_oneTest 163 = .ok (.aload_n 0, 1) := by decide +kernel
theorem dX12_oneTest_164 : decode cX12_oneTest 164 = .ok (.invokevirtual 224, 3) := by decide +kernel
theorem dX12_oneTest_167 : decode cX12_oneTest 167 = .ok (.ifCond .ne 5, 3) := by decide +kernel
theorem dX12_oneTest_170 : decode cX12_oneTest 170 = .ok (.iconst 0, 1) := by decide +kernel
theorem dX12_oneTest_171 : decode cX12_oneTest 171 = .ok (.ireturn, 1) := by decide +kernel
theorem dX12_oneTest_172 : decode cX12_oneTest 172 = .ok (.aload_n 0, 1) := by decide +kernel
theorem dX12_oneTest_173 : decode cX12_oneTest 173 = .ok (.iload_n 1, 1) := by decide +kernel
theorem dX12_oneTest_174 : decode cX12_oneTest 174 = .ok (.iconst 0, 1) := by decide +kernel
theorem dX12_oneTest_175 : decode cX12_oneTest 175 = .ok (.invokevirtual 202, 3) := by decide +kernel
theorem dX12_oneTest_178 : decode cX12_oneTest 178 = .ok (.iconst 1, 1) := by decide +kernel
theorem dX12_oneTest_179 : decode cX12_oneTest 179 = .ok (.ireturn, 1) := by decide +kernel
set_option maxHeartbeats 4000000 in
set_option maxRecDepth 100000 in
theorem c_X12_oneTest_rec (l : Launch) (D : va_G) (tys : List (ClassId × FieldType)) (base : Nat) : ∀ (d : Nat) (G : iv_G) (h0 : Nat) (g_h0 : Nat → Int32) (r_h0 : Nat → Nat) (a_h0 : G h0 = some (12, g_h0, r_h0)) (hJ : iv_J g_h0) (hE0 : (g_h0 13).toInt ≤ (g_h0 18).toInt) (h18 : (g_h0 18).toInt ≤ 400) (hd : (401 - (g_h0 18).toInt).toNat ≤ d), Met l yX12_oneTest (Cond.code yX12_oneTest cX12_oneTest 2 (some .boolean) :: iv_W0) ({ frames := 12 + 3 * d, cells := 0, slots := 0, locals := 254 + 61 * d }) (iv_Pc iv_sh D classes tys base G [.ref h0]) (iv_Qi iv_sh D classes tys base (fun v G' => iv_MdT [12, 64] G G' ∧ iv_R 0 1 v ∧ iv_pr 0 0 h0 G G' ∧ (¬ v = 0 → iv_cd h0 G G'))) 0 0 (iv_A base) := by
  intro d
  induction d with
  | zero => intro G h0 g_h0 r_h0 a_h0 hJ hE0 h18 hd; exact absurd hd (by omega)
  | succ d ih =>
    intro G h0 g_h0 r_h0 a_h0 hJ hE0 h18 hd
    refine iv_head (by decide) (Nat.le_of_ble_eq_true rfl) ?_
    intro p e s m args below meth c ls X hr hlocks hname hB hl
    have X := X
    have hx := X.1.1
    have hb := X.1.2.1
    have hM : iv_MdT [12, 64] G G := iv_MdT.rf
    have a_st := a_h0
    have a_lb := a_h0
    have hP : iv_pr 0 0 h0 G G := iv_pr.rf a_h0 hJ
    have hL : iv_pr 0 0 h0 G G := hP
    have hE := hE0
    have hl : lv_has ls 2 [(0, .ref h0)] := hl
    refine lv_aload_n hx hb dX12_oneTest_0 rfl (lv_at hl 0 rfl) ?_
    refine iv_geti X ft_X12 hB a_h0 sh_12 17 (by decide) rfl k_fl_X12_165 dX12_oneTest_1 (fun x1 e_x1 i_x1 => ?_)
    refine lv_bipush (v := 6) hx hb dX12_oneTest_4 (by decide) ?_
    refine lv_icmp_ne (tgt := 44) hx hb dX12_oneTest_6 (by decide) (fun c2 => ?_) (fun c2 => ?_)
    · skip
      refine lv_aload_n hx hb dX12_oneTest_44 rfl (lv_at hl 0 rfl) ?_
      refine iv_geti0 X ft_X12 hB a_h0 sh_12 17 (by decide) rfl k_fl_X12_165 dX12_oneTest_45 e_x1 ?_
      refine lv_sipush (v := 140) hx hb dX12_oneTest_48 (by decide) ?_
      refine lv_icmp_ne (tgt := 92) hx hb dX12_oneTest_51 (by decide) (fun c3 => ?_) (fun c3 => ?_)
      · skip
        refine lv_aload_n hx hb dX12_oneTest_92 rfl (lv_at hl 0 rfl) ?_
        have a_q4 := a_h0
        have hx_q4 := iv_get64 hB a_h0
        have hs_q4 := iv_s18 hB a_h0
        refine iv_cVi X k_good k_mf_X12_sumUp k_im_X12_sumUp k_sel_X12_sumUp k_ml_X12_224 ft_X12 hB a_h0 sh_12 (As := []) (c_X12_sumUp l D tys base G h0 g_h0 r_h0 a_h0 (hL.J a_lb a_h0) (hL.le (by decide) a_lb a_h0 hE)) ⟨rfl, rfl⟩ ⟨by dsimp only; omega, by dsimp only; omega⟩ ⟨Nat.le_of_ble_eq_true rfl, Nat.le_of_ble_eq_true rfl⟩ rfl rfl hl.1 (Nat.le_of_ble_eq_true rfl) dX12_oneTest_93 (fun x5 G9 H locs hq hB => ?_)
        obtain ⟨hm, i_x5, xp6⟩ := hq
        obtain ⟨G7, hG9⟩ : ∃ g, g = G9 := ⟨_, rfl⟩
        rw [← hG9] at hm hB xp6
        have hM := hM.stp hm (by decide)
        obtain ⟨g8, r9, a_h0, f_g8⟩ := hm.ex a_h0
        have hL : iv_pr (0) 0 h0 G G7 := (hL.tr xp6.1).wk (by decide)
        refine lv_if_ne (tgt := 101) hx hb dX12_oneTest_96 (by decide) (fun c10 => ?_) (fun c10 => ?_)
        · skip
          have i10_x5 : iv_R 1 1 x5 := iv_ne_lo c10 i_x5 q_0 (by decide)
          have hC12 := xp6.2 c10
          refine lv_aload_n hx hb dX12_oneTest_101 rfl (lv_at hl 0 rfl) ?_
          refine iv_geti X ft_X12 hB a_h0 sh_12 17 (by decide) rfl k_fl_X12_165 dX12_oneTest_102 (fun x13 e_x13 i_x13 => ?_)
          refine lv_sipush (v := 160) hx hb dX12_oneTest_105 (by decide) ?_
          refine lv_icmp_ne (tgt := 116) hx hb dX12_oneTest_108 (by decide) (fun c14 => ?_) (fun c14 => ?_)
          · skip
            refine lv_aload_n hx hb dX12_oneTest_116 rfl (lv_at hl 0 rfl) ?_
            refine iv_geti0 X ft_X12 hB a_h0 sh_12 17 (by decide) rfl k_fl_X12_165 dX12_oneTest_117 e_x13 ?_
            refine lv_sipush (v := 161) hx hb dX12_oneTest_120 (by decide) ?_
            refine lv_icmp_ne (tgt := 131) hx hb dX12_oneTest_123 (by decide) (fun c15 => ?_) (fun c15 => ?_)
            · skip
              refine lv_aload_n hx hb dX12_oneTest_131 rfl (lv_at hl 0 rfl) ?_
              refine iv_geti0 X ft_X12 hB a_h0 sh_12 17 (by decide) rfl k_fl_X12_165 dX12_oneTest_132 e_x13 ?_
              refine lv_sipush (v := 162) hx hb dX12_oneTest_135 (by decide) ?_
              refine lv_icmp_ne (tgt := 146) hx hb dX12_oneTest_138 (by decide) (fun c16 => ?_) (fun c16 => ?_)
              · skip
                refine lv_iconst (v := (-1)) hx hb dX12_oneTest_146 (by decide) ?_
                refine lv_istore_n (lv' := [(1, .int (-1)), (0, .ref h0)]) hx hb dX12_oneTest_147 rfl hl (by decide) rfl (fun ls hl => ?_)
                refine lv_iload_n hx hb dX12_oneTest_148 rfl (lv_at hl 0 rfl) ?_
                refine lv_iconst (v := (-1)) hx hb dX12_oneTest_149 (by decide) ?_
                refine lv_icmp_ne (tgt := 159) hx hb dX12_oneTest_150 (by decide) (fun c17 => ?_) (fun c17 => ?_)
                · skip
                  exact absurd rfl c17
                · skip
                  refine lv_aload_n hx hb dX12_oneTest_153 rfl (lv_at hl 1 rfl) ?_
                  refine lv_iconst (v := 1) hx hb dX12_oneTest_154 (by decide) ?_
                  have a_q18 := a_h0
                  have hx_q18 := iv_get64 hB a_h0
                  have hs_q18 := iv_s18 hB a_h0
                  refine iv_cVi X k_good k_mf_X12_bad k_im_X12_bad k_sel_X12_bad k_ml_X12_186 ft_X12 hB a_h0 sh_12 (As := [.int 1]) (c_X12_bad l D tys base G7 h0 g8 r9 a_h0 1 (q_1.wk (by decide)) (hL.J a_lb a_h0)) ⟨rfl, rfl⟩ ⟨by dsimp only; omega, by dsimp only; omega⟩ ⟨Nat.le_of_ble_eq_true rfl, Nat.le_of_ble_eq_true rfl⟩ rfl rfl hl.1 (Nat.le_of_ble_eq_true rfl) dX12_oneTest_155 (fun x19 G9 H locs hq hB => ?_)
                  obtain ⟨hm, i_x19, xp20⟩ := hq
                  obtain ⟨G21, hG9⟩ : ∃ g, g = G9 := ⟨_, rfl⟩
                  rw [← hG9] at hm hB xp20
                  have hM := hM.stp (iv_MdT.of hm) (by decide)
                  obtain ⟨g22, r23, a_h0, f_g22⟩ := hm.ex a_h0
                  have hL : iv_pr (0) 0 h0 G G21 := (hL.tr xp20).wk (by decide)
                  have hC24 := hC12.keep hm a_q18 hx_q18
                  exact iv_zret X hr hlocks hB (i_x19.wk (by decide)) ⟨hM, (i_x19.wk (by decide)), ⟨((hP.tr hL).wk (by decide)), fun h => absurd (iv_z i_x19) h⟩⟩ dX12_oneTest_158
              · skip
                have i24_x13 : iv_R 162 162 x13 := ((i_x13.cutLo (n := 162) (iv_eq_r c16 q_162).1).cutHi (n := 162) (iv_eq_r c16 q_162).2)
                refine lv_bipush (v := 29) hx hb dX12_oneTest_141 (by decide) ?_
                refine lv_goto (tgt := 147) hx hb dX12_oneTest_143 (by decide) ?_
                refine lv_istore_n (lv' := [(1, .int 29), (0, .ref h0)]) hx hb dX12_oneTest_147 rfl hl (by decide) rfl (fun ls hl => ?_)
                refine lv_iload_n hx hb dX12_oneTest_148 rfl (lv_at hl 0 rfl) ?_
                refine lv_iconst (v := (-1)) hx hb dX12_oneTest_149 (by decide) ?_
                refine lv_icmp_ne (tgt := 159) hx hb dX12_oneTest_150 (by decide) (fun c26 => ?_) (fun c26 => ?_)
                · skip
                  refine lv_aload_n hx hb dX12_oneTest_159 rfl (lv_at hl 1 rfl) ?_
                  have a_q27 := a_h0
                  have hx_q27 := iv_get64 hB a_h0
                  have hs_q27 := iv_s18 hB a_h0
                  refine iv_cVv X k_good k_mf_X12_next0 k_im_X12_next0 k_sel_X12_next0 k_ml_X12_189 ft_X12 hB a_h0 sh_12 (As := []) (e_X12_next0 l D tys base G7 h0 g8 r9 a_h0) ⟨rfl, rfl⟩ ⟨by dsimp only; omega, by dsimp only; omega⟩ ⟨Nat.le_of_ble_eq_true rfl, Nat.le_of_ble_eq_true rfl⟩ rfl rfl hl.1 (Nat.le_of_ble_eq_true rfl) dX12_oneTest_160 (fun G9 H locs hq hB => ?_)
                  obtain ⟨hm, xp28⟩ := hq
                  obtain ⟨G29, hG9⟩ : ∃ g, g = G9 := ⟨_, rfl⟩
                  rw [← hG9] at hm hB xp28
                  have hM := hM.stp (iv_MdT.of hm) (by decide)
                  obtain ⟨g30, r31, a_h0, f_g30⟩ := hm.ex a_h0
                  have hL : iv_pr (1) 0 h0 G G29 := (hL.next1 hm a_q27 xp28 (by rw [← e_x13]; exact Int.le_trans (by decide) i24_x13.1)).wk (by decide)
                  have hC32 := hC12.keep hm a_q27 hx_q27
                  refine lv_aload_n hx hb dX12_oneTest_163 rfl (lv_at hl 1 rfl) ?_
                  have a_q33 := a_h0
                  have hx_q33 := iv_get64 hB a_h0
                  have hs_q33 := iv_s18 hB a_h0
                  refine iv_cVi X k_good k_mf_X12_sumUp k_im_X12_sumUp k_sel_X12_sumUp k_ml_X12_224 ft_X12 hB a_h0 sh_12 (As := []) (c_X12_sumUp l D tys base G29 h0 g30 r31 a_h0 (hL.J a_lb a_h0) (hL.le (by decide) a_lb a_h0 hE)) ⟨rfl, rfl⟩ ⟨by dsimp only; omega, by dsimp only; omega⟩ ⟨Nat.le_of_ble_eq_true rfl, Nat.le_of_ble_eq_true rfl⟩ rfl rfl hl.1 (Nat.le_of_ble_eq_true rfl) dX12_oneTest_164 (fun x34 G9 H locs hq hB => ?_)
                  obtain ⟨hm, i_x34, xp35⟩ := hq
                  obtain ⟨G36, hG9⟩ : ∃ g, g = G9 := ⟨_, rfl⟩
                  rw [← hG9] at hm hB xp35
                  have hM := hM.stp hm (by decide)
                  obtain ⟨g37, r38, a_h0, f_g37⟩ := hm.ex a_h0
                  have hL : iv_pr (1) 0 h0 G G36 := (hL.tr xp35.1).wk (by decide)
                  refine lv_if_ne (tgt := 172) hx hb dX12_oneTest_167 (by decide) (fun c39 => ?_) (fun c39 => ?_)
                  · skip
                    have i39_x34 : iv_R 1 1 x34 := iv_ne_lo c39 i_x34 q_0 (by decide)
                    have hC41 := xp35.2 c39
                    refine lv_aload_n hx hb dX12_oneTest_172 rfl (lv_at hl 1 rfl) ?_
                    refine lv_iload_n hx hb dX12_oneTest_173 rfl (lv_at hl 0 rfl) ?_
                    refine lv_iconst (v := 0) hx hb dX12_oneTest_174 (by decide) ?_
                    have a_q42 := a_h0
                    have hx_q42 := iv_get64 hB a_h0
                    have hs_q42 := iv_s18 hB a_h0
                    refine iv_cVv X k_good k_mf_X12_lay k_im_X12_lay k_sel_X12_lay k_ml_X12_202 ft_X12 hB a_h0 sh_12 (As := [.int 29, .int 0]) (c_X12_lay l D tys base G36 h0 g37 r38 a_h0 (hL.ly (by decide) a_lb a_h0 hE (iv_s18 hB a_h0)) 29 (q_29.wk (by decide)) 0 (q_0.wk (by decide))) ⟨rfl, rfl⟩ ⟨by dsimp only; omega, by dsimp only; omega⟩ ⟨Nat.le_of_ble_eq_true rfl, Nat.le_of_ble_eq_true rfl⟩ rfl rfl hl.1 (Nat.le_of_ble_eq_true rfl) dX12_oneTest_175 (fun G9 H locs hq hB => ?_)
                    obtain ⟨hm, xp43⟩ := hq
                    obtain ⟨G44, hG9⟩ : ∃ g, g = G9 := ⟨_, rfl⟩
                    rw [← hG9] at hm hB xp43
                    have hM := hM.stp hm (by decide)
                    obtain ⟨g45, r46, a_h0, f_g45⟩ := hm.ex a_h0
                    have hL : iv_pr (0) 1 h0 G G44 := (hL.lay xp43 a_q42 hx_q42).wk (by decide)
                    have hC47 := hC32.op xp35 hC41 xp43 a_q33 a_q42 hx_q33 (by decide)
                    refine lv_iconst (v := 1) hx hb dX12_oneTest_178 (by decide) ?_
                    exact iv_zret X hr hlocks hB (q_1.wk (by decide)) ⟨hM, (q_1.wk (by decide)), ⟨((hP.tr hL).wk (by decide)), fun _ => hC47⟩⟩ dX12_oneTest_179
                  · skip
                    have i47_x34 : iv_R 0 0 x34 := (i_x34.cutHi (n := 0) (iv_eq_r c39 q_0).2)
                    refine lv_iconst (v := 0) hx hb dX12_oneTest_170 (by decide) ?_
                    exact iv_zret X hr hlocks hB (q_0.wk (by decide)) ⟨hM, (q_0.wk (by decide)), ⟨((hP.tr hL).wk (by decide)), fun h => absurd (iv_z q_0) h⟩⟩ dX12_oneTest_171
                · skip
                  exact (q_29.cutHi (n := (-1)) (iv_eq_r c26 q_n1).2).no (by decide)
            · skip
              have i48_x13 : iv_R 161 161 x13 := ((i_x13.cutLo (n := 161) (iv_eq_r c15 q_161).1).cutHi (n := 161) (iv_eq_r c15 q_161).2)
              refine lv_bipush (v := 28) hx hb dX12_oneTest_126 (by decide) ?_
              refine lv_goto (tgt := 147) hx hb dX12_oneTest_128 (by decide) ?_
              refine lv_istore_n (lv' := [(1, .int 28), (0, .ref h0)]) hx hb dX12_oneTest_147 rfl hl (by decide) rfl (fun ls hl => ?_)
              refine lv_iload_n hx hb dX12_oneTest_148 rfl (lv_at hl 0 rfl) ?_
              refine lv_iconst (v := (-1)) hx hb dX12_oneTest_149 (by decide) ?_
              refine lv_icmp_ne (tgt := 159) hx hb dX12_oneTest_150 (by decide) (fun c50 => ?_) (fun c50 => ?_)
              · skip
                refine lv_aload_n hx hb dX12_oneTest_159 rfl (lv_at hl 1 rfl) ?_
                have a_q51 := a_h0
                have hx_q51 := iv_get64 hB a_h0
                have hs_q51 := iv_s18 hB a_h0
                refine iv_cVv X k_good k_mf_X12_next0 k_im_X12_next0 k_sel_X12_next0 k_ml_X12_189 ft_X12 hB a_h0 sh_12 (As := []) (e_X12_next0 l D tys base G7 h0 g8 r9 a_h0) ⟨rfl, rfl⟩ ⟨by dsimp only; omega, by dsimp only; omega⟩ ⟨Nat.le_of_ble_eq_true rfl, Nat.le_of_ble_eq_true rfl⟩ rfl rfl hl.1 (Nat.le_of_ble_eq_true rfl) dX12_oneTest_160 (fun G9 H locs hq hB => ?_)
                obtain ⟨hm, xp52⟩ := hq
                obtain ⟨G53, hG9⟩ : ∃ g, g = G9 := ⟨_, rfl⟩
                rw [← hG9] at hm hB xp52
                have hM := hM.stp (iv_MdT.of hm) (by decide)
                obtain ⟨g54, r55, a_h0, f_g54⟩ := hm.ex a_h0
                have hL : iv_pr (1) 0 h0 G G53 := (hL.next1 hm a_q51 xp52 (by rw [← e_x13]; exact Int.le_trans (by decide) i48_x13.1)).wk (by decide)
                have hC56 := hC12.keep hm a_q51 hx_q51
                refine lv_aload_n hx hb dX12_oneTest_163 rfl (lv_at hl 1 rfl) ?_
                have a_q57 := a_h0
                have hx_q57 := iv_get64 hB a_h0
                have hs_q57 := iv_s18 hB a_h0
                refine iv_cVi X k_good k_mf_X12_sumUp k_im_X12_sumUp k_sel_X12_sumUp k_ml_X12_224 ft_X12 hB a_h0 sh_12 (As := []) (c_X12_sumUp l D tys base G53 h0 g54 r55 a_h0 (hL.J a_lb a_h0) (hL.le (by decide) a_lb a_h0 hE)) ⟨rfl, rfl⟩ ⟨by dsimp only; omega, by dsimp only; omega⟩ ⟨Nat.le_of_ble_eq_true rfl, Nat.le_of_ble_eq_true rfl⟩ rfl rfl hl.1 (Nat.le_of_ble_eq_true rfl) dX12_oneTest_164 (fun x58 G9 H locs hq hB => ?_)
                obtain ⟨hm, i_x58, xp59⟩ := hq
                obtain ⟨G60, hG9⟩ : ∃ g, g = G9 := ⟨_, rfl⟩
                rw [← hG9] at hm hB xp59
                have hM := hM.stp hm (by decide)
                obtain ⟨g61, r62, a_h0, f_g61⟩ := hm.ex a_h0
                have hL : iv_pr (1) 0 h0 G G60 := (hL.tr xp59.1).wk (by decide)
                refine lv_if_ne (tgt := 172) hx hb dX12_oneTest_167 (by decide) (fun c63 => ?_) (fun c63 => ?_)
                · skip
                  have i63_x58 : iv_R 1 1 x58 := iv_ne_lo c63 i_x58 q_0 (by decide)
                  have hC65 := xp59.2 c63
                  refine lv_aload_n hx hb dX12_oneTest_172 rfl (lv_at hl 1 rfl) ?_
                  refine lv_iload_n hx hb dX12_oneTest_173 rfl (lv_at hl 0 rfl) ?_
                  refine lv_iconst (v := 0) hx hb dX12_oneTest_174 (by decide) ?_
                  have a_q66 := a_h0
                  have hx_q66 := iv_get64 hB a_h0
                  have hs_q66 := iv_s18 hB a_h0
                  refine iv_cVv X k_good k_mf_X12_lay k_im_X12_lay k_sel_X12_lay k_ml_X12_202 ft_X12 hB a_h0 sh_12 (As := [.int 28, .int 0]) (c_X12_lay l D tys base G60 h0 g61 r62 a_h0 (hL.ly (by decide) a_lb a_h0 hE (iv_s18 hB a_h0)) 28 (q_28.wk (by decide)) 0 (q_0.wk (by decide))) ⟨rfl, rfl⟩ ⟨by dsimp only; omega, by dsimp only; omega⟩ ⟨Nat.le_of_ble_eq_true rfl, Nat.le_of_ble_eq_true rfl⟩ rfl rfl hl.1 (Nat.le_of_ble_eq_true rfl) dX12_oneTest_175 (fun G9 H locs hq hB => ?_)
                  obtain ⟨hm, xp67⟩ := hq
                  obtain ⟨G68, hG9⟩ : ∃ g, g = G9 := ⟨_, rfl⟩
                  rw [← hG9] at hm hB xp67
                  have hM := hM.stp hm (by decide)
                  obtain ⟨g69, r70, a_h0, f_g69⟩ := hm.ex a_h0
                  have hL : iv_pr (0) 1 h0 G G68 := (hL.lay xp67 a_q66 hx_q66).wk (by decide)
                  have hC71 := hC56.op xp59 hC65 xp67 a_q57 a_q66 hx_q57 (by decide)
                  refine lv_iconst (v := 1) hx hb dX12_oneTest_178 (by decide) ?_
                  exact iv_zret X hr hlocks hB (q_1.wk (by decide)) ⟨hM, (q_1.wk (by decide)), ⟨((hP.tr hL).wk (by decide)), fun _ => hC71⟩⟩ dX12_oneTest_179
                · skip
                  have i71_x58 : iv_R 0 0 x58 := (i_x58.cutHi (n := 0) (iv_eq_r c63 q_0).2)
                  refine lv_iconst (v := 0) hx hb dX12_oneTest_170 (by decide) ?_
                  exact iv_zret X hr hlocks hB (q_0.wk (by decide)) ⟨hM, (q_0.wk (by decide)), ⟨((hP.tr hL).wk (by decide)), fun h => absurd (iv_z q_0) h⟩⟩ dX12_oneTest_171
              · skip
                exact (q_28.cutHi (n := (-1)) (iv_eq_r c50 q_n1).2).no (by decide)
          · skip
            have i72_x13 : iv_R 160 160 x13 := ((i_x13.cutLo (n := 160) (iv_eq_r c14 q_160).1).cutHi (n := 160) (iv_eq_r c14 q_160).2)
            refine lv_bipush (v := 27) hx hb dX12_oneTest_111 (by decide) ?_
            refine lv_goto (tgt := 147) hx hb dX12_oneTest_113 (by decide) ?_
            refine lv_istore_n (lv' := [(1, .int 27), (0, .ref h0)]) hx hb dX12_oneTest_147 rfl hl (by decide) rfl (fun ls hl => ?_)
            refine lv_iload_n hx hb dX12_oneTest_148 rfl (lv_at hl 0 rfl) ?_
            refine lv_iconst (v := (-1)) hx hb dX12_oneTest_149 (by decide) ?_
            refine lv_icmp_ne (tgt := 159) hx hb dX12_oneTest_150 (by decide) (fun c74 => ?_) (fun c74 => ?_)
            · skip
              refine lv_aload_n hx hb dX12_oneTest_159 rfl (lv_at hl 1 rfl) ?_
              have a_q75 := a_h0
              have hx_q75 := iv_get64 hB a_h0
              have hs_q75 := iv_s18 hB a_h0
              refine iv_cVv X k_good k_mf_X12_next0 k_im_X12_next0 k_sel_X12_next0 k_ml_X12_189 ft_X12 hB a_h0 sh_12 (As := []) (e_X12_next0 l D tys base G7 h0 g8 r9 a_h0) ⟨rfl, rfl⟩ ⟨by dsimp only; omega, by dsimp only; omega⟩ ⟨Nat.le_of_ble_eq_true rfl, Nat.le_of_ble_eq_true rfl⟩ rfl rfl hl.1 (Nat.le_of_ble_eq_true rfl) dX12_oneTest_160 (fun G9 H locs hq hB => ?_)
              obtain ⟨hm, xp76⟩ := hq
              obtain ⟨G77, hG9⟩ : ∃ g, g = G9 := ⟨_, rfl⟩
              rw [← hG9] at hm hB xp76
              have hM := hM.stp (iv_MdT.of hm) (by decide)
              obtain ⟨g78, r79, a_h0, f_g78⟩ := hm.ex a_h0
              have hL : iv_pr (1) 0 h0 G G77 := (hL.next1 hm a_q75 xp76 (by rw [← e_x13]; exact Int.le_trans (by decide) i72_x13.1)).wk (by decide)
              have hC80 := hC12.keep hm a_q75 hx_q75
              refine lv_aload_n hx hb dX12_oneTest_163 rfl (lv_at hl 1 rfl) ?_
              have a_q81 := a_h0
              have hx_q81 := iv_get64 hB a_h0
              have hs_q81 := iv_s18 hB a_h0
              refine iv_cVi X k_good k_mf_X12_sumUp k_im_X12_sumUp k_sel_X12_sumUp k_ml_X12_224 ft_X12 hB a_h0 sh_12 (As := []) (c_X12_sumUp l D tys base G77 h0 g78 r79 a_h0 (hL.J a_lb a_h0) (hL.le (by decide) a_lb a_h0 hE)) ⟨rfl, rfl⟩ ⟨by dsimp only; omega, by dsimp only; omega⟩ ⟨Nat.le_of_ble_eq_true rfl, Nat.le_of_ble_eq_true rfl⟩ rfl rfl hl.1 (Nat.le_of_ble_eq_true rfl) dX12_oneTest_164 (fun x82 G9 H locs hq hB => ?_)
              obtain ⟨hm, i_x82, xp83⟩ := hq
              obtain ⟨G84, hG9⟩ : ∃ g, g = G9 := ⟨_, rfl⟩
              rw [← hG9] at hm hB xp83
              have hM := hM.stp hm (by decide)
              obtain ⟨g85, r86, a_h0, f_g85⟩ := hm.ex a_h0
              have hL : iv_pr (1) 0 h0 G G84 := (hL.tr xp83.1).wk (by decide)
              refine lv_if_ne (tgt := 172) hx hb dX12_oneTest_167 (by decide) (fun c87 => ?_) (fun c87 => ?_)
              · skip
                have i87_x82 : iv_R 1 1 x82 := iv_ne_lo c87 i_x82 q_0 (by decide)
                have hC89 := xp83.2 c87
                refine lv_aload_n hx hb dX12_oneTest_172 rfl (lv_at hl 1 rfl) ?_
                refine lv_iload_n hx hb dX12_oneTest_173 rfl (lv_at hl 0 rfl) ?_
                refine lv_iconst (v := 0) hx hb dX12_oneTest_174 (by decide) ?_
                have a_q90 := a_h0
                have hx_q90 := iv_get64 hB a_h0
                have hs_q90 := iv_s18 hB a_h0
                refine iv_cVv X k_good k_mf_X12_lay k_im_X12_lay k_sel_X12_lay k_ml_X12_202 ft_X12 hB a_h0 sh_12 (As := [.int 27, .int 0]) (c_X12_lay l D tys base G84 h0 g85 r86 a_h0 (hL.ly (by decide) a_lb a_h0 hE (iv_s18 hB a_h0)) 27 (q_27.wk (by decide)) 0 (q_0.wk (by decide))) ⟨rfl, rfl⟩ ⟨by dsimp only; omega, by dsimp only; omega⟩ ⟨Nat.le_of_ble_eq_true rfl, Nat.le_of_ble_eq_true rfl⟩ rfl rfl hl.1 (Nat.le_of_ble_eq_true rfl) dX12_oneTest_175 (fun G9 H locs hq hB => ?_)
                obtain ⟨hm, xp91⟩ := hq
                obtain ⟨G92, hG9⟩ : ∃ g, g = G9 := ⟨_, rfl⟩
                rw [← hG9] at hm hB xp91
                have hM := hM.stp hm (by decide)
                obtain ⟨g93, r94, a_h0, f_g93⟩ := hm.ex a_h0
                have hL : iv_pr (0) 1 h0 G G92 := (hL.lay xp91 a_q90 hx_q90).wk (by decide)
                have hC95 := hC80.op xp83 hC89 xp91 a_q81 a_q90 hx_q81 (by decide)
                refine lv_iconst (v := 1) hx hb dX12_oneTest_178 (by decide) ?_
                exact iv_zret X hr hlocks hB (q_1.wk (by decide)) ⟨hM, (q_1.wk (by decide)), ⟨((hP.tr hL).wk (by decide)), fun _ => hC95⟩⟩ dX12_oneTest_179
              · skip
                have i95_x82 : iv_R 0 0 x82 := (i_x82.cutHi (n := 0) (iv_eq_r c87 q_0).2)
                refine lv_iconst (v := 0) hx hb dX12_oneTest_170 (by decide) ?_
                exact iv_zret X hr hlocks hB (q_0.wk (by decide)) ⟨hM, (q_0.wk (by decide)), ⟨((hP.tr hL).wk (by decide)), fun h => absurd (iv_z q_0) h⟩⟩ dX12_oneTest_171
            · skip
              exact (q_27.cutHi (n := (-1)) (iv_eq_r c74 q_n1).2).no (by decide)
        · skip
          have i96_x5 : iv_R 0 0 x5 := (i_x5.cutHi (n := 0) (iv_eq_r c10 q_0).2)
          refine lv_iconst (v := 0) hx hb dX12_oneTest_99 (by decide) ?_
          exact iv_zret X hr hlocks hB (q_0.wk (by decide)) ⟨hM, (q_0.wk (by decide)), ⟨((hP.tr hL).wk (by decide)), fun h => absurd (iv_z q_0) h⟩⟩ dX12_oneTest_100
      · skip
        have i97_x1 : iv_R 140 140 x1 := ((i_x1.cutLo (n := 140) (iv_eq_r c3 q_140).1).cutHi (n := 140) (iv_eq_r c3 q_140).2)
        refine lv_aload_n hx hb dX12_oneTest_54 rfl (lv_at hl 0 rfl) ?_
        have a_q99 := a_h0
        have hx_q99 := iv_get64 hB a_h0
        have hs_q99 := iv_s18 hB a_h0
        refine iv_cVi X k_good k_mf_X12_opens k_im_X12_opens k_sel_X12_opens k_ml_X12_215 ft_X12 hB a_h0 sh_12 (As := []) (c_X12_opens l D tys base G h0 g_h0 r_h0 a_h0 (hL.J a_lb a_h0) (by rw [← e_x1]; exact Int.le_trans (by decide) i97_x1.1)) ⟨rfl, rfl⟩ ⟨by dsimp only; omega, by dsimp only; omega⟩ ⟨Nat.le_of_ble_eq_true rfl, Nat.le_of_ble_eq_true rfl⟩ rfl rfl hl.1 (Nat.le_of_ble_eq_true rfl) dX12_oneTest_55 (fun x100 G9 H locs hq hB => ?_)
        obtain ⟨hm, i_x100, xp101⟩ := hq
        obtain ⟨G102, hG9⟩ : ∃ g, g = G9 := ⟨_, rfl⟩
        rw [← hG9] at hm hB xp101
        have hM := hM.stp hm (by decide)
        obtain ⟨g103, r104, a_h0, f_g103⟩ := hm.ex a_h0
        have hLp_x100 := hL
        have hL : iv_pr (0) 0 h0 G G102 := (hL.tr xp101.1).wk (by decide)
        refine lv_if_eq (tgt := 78) hx hb dX12_oneTest_58 (by decide) (fun c105 => ?_) (fun c105 => ?_)
        · skip
          have i105_x100 : iv_R 0 0 x100 := (i_x100.cutHi (n := 0) (iv_eq_r c105 q_0).2)
          refine lv_iconst (v := 0) hx hb dX12_oneTest_78 (by decide) ?_
          exact iv_zret X hr hlocks hB (q_0.wk (by decide)) ⟨hM, (q_0.wk (by decide)), ⟨((hP.tr hL).wk (by decide)), fun h => absurd (iv_z q_0) h⟩⟩ dX12_oneTest_79
        · skip
          have i106_x100 : iv_R 1 1 x100 := iv_ne_lo c105 i_x100 q_0 (by decide)
          have hL : iv_pr (1) 0 h0 G G102 := (hLp_x100.tr (xp101.2.2 c105)).wk (by decide)
          refine lv_aload_n hx hb dX12_oneTest_61 rfl (lv_at hl 0 rfl) ?_
          have a_q108 := a_h0
          have hx_q108 := iv_get64 hB a_h0
          have hs_q108 := iv_s18 hB a_h0
          refine iv_cVi X k_good k_mf_X12_any k_im_X12_any k_sel_X12_any k_ml_X12_218 ft_X12 hB a_h0 sh_12 (As := []) (c_X12_any_h l D tys base d ih G102 h0 g103 r104 a_h0 (hL.J a_lb a_h0) (hL.le (by decide) a_lb a_h0 hE) (iv_s18 hB a_h0).1.2 (by have w1 := (hP.tr hL).gt (by decide) a_st a_h0; omega)) ⟨rfl, rfl⟩ ⟨by dsimp only; omega, by dsimp only; omega⟩ ⟨Nat.le_of_ble_eq_true rfl, Nat.le_of_ble_eq_true rfl⟩ rfl rfl hl.1 (Nat.le_of_ble_eq_true rfl) dX12_oneTest_62 (fun x109 G9 H locs hq hB => ?_)
          obtain ⟨hm, i_x109, xp110⟩ := hq
          obtain ⟨G111, hG9⟩ : ∃ g, g = G9 := ⟨_, rfl⟩
          rw [← hG9] at hm hB xp110
          have hM := hM.stp hm (by decide)
          obtain ⟨g112, r113, a_h0, f_g112⟩ := hm.ex a_h0
          have hL : iv_pr (1) 0 h0 G G111 := (hL.tr xp110.1).wk (by decide)
          refine lv_if_eq (tgt := 78) hx hb dX12_oneTest_65 (by decide) (fun c114 => ?_) (fun c114 => ?_)
          · skip
            have i114_x109 : iv_R 0 0 x109 := (i_x109.cutHi (n := 0) (iv_eq_r c114 q_0).2)
            refine lv_iconst (v := 0) hx hb dX12_oneTest_78 (by decide) ?_
            exact iv_zret X hr hlocks hB (q_0.wk (by decide)) ⟨hM, (q_0.wk (by decide)), ⟨((hP.tr hL).wk (by decide)), fun h => absurd (iv_z q_0) h⟩⟩ dX12_oneTest_79
          · skip
            have i115_x109 : iv_R 1 1 x109 := iv_ne_lo c114 i_x109 q_0 (by decide)
            have hC117 := xp110.2 c114
            refine lv_aload_n hx hb dX12_oneTest_68 rfl (lv_at hl 0 rfl) ?_
            refine lv_sipush (v := 141) hx hb dX12_oneTest_69 (by decide) ?_
            have a_q118 := a_h0
            have hx_q118 := iv_get64 hB a_h0
            have hs_q118 := iv_s18 hB a_h0
            refine iv_cVi X k_good k_mf_X12_need k_im_X12_need k_sel_X12_need k_ml_X12_221 ft_X12 hB a_h0 sh_12 (As := [.int 141]) (c_X12_need l D tys base G111 h0 g112 r113 a_h0 141 (q_141.wk (by decide)) (hL.J a_lb a_h0)) ⟨rfl, rfl⟩ ⟨by dsimp only; omega, by dsimp only; omega⟩ ⟨Nat.le_of_ble_eq_true rfl, Nat.le_of_ble_eq_true rfl⟩ rfl rfl hl.1 (Nat.le_of_ble_eq_true rfl) dX12_oneTest_72 (fun x119 G9 H locs hq hB => ?_)
            obtain ⟨hm, i_x119, xp120⟩ := hq
            obtain ⟨G121, hG9⟩ : ∃ g, g = G9 := ⟨_, rfl⟩
            rw [← hG9] at hm hB xp120
            have hM := hM.stp (iv_MdT.of hm) (by decide)
            obtain ⟨g122, r123, a_h0, f_g122⟩ := hm.ex a_h0
            have hLp_x119 := hL
            have hL : iv_pr (1) 0 h0 G G121 := (hL.tr xp120.1).wk (by decide)
            have hC124 := hC117.keep hm a_q118 hx_q118
            refine lv_if_ne (tgt := 80) hx hb dX12_oneTest_75 (by decide) (fun c125 => ?_) (fun c125 => ?_)
            · skip
              have i125_x119 : iv_R 1 1 x119 := iv_ne_lo c125 i_x119 q_0 (by decide)
              have hL : iv_pr (2) 0 h0 G G121 := (hLp_x119.tr (xp120.2 c125)).wk (by decide)
              refine lv_aload_n hx hb dX12_oneTest_80 rfl (lv_at hl 0 rfl) ?_
              refine lv_dup hx hb dX12_oneTest_81 rfl ?_
              refine iv_geti X ft_X12 hB a_h0 sh_12 23 (by decide) rfl k_fl_X12_195 dX12_oneTest_82 (fun x127 e_x127 i_x127 => ?_)
              refine lv_iconst (v := 1) hx hb dX12_oneTest_85 (by decide) ?_
              refine lv_isub hx hb dX12_oneTest_86 ?_
              refine lv_topi (fun x128 e_x128 => ?_)
              have i_x128 := iv_R.all x128
              refine iv_puti X ft_X12 hB a_h0 sh_12 23 (by decide) rfl rfl k_fl_X12_195 rfl i_x128 rfl rfl dX12_oneTest_87 (fun H locs hB => ?_)
              have hm := iv_MdT.put (x := x128) a_h0 (j := 23) (by decide)
              have h9 := iv_up_eq (G := G121) (a := h0) (k := (12, upd g122 23 x128, r123))
              have hL := hL.put (x := x128) a_h0 (j := 23) (by decide)
              have hC130 := hC124.put (x := x128) a_h0 (j := 23) (by decide)
              generalize iv_up G121 h0 _ = G129 at hB hm h9 hL hC130
              have hM := hM.stp hm (by decide)
              generalize hgn_g131 : upd g122 _ _ = g131 at h9
              have a_h0 := h9
              have e9_g131 : x128 = g131 23 := by rw [← hgn_g131]; simp [upd]
              refine lv_iconst (v := 1) hx hb dX12_oneTest_90 (by decide) ?_
              exact iv_zret X hr hlocks hB (q_1.wk (by decide)) ⟨hM, (q_1.wk (by decide)), ⟨((hP.tr hL).wk (by decide)), fun _ => iv_cd.fr xp101.2.1 xp101.1 hC130⟩⟩ dX12_oneTest_91
            · skip
              have i131_x119 : iv_R 0 0 x119 := (i_x119.cutHi (n := 0) (iv_eq_r c125 q_0).2)
              refine lv_iconst (v := 0) hx hb dX12_oneTest_78 (by decide) ?_
              exact iv_zret X hr hlocks hB (q_0.wk (by decide)) ⟨hM, (q_0.wk (by decide)), ⟨((hP.tr hL).wk (by decide)), fun h => absurd (iv_z q_0) h⟩⟩ dX12_oneTest_79
    · skip
      have i132_x1 : iv_R 6 6 x1 := ((i_x1.cutLo (n := 6) (iv_eq_r c2 q_6).1).cutHi (n := 6) (iv_eq_r c2 q_6).2)
      refine lv_aload_n hx hb dX12_oneTest_9 rfl (lv_at hl 0 rfl) ?_
      have a_q134 := a_h0
      have hx_q134 := iv_get64 hB a_h0
      have hs_q134 := iv_s18 hB a_h0
      refine iv_cVi X k_good k_mf_X12_opens k_im_X12_opens k_sel_X12_opens k_ml_X12_215 ft_X12 hB a_h0 sh_12 (As := []) (c_X12_opens l D tys base G h0 g_h0 r_h0 a_h0 (hL.J a_lb a_h0) (by rw [← e_x1]; exact Int.le_trans (by decide) i132_x1.1)) ⟨rfl, rfl⟩ ⟨by dsimp only; omega, by dsimp only; omega⟩ ⟨Nat.le_of_ble_eq_true rfl, Nat.le_of_ble_eq_true rfl⟩ rfl rfl hl.1 (Nat.le_of_ble_eq_true rfl) dX12_oneTest_10 (fun x135 G9 H locs hq hB => ?_)
      obtain ⟨hm, i_x135, xp136⟩ := hq
      obtain ⟨G137, hG9⟩ : ∃ g, g = G9 := ⟨_, rfl⟩
      rw [← hG9] at hm hB xp136
      have hM := hM.stp hm (by decide)
      obtain ⟨g138, r139, a_h0, f_g138⟩ := hm.ex a_h0
      have hLp_x135 := hL
      have hL : iv_pr (0) 0 h0 G G137 := (hL.tr xp136.1).wk (by decide)
      refine lv_if_eq (tgt := 23) hx hb dX12_oneTest_13 (by decide) (fun c140 => ?_) (fun c140 => ?_)
      · skip
        have i140_x135 : iv_R 0 0 x135 := (i_x135.cutHi (n := 0) (iv_eq_r c140 q_0).2)
        refine lv_iconst (v := 0) hx hb dX12_oneTest_23 (by decide) ?_
        exact iv_zret X hr hlocks hB (q_0.wk (by decide)) ⟨hM, (q_0.wk (by decide)), ⟨((hP.tr hL).wk (by decide)), fun h => absurd (iv_z q_0) h⟩⟩ dX12_oneTest_24
      · skip
        have i141_x135 : iv_R 1 1 x135 := iv_ne_lo c140 i_x135 q_0 (by decide)
        have hL : iv_pr (1) 0 h0 G G137 := (hLp_x135.tr (xp136.2.2 c140)).wk (by decide)
        refine lv_aload_n hx hb dX12_oneTest_16 rfl (lv_at hl 0 rfl) ?_
        have a_q143 := a_h0
        have hx_q143 := iv_get64 hB a_h0
        have hs_q143 := iv_s18 hB a_h0
        refine iv_cVi X k_good k_mf_X12_oneTest k_im_X12_oneTest k_sel_X12_oneTest k_ml_X12_212 ft_X12 hB a_h0 sh_12 (As := []) (ih G137 h0 g138 r139 a_h0 (hL.J a_lb a_h0) (hL.le (by decide) a_lb a_h0 hE) (iv_s18 hB a_h0).1.2 (by have w1 := (hP.tr hL).gt (by decide) a_st a_h0; omega)) ⟨rfl, rfl⟩ ⟨by dsimp only; omega, by dsimp only; omega⟩ ⟨Nat.le_of_ble_eq_true rfl, Nat.le_of_ble_eq_true rfl⟩ rfl rfl hl.1 (Nat.le_of_ble_eq_true rfl) dX12_oneTest_17 (fun x144 G9 H locs hq hB => ?_)
        obtain ⟨hm, i_x144, xp145⟩ := hq
        obtain ⟨G146, hG9⟩ : ∃ g, g = G9 := ⟨_, rfl⟩
        rw [← hG9] at hm hB xp145
        have hM := hM.stp hm (by decide)
        obtain ⟨g147, r148, a_h0, f_g147⟩ := hm.ex a_h0
        have hL : iv_pr (1) 0 h0 G G146 := (hL.tr xp145.1).wk (by decide)
        refine lv_if_ne (tgt := 25) hx hb dX12_oneTest_20 (by decide) (fun c149 => ?_) (fun c149 => ?_)
        · skip
          have i149_x144 : iv_R 1 1 x144 := iv_ne_lo c149 i_x144 q_0 (by decide)
          have hC151 := xp145.2 c149
          refine lv_aload_n hx hb dX12_oneTest_25 rfl (lv_at hl 0 rfl) ?_
          refine lv_dup hx hb dX12_oneTest_26 rfl ?_
          refine iv_geti X ft_X12 hB a_h0 sh_12 23 (by decide) rfl k_fl_X12_195 dX12_oneTest_27 (fun x152 e_x152 i_x152 => ?_)
          refine lv_iconst (v := 1) hx hb dX12_oneTest_30 (by decide) ?_
          refine lv_isub hx hb dX12_oneTest_31 ?_
          refine lv_topi (fun x153 e_x153 => ?_)
          have i_x153 := iv_R.all x153
          refine iv_puti X ft_X12 hB a_h0 sh_12 23 (by decide) rfl rfl k_fl_X12_195 rfl i_x153 rfl rfl dX12_oneTest_32 (fun H locs hB => ?_)
          have hm := iv_MdT.put (x := x153) a_h0 (j := 23) (by decide)
          have h9 := iv_up_eq (G := G146) (a := h0) (k := (12, upd g147 23 x153, r148))
          have hL := hL.put (x := x153) a_h0 (j := 23) (by decide)
          have hC155 := hC151.put (x := x153) a_h0 (j := 23) (by decide)
          generalize iv_up G146 h0 _ = G154 at hB hm h9 hL hC155
          have hM := hM.stp hm (by decide)
          generalize hgn_g156 : upd g147 _ _ = g156 at h9
          have a_h0 := h9
          have e9_g156 : x153 = g156 23 := by rw [← hgn_g156]; simp [upd]
          refine lv_aload_n hx hb dX12_oneTest_35 rfl (lv_at hl 0 rfl) ?_
          refine lv_bipush (v := 30) hx hb dX12_oneTest_36 (by decide) ?_
          refine lv_iconst (v := 0) hx hb dX12_oneTest_38 (by decide) ?_
          have a_q157 := a_h0
          have hx_q157 := iv_get64 hB a_h0
          have hs_q157 := iv_s18 hB a_h0
          refine iv_cVv X k_good k_mf_X12_lay k_im_X12_lay k_sel_X12_lay k_ml_X12_202 ft_X12 hB a_h0 sh_12 (As := [.int 30, .int 0]) (c_X12_lay l D tys base G154 h0 g156 r148 a_h0 (hL.ly (by decide) a_lb a_h0 hE (iv_s18 hB a_h0)) 30 (q_30.wk (by decide)) 0 (q_0.wk (by decide))) ⟨rfl, rfl⟩ ⟨by dsimp only; omega, by dsimp only; omega⟩ ⟨Nat.le_of_ble_eq_true rfl, Nat.le_of_ble_eq_true rfl⟩ rfl rfl hl.1 (Nat.le_of_ble_eq_true rfl) dX12_oneTest_39 (fun G9 H locs hq hB => ?_)
          obtain ⟨hm, xp158⟩ := hq
          obtain ⟨G159, hG9⟩ : ∃ g, g = G9 := ⟨_, rfl⟩
          rw [← hG9] at hm hB xp158
          have hM := hM.stp hm (by decide)
          obtain ⟨g160, r161, a_h0, f_g160⟩ := hm.ex a_h0
          have hL : iv_pr (0) 1 h0 G G159 := (hL.lay xp158 a_q157 hx_q157).wk (by decide)
          have hC162 := hC155.un xp158 a_q157 hx_q157 (Or.inr (by decide))
          refine lv_iconst (v := 1) hx hb dX12_oneTest_42 (by decide) ?_
          exact iv_zret X hr hlocks hB (q_1.wk (by decide)) ⟨hM, (q_1.wk (by decide)), ⟨((hP.tr hL).wk (by decide)), fun _ => iv_cd.fr xp136.2.1 xp136.1 hC162⟩⟩ dX12_oneTest_43
        · skip
          have i162_x144 : iv_R 0 0 x144 := (i_x144.cutHi (n := 0) (iv_eq_r c149 q_0).2)
          refine lv_iconst (v := 0) hx hb dX12_oneTest_23 (by decide) ?_
          exact iv_zret X hr hlocks hB (q_0.wk (by decide)) ⟨hM, (q_0.wk (by decide)), ⟨((hP.tr hL).wk (by decide)), fun h => absurd (iv_z q_0) h⟩⟩ dX12_oneTest_24
theorem c_X12_any (l : Launch) (D : va_G) (tys : List (ClassId × FieldType)) (base : Nat) (G : iv_G) (h0 : Nat) (g_h0 : Nat → Int32) (r_h0 : Nat → Nat) (a_h0 : G h0 = some (12, g_h0, r_h0)) (hJ : iv_J g_h0) (hE0 : (g_h0 13).toInt ≤ (g_h0 18).toInt) (h18 : (g_h0 18).toInt ≤ 400) (h0x : 0 ≤ (g_h0 18).toInt) : Met l yX12_any (Cond.code yX12_any cX12_any 1 (some .boolean) :: iv_W0) ({ frames := 1217, cells := 0, slots := 0, locals := 24756 }) (iv_Pc iv_sh D classes tys base G [.ref h0]) (iv_Qi iv_sh D classes tys base (fun v G' => iv_MdT [12, 64] G G' ∧ iv_R 0 1 v ∧ iv_pr 0 0 h0 G G' ∧ (¬ v = 0 → iv_cd h0 G G'))) 0 0 (iv_A base) := c_X12_any_h l D tys base 401 (c_X12_oneTest_rec l D tys base 401) G h0 g_h0 r_h0 a_h0 hJ hE0 h18 (by omega)
