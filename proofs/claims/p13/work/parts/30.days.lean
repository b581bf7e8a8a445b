theorem dX12_aDay_0 : decode cX12_aDay 0 = .ok (.iconst 0, 1) := by decide +kernel
theorem dX12_aDay_1 : decode cX12_aDay 1 = .ok (.istore_n 1, 1) := by decide +kernel
theorem dX12_aDay_2 : decode cX12_aDay 2 = .ok (.iconst 0, 1) := by decide +kernel
theorem dX12_aDay_3 : decode cX12_aDay 3 = .ok (.istore_n 2, 1) := by decide +kernel
theorem dX12_aDay_4 : decode cX12_aDay 4 = .ok (.iload_n 2, 1) := by decide +kernel
theorem dX12_aDay_5 : decode cX12_aDay 5 = .ok (.aload_n 0, 1) := by decide +kernel
theorem dX12_aDay_6 : decode cX12_aDay 6 = .ok (.getfield 7, 3) := by decide +kernel
theorem dX12_aDay_9 : decode cX12_aDay 9 = .ok (.sipush 146, 3) := by decide +kernel
theorem dX12_aDay_12 : decode cX12_aDay 12 = .ok (.iaload, 1) := by decide +kernel
theorem dX12_aDay_13 : decode cX12_aDay 13 = .ok (.if_icmp .ge 29, 3) := by decide +kernel
theorem dX12_aDay_16 : decode cX12_aDay 16 = .ok (.iload_n 1, 1) := by decide +kernel
theorem dX12_aDay_17 : decode cX12_aDay 17 = .ok (.aload_n 0, 1) := by decide +kernel
theorem dX12_aDay_18 : decode cX12_aDay 18 = .ok (.iload_n 2, 1) := by decide +kernel
theorem dX12_aDay_19 : decode cX12_aDay 19 = .ok (.invokevirtual 353, 3) := by decide +kernel
theorem dX12_aDay_22 : decode cX12_aDay 22 = .ok (.ifCond .eq 11, 3) := by decide +kernel
theorem dX12_aDay_25 : decode cX12_aDay 25 = .ok (.aload_n 0, 1) := by decide +kernel
theorem dX12_aDay_26 : decode cX12_aDay 26 = .ok (.iload_n 2, 1) := by decide +kernel
theorem dX12_aDay_27 : decode cX12_aDay 27 = .ok (.invokevirtual 365, 3) := by decide +kernel
theorem dX12_aDay_30 : decode cX12_aDay 30 = .ok (.goto 4, 3) := by decide +kernel
theorem dX12_aDay_33 : decode cX12_aDay 33 = .ok (.iconst 0, 1) := by decide +kernel
theorem dX12_aDay_34 : decode cX12_aDay 34 = .ok (.iadd, 1) := by decide +kernel
theorem dX12_aDay_35 : decode cX12_aDay 35 = .ok (.istore_n 1, 1) := by decide +kernel
theorem dX12_aDay_36 : decode cX12_aDay 36 = .ok (.iinc 2 1, 3) := by decide +kernel
theorem dX12_aDay_39 : decode cX12_aDay 39 = .ok (.goto (-35), 3) := by decide +kernel
theorem dX12_aDay_42 : decode cX12_aDay 42 = .ok (.aload_n 0, 1) := by decide +kernel
theorem dX12_aDay_43 : decode cX12_aDay 43 = .ok (.getfield 7, 3) := by decide +kernel
theorem dX12_aDay_46 : decode cX12_aDay 46 = .ok (.sipush 148, 3) := by decide +kernel
theorem dX12_aDay_49 : decode cX12_aDay 49 = .ok (.iaload, 1) := by decide +kernel
theorem dX12_aDay_50 : decode cX12_aDay 50 = .ok (.ifCond .le 55, 3) := by decide +kernel
theorem dX12_aDay_53 : decode cX12_aDay 53 = .ok (.aload_n 0, 1) := by decide +kernel
theorem dX12_aDay_54 : decode cX12_aDay 54 = .ok (.getfield 7, 3) := by decide +kernel
theorem dX12_aDay_57 : decode cX12_aDay 57 = .ok (.iconst 1, 1) := by decide +kernel
theorem dX12_aDay_58 : decode cX12_aDay 58 = .ok (.aload_n 0, 1) := by decide +kernel
theorem dX12_aDay_59 : decode cX12_aDay 59 = .ok (.sipush 1000, 3) := by decide +kernel
theorem dX12_aDay_62 : decode cX12_aDay 62 = .ok (.invokevirtual 350, 3) := by decide +kernel
theorem dX12_aDay_65 : decode cX12_aDay 65 = .ok (.aload_n 0, 1) := by decide +kernel
theorem dX12_aDay_66 : decode cX12_aDay 66 = .ok (.getfield 7, 3) := by decide +kernel
theorem dX12_aDay_69 : decode cX12_aDay 69 = .ok (.sipush 148, 3) := by decide +kernel
theorem dX12_aDay_72 : decode cX12_aDay 72 = .ok (.iaload, 1) := by decide +kernel
theorem dX12_aDay_73 : decode cX12_aDay 73 = .ok (.if_icmp .ge 19, 3) := by decide +kernel
theorem dX12_aDay_76 : decode cX12_aDay 76 = .ok (.bipush 9, 2) := by decide +kernel
theorem dX12_aDay_78 : decode cX12_aDay 78 = .ok (.aload_n 0, 1) := by decide +kernel
theorem dX12_aDay_79 : decode cX12_aDay 79 = .ok (.getfield 7, 3) := by decide +kernel
theorem dX12_aDay_82 : decode cX12_aDay 82 = .ok (.iconst 1, 1) := by decide +kernel
theorem dX12_aDay_83 : decode cX12_aDay 83 = .ok (.iaload, 1) := by decide +kernel
theorem dX12_aDay_84 : decode cX12_aDay 84 = .ok (.iconst 1, 1) := by decide +kernel
theorem dX12_aDay_85 : decode cX12_aDay 85 = .ok (.iadd, 1) := by decide +kernel
theorem dX12_aDay_86 : decode cX12_aDay 86 = .ok (.invokestatic 275, 3) := by decide +kernel
theorem dX12_aDay_89 : decode cX12_aDay 89 = .ok (.goto 15, 3) := by decide +kernel
theorem dX12_aDay_92 : decode cX12_aDay 92 = .ok (.iconst 0, 1) := by decide +kernel
theorem dX12_aDay_93 : decode cX12_aDay 93 = .ok (.aload_n 0, 1) := by decide +kernel
theorem dX12_aDay_94 : decode cX12_aDay 94 = .ok (.getfield 7, 3) := by decide +kernel
theorem dX12_aDay_97 : decode cX12_aDay 97 = .ok (.iconst 1, 1) := by decide +kernel
theorem dX12_aDay_98 : decode cX12_aDay 98 = .ok (.iaload, 1) := by decide +kernel
theorem dX12_aDay_99 : decode cX12_aDay 99 = .ok (.iconst 1, 1) := by decide +kernel
theorem dX12_aDay_100 : decode cX12_aDay 100 = .ok (.isub, 1) := by decide +kernel
theorem dX12_aDay_101 : decode cX12_aDay 101 = .ok (.invokestatic 279, 3) := by decide +kernel
theorem dX12_aDay_104 : decode cX12_aDay 104 = .ok (.iastore, 1) := by decide +kernel
theorem dX12_aDay_105 : decode cX12_aDay 105 = .ok (.aload_n 0, 1) := by decide +kernel
theorem dX12_aDay_106 : decode cX12_aDay 106 = .ok (.getfield 7, 3) := by decide +kernel
theorem dX12_aDay_109 : decode cX12_aDay 109 = .ok (.iconst 0, 1) := by decide +kernel
theorem dX12_aDay_110 : decode cX12_aDay 110 = .ok (.dup2, 1) := by decide +kernel
theorem dX12_aDay_111 : decode cX12_aDay 111 = .ok (.iaload, 1) := by decide +kernel
theorem dX12_aDay_112 : decode cX12_aDay 112 = .ok (.iconst 1, 1) := by decide +kernel
theorem dX12_aDay_113 : decode cX12_aDay 113 = .ok (.iadd, 1) := by decide +kernel
theorem dX12_aDay_114 : decode cX12_aDay 114 = .ok (.iastore, 1) := by decide +kernel
theorem dX12_aDay_115 : decode cX12_aDay 115 = .ok (.iload_n 1, 1) := by decide +kernel
theorem dX12_aDay_116 : decode cX12_aDay 116 = .ok (.ireturn, 1) := by decide +kernel
set_option maxHeartbeats 4000000 in
set_option maxRecDepth 100000 in
theorem c_X12_aDay (l : Launch) (D : va_G) (tys : List (ClassId × FieldType)) (base : Nat) (G : iv_G) (h0 : Nat) (g_h0 : Nat → Int32) (r_h0 : Nat → Nat) (a_h0 : G h0 = some (12, g_h0, r_h0)) : Met l yX12_aDay (Cond.code yX12_aDay cX12_aDay 3 (some .int) :: iv_W0) ({ frames := 11, cells := 0, slots := 0, locals := 257 }) (iv_Pc iv_sh D classes tys base G [.ref h0]) (iv_Qi iv_sh D classes tys base (fun v G' => iv_Md [60, 67, 68] G G' ∧ iv_R (-2147483648) 2147483647 v)) 0 0 (iv_A base) := by
  refine iv_head (by decide) (Nat.le_of_ble_eq_true rfl) ?_
  intro p e s m args below meth c ls X hr hlocks hname hB hl
  have X := X
  have hx := X.1.1
  have hb := X.1.2.1
  have hM : iv_Md [60, 67, 68] G G := iv_Md.rf
  have hl : lv_has ls 3 [(0, .ref h0)] := hl
  refine lv_iconst (v := 0) hx hb dX12_aDay_0 (by decide) ?_
  refine lv_istore_n (lv' := [(1, .int 0), (0, .ref h0)]) hx hb dX12_aDay_1 rfl hl (by decide) rfl (fun ls hl => ?_)
  refine lv_iconst (v := 0) hx hb dX12_aDay_2 (by decide) ?_
  refine lv_istore_n (lv' := [(2, .int 0), (1, .int 0), (0, .ref h0)]) hx hb dX12_aDay_3 rfl hl (by decide) rfl (fun ls hl => ?_)
  have L_4 : ∀ (n_4 : Nat) (G3 : iv_G) (hM : iv_Md [60, 67, 68] G G3) (H : Heap) (locs : List Loc) (hB : iv_B iv_sh D classes tys base G3 s.heap H locs) (a_h0 : G3 h0 = some (12, g_h0, r_h0)) (x1 : Int32) (i_x1 : iv_R (-2147483648) 2147483647 x1) (x2 : Int32) (i_x2 : iv_R 0 10 x2) (hn_4 : (11 - x2.toInt).toNat < n_4) (ls : Array Slot) (hl : lv_has ls 3 [(2, .int x2), (1, .int x1), (0, .ref h0)]), W p l e ({ frames := 11, cells := 0, slots := 0, locals := 257 } : Room) s m args below meth c H locs 0 0 (MQ below (iv_Qi iv_sh D classes tys base (fun v G' => iv_Md [60, 67, 68] G G' ∧ iv_R (-2147483648) 2147483647 v)) args s 0 0 (iv_A base)) (F0 m 4 ls []) := by
    intro n_4
    induction n_4 with
    | zero => intro G3 hM H locs hB a_h0 x1 i_x1 x2 i_x2 hn_4 ls hl; exact absurd hn_4 (Nat.not_lt_zero _)
    | succ n_4 ih_4 =>
      intro G3 hM H locs hB a_h0 x1 i_x1 x2 i_x2 hn_4 ls hl
      refine lv_iload_n hx hb dX12_aDay_4 rfl (lv_at hl 0 rfl) ?_
      refine lv_aload_n hx hb dX12_aDay_5 rfl (lv_at hl 2 rfl) ?_
      refine iv_getr X ft_X12 hB a_h0 sh_12 0 (by decide) rfl k_fl_X12_7 dX12_aDay_6 (fun b4 g_b4 r_b4 e_b4 a_b4 => ?_)
      refine lv_sipush (v := 146) hx hb dX12_aDay_9 (by decide) ?_
      refine iv_wald_c X hB a_b4 q_146 (by decide) (lo := 0) (hi' := 10) (by decide) dX12_aDay_12 (fun x5 e_x5 i_x5 => ?_)
      refine lv_icmp_ge (tgt := 42) hx hb dX12_aDay_13 (by decide) (fun c6 => ?_) (fun c6 => ?_)
      · skip
        refine lv_aload_n hx hb dX12_aDay_42 rfl (lv_at hl 2 rfl) ?_
        refine iv_getr0 X ft_X12 hB a_h0 sh_12 0 (by decide) rfl k_fl_X12_7 dX12_aDay_43 e_b4 ?_
        refine lv_sipush (v := 148) hx hb dX12_aDay_46 (by decide) ?_
        refine iv_wald_c X hB a_b4 q_148 (by decide) (lo := (-2147483648)) (hi' := 2147483647) (by decide) dX12_aDay_49 (fun x7 e_x7 i_x7 => ?_)
        refine lv_if_le (tgt := 105) hx hb dX12_aDay_50 (by decide) (fun c8 => ?_) (fun c8 => ?_)
        · skip
          have i8_x7 : iv_R (-2147483648) 0 x7 := (i_x7.cutHi (n := 0) (iv_le_r c8 q_0))
          refine lv_aload_n hx hb dX12_aDay_105 rfl (lv_at hl 2 rfl) ?_
          refine iv_getr0 X ft_X12 hB a_h0 sh_12 0 (by decide) rfl k_fl_X12_7 dX12_aDay_106 e_b4 ?_
          refine lv_iconst (v := 0) hx hb dX12_aDay_109 (by decide) ?_
          refine lv_dup2_11 hx hb dX12_aDay_110 rfl rfl ?_
          refine iv_wald_c X hB a_b4 q_0 (by decide) (lo := (-2147483648)) (hi' := 2147483647) (by decide) dX12_aDay_111 (fun x10 e_x10 i_x10 => ?_)
          refine lv_iconst (v := 1) hx hb dX12_aDay_112 (by decide) ?_
          refine lv_iadd hx hb dX12_aDay_113 ?_
          refine lv_topi (fun x11 e_x11 => ?_)
          have i_x11 := iv_R.all x11
          refine iv_wast_c X hB a_b4 q_0 (by decide) (lo := (-2147483648)) (hi' := 2147483647) (by decide) i_x11 dX12_aDay_114 (fun H locs hB => ?_)
          have hB : iv_B iv_sh D classes tys base (iv_up G3 b4 (60, upd g_b4 0 x11, r_b4)) s.heap H locs := hB
          have hm := iv_Md.put (x := x11) a_b4 (j := 0) (by decide) (fun h => absurd h (by decide))
          have h9 := iv_up_eq (G := G3) (a := b4) (k := (60, upd g_b4 0 x11, r_b4))
          generalize iv_up G3 b4 _ = G12 at hB hm h9
          have hM := hM.stp hm (by decide)
          generalize hgn_g13 : upd g_b4 _ _ = g13 at h9
          have a_h0 := hm.at a_h0 (by decide)
          have a_b4 := h9
          have e14 : x5 = g13 146 := by rw [← hgn_g13]; exact e_x5.trans (iv_updne (by decide))
          have e15 : x7 = g13 148 := by rw [← hgn_g13]; exact e_x7.trans (iv_updne (by decide))
          have e16 : x11 = g13 0 := by rw [← hgn_g13]; simp [upd]
          refine lv_iload_n hx hb dX12_aDay_115 rfl (lv_at hl 1 rfl) ?_
          exact iv_iret X hr hlocks hB ⟨hM, i_x1⟩ dX12_aDay_116
        · skip
          have i16_x7 : iv_R 1 2147483647 x7 := (i_x7.cutLo (n := 1) (iv_lt_l (iv_nle c8) q_0 (by decide)))
          refine lv_aload_n hx hb dX12_aDay_53 rfl (lv_at hl 2 rfl) ?_
          refine iv_getr0 X ft_X12 hB a_h0 sh_12 0 (by decide) rfl k_fl_X12_7 dX12_aDay_54 e_b4 ?_
          refine lv_iconst (v := 1) hx hb dX12_aDay_57 (by decide) ?_
          refine lv_aload_n hx hb dX12_aDay_58 rfl (lv_at hl 2 rfl) ?_
          refine lv_sipush (v := 1000) hx hb dX12_aDay_59 (by decide) ?_
          refine iv_cVi X k_good k_mf_X12_draw k_im_X12_draw k_sel_X12_draw k_ml_X12_350 ft_X12 hB a_h0 sh_12 (As := [.int 1000]) (c_X12_draw l D tys base G3 h0 g_h0 r_h0 a_h0 1000 q_1000) ⟨rfl, rfl⟩ ⟨Nat.le_of_ble_eq_true rfl, Nat.le_of_ble_eq_true rfl⟩ ⟨Nat.le_of_ble_eq_true rfl, Nat.le_of_ble_eq_true rfl⟩ rfl rfl hl.1 (Nat.le_of_ble_eq_true rfl) dX12_aDay_62 (fun x18 G9 H locs hq hB => ?_)
          obtain ⟨hm, i_x18⟩ := hq
          obtain ⟨G19, hG9⟩ : ∃ g, g = G9 := ⟨_, rfl⟩
          rw [← hG9] at hm hB
          have hM := hM.stp hm (by decide)
          have a_h0 := hm.at a_h0 (by decide)
          obtain ⟨g20, r21, a_b4, f_g20⟩ := hm.ex a_b4
          refine lv_aload_n hx hb dX12_aDay_65 rfl (lv_at hl 2 rfl) ?_
          refine iv_getr0 X ft_X12 hB a_h0 sh_12 0 (by decide) rfl k_fl_X12_7 dX12_aDay_66 e_b4 ?_
          refine lv_sipush (v := 148) hx hb dX12_aDay_69 (by decide) ?_
          refine iv_wald_c X hB a_b4 q_148 (by decide) (lo := (-2147483648)) (hi' := 2147483647) (by decide) dX12_aDay_72 (fun x22 e_x22 i_x22 => ?_)
          refine lv_icmp_ge (tgt := 92) hx hb dX12_aDay_73 (by decide) (fun c23 => ?_) (fun c23 => ?_)
          · skip
            have i23_x22 : iv_R (-2147483648) 999 x22 := (i_x22.cutHi (n := 999) (iv_le_r c23 i_x18))
            refine lv_iconst (v := 0) hx hb dX12_aDay_92 (by decide) ?_
            refine lv_aload_n hx hb dX12_aDay_93 rfl (lv_at hl 2 rfl) ?_
            refine iv_getr0 X ft_X12 hB a_h0 sh_12 0 (by decide) rfl k_fl_X12_7 dX12_aDay_94 e_b4 ?_
            refine lv_iconst (v := 1) hx hb dX12_aDay_97 (by decide) ?_
            refine iv_wald_c X hB a_b4 q_1 (by decide) (lo := (-2147483648)) (hi' := 2147483647) (by decide) dX12_aDay_98 (fun x25 e_x25 i_x25 => ?_)
            refine lv_iconst (v := 1) hx hb dX12_aDay_99 (by decide) ?_
            refine lv_isub hx hb dX12_aDay_100 ?_
            refine lv_topi (fun x26 e_x26 => ?_)
            have i_x26 := iv_R.all x26
            refine iv_cSi X k_good k_mf_X12_greater k_st_X12_greater k_ml_X12_279 hB (As := [.int 0, .int x26]) (c_X12_greater l D tys base G19 0 (q_0.wk (by decide)) x26 i_x26) ⟨rfl, rfl⟩ ⟨Nat.le_of_ble_eq_true rfl, Nat.le_of_ble_eq_true rfl⟩ ⟨Nat.le_of_ble_eq_true rfl, Nat.le_of_ble_eq_true rfl⟩ rfl rfl hl.1 (Nat.le_of_ble_eq_true rfl) dX12_aDay_101 (fun x27 G9 H locs hq hB => ?_)
            obtain ⟨rfl, i_x27⟩ := hq
            refine iv_wast_c X hB a_b4 q_1 (by decide) (lo := (-2147483648)) (hi' := 2147483647) (by decide) i_x27 dX12_aDay_104 (fun H locs hB => ?_)
            have hB : iv_B iv_sh D classes tys base (iv_up G19 b4 (60, upd g20 1 x27, r21)) s.heap H locs := hB
            have hm := iv_Md.put (x := x27) a_b4 (j := 1) (by decide) (fun h => absurd h (by decide))
            have h9 := iv_up_eq (G := G19) (a := b4) (k := (60, upd g20 1 x27, r21))
            generalize iv_up G19 b4 _ = G28 at hB hm h9
            have hM := hM.stp hm (by decide)
            generalize hgn_g29 : upd g20 _ _ = g29 at h9
            have a_h0 := hm.at a_h0 (by decide)
            have a_b4 := h9
            have e30 : x22 = g29 148 := by rw [← hgn_g29]; exact e_x22.trans (iv_updne (by decide))
            have e31 : x27 = g29 1 := by rw [← hgn_g29]; simp [upd]
            refine lv_aload_n hx hb dX12_aDay_105 rfl (lv_at hl 2 rfl) ?_
            refine iv_getr0 X ft_X12 hB a_h0 sh_12 0 (by decide) rfl k_fl_X12_7 dX12_aDay_106 e_b4 ?_
            refine lv_iconst (v := 0) hx hb dX12_aDay_109 (by decide) ?_
            refine lv_dup2_11 hx hb dX12_aDay_110 rfl rfl ?_
            refine iv_wald_c X hB a_b4 q_0 (by decide) (lo := (-2147483648)) (hi' := 2147483647) (by decide) dX12_aDay_111 (fun x32 e_x32 i_x32 => ?_)
            refine lv_iconst (v := 1) hx hb dX12_aDay_112 (by decide) ?_
            refine lv_iadd hx hb dX12_aDay_113 ?_
            refine lv_topi (fun x33 e_x33 => ?_)
            have i_x33 := iv_R.all x33
            refine iv_wast_c X hB a_b4 q_0 (by decide) (lo := (-2147483648)) (hi' := 2147483647) (by decide) i_x33 dX12_aDay_114 (fun H locs hB => ?_)
            have hB : iv_B iv_sh D classes tys base (iv_up G28 b4 (60, upd g29 0 x33, r21)) s.heap H locs := hB
            have hm := iv_Md.put (x := x33) a_b4 (j := 0) (by decide) (fun h => absurd h (by decide))
            have h9 := iv_up_eq (G := G28) (a := b4) (k := (60, upd g29 0 x33, r21))
            generalize iv_up G28 b4 _ = G34 at hB hm h9
            have hM := hM.stp hm (by decide)
            generalize hgn_g35 : upd g29 _ _ = g35 at h9
            have a_h0 := hm.at a_h0 (by decide)
            have a_b4 := h9
            have e36 : x22 = g35 148 := by rw [← hgn_g35]; exact e30.trans (iv_updne (by decide))
            have e37 : x27 = g35 1 := by rw [← hgn_g35]; exact e31.trans (iv_updne (by decide))
            have e38 : x33 = g35 0 := by rw [← hgn_g35]; simp [upd]
            refine lv_iload_n hx hb dX12_aDay_115 rfl (lv_at hl 1 rfl) ?_
            exact iv_iret X hr hlocks hB ⟨hM, i_x1⟩ dX12_aDay_116
          · skip
            have i38_x22 : iv_R (-998) 2147483647 x22 := (i_x22.cutLo (n := (-998)) (iv_lt_l (iv_nle c23) i_x18 (by decide)))
            refine lv_bipush (v := 9) hx hb dX12_aDay_76 (by decide) ?_
            refine lv_aload_n hx hb dX12_aDay_78 rfl (lv_at hl 2 rfl) ?_
            refine iv_getr0 X ft_X12 hB a_h0 sh_12 0 (by decide) rfl k_fl_X12_7 dX12_aDay_79 e_b4 ?_
            refine lv_iconst (v := 1) hx hb dX12_aDay_82 (by decide) ?_
            refine iv_wald_c X hB a_b4 q_1 (by decide) (lo := (-2147483648)) (hi' := 2147483647) (by decide) dX12_aDay_83 (fun x40 e_x40 i_x40 => ?_)
            refine lv_iconst (v := 1) hx hb dX12_aDay_84 (by decide) ?_
            refine lv_iadd hx hb dX12_aDay_85 ?_
            refine lv_topi (fun x41 e_x41 => ?_)
            have i_x41 := iv_R.all x41
            refine iv_cSi X k_good k_mf_X12_lesser k_st_X12_lesser k_ml_X12_275 hB (As := [.int 9, .int x41]) (c_X12_lesser l D tys base G19 9 (q_9.wk (by decide)) x41 i_x41) ⟨rfl, rfl⟩ ⟨Nat.le_of_ble_eq_true rfl, Nat.le_of_ble_eq_true rfl⟩ ⟨Nat.le_of_ble_eq_true rfl, Nat.le_of_ble_eq_true rfl⟩ rfl rfl hl.1 (Nat.le_of_ble_eq_true rfl) dX12_aDay_86 (fun x42 G9 H locs hq hB => ?_)
            obtain ⟨rfl, i_x42⟩ := hq
            refine lv_goto (tgt := 104) hx hb dX12_aDay_89 (by decide) ?_
            refine iv_wast_c X hB a_b4 q_1 (by decide) (lo := (-2147483648)) (hi' := 2147483647) (by decide) i_x42 dX12_aDay_104 (fun H locs hB => ?_)
            have hB : iv_B iv_sh D classes tys base (iv_up G19 b4 (60, upd g20 1 x42, r21)) s.heap H locs := hB
            have hm := iv_Md.put (x := x42) a_b4 (j := 1) (by decide) (fun h => absurd h (by decide))
            have h9 := iv_up_eq (G := G19) (a := b4) (k := (60, upd g20 1 x42, r21))
            generalize iv_up G19 b4 _ = G43 at hB hm h9
            have hM := hM.stp hm (by decide)
            generalize hgn_g44 : upd g20 _ _ = g44 at h9
            have a_h0 := hm.at a_h0 (by decide)
            have a_b4 := h9
            have e45 : x22 = g44 148 := by rw [← hgn_g44]; exact e_x22.trans (iv_updne (by decide))
            have e46 : x42 = g44 1 := by rw [← hgn_g44]; simp [upd]
            refine lv_aload_n hx hb dX12_aDay_105 rfl (lv_at hl 2 rfl) ?_
            refine iv_getr0 X ft_X12 hB a_h0 sh_12 0 (by decide) rfl k_fl_X12_7 dX12_aDay_106 e_b4 ?_
            refine lv_iconst (v := 0) hx hb dX12_aDay_109 (by decide) ?_
            refine lv_dup2_11 hx hb dX12_aDay_110 rfl rfl ?_
            refine iv_wald_c X hB a_b4 q_0 (by decide) (lo := (-2147483648)) (hi' := 2147483647) (by decide) dX12_aDay_111 (fun x47 e_x47 i_x47 => ?_)
            refine lv_iconst (v := 1) hx hb dX12_aDay_112 (by decide) ?_
            refine lv_iadd hx hb dX12_aDay_113 ?_
            refine lv_topi (fun x48 e_x48 => ?_)
            have i_x48 := iv_R.all x48
            refine iv_wast_c X hB a_b4 q_0 (by decide) (lo := (-2147483648)) (hi' := 2147483647) (by decide) i_x48 dX12_aDay_114 (fun H locs hB => ?_)
            have hB : iv_B iv_sh D classes tys base (iv_up G43 b4 (60, upd g44 0 x48, r21)) s.heap H locs := hB
            have hm := iv_Md.put (x := x48) a_b4 (j := 0) (by decide) (fun h => absurd h (by decide))
            have h9 := iv_up_eq (G := G43) (a := b4) (k := (60, upd g44 0 x48, r21))
            generalize iv_up G43 b4 _ = G49 at hB hm h9
            have hM := hM.stp hm (by decide)
            generalize hgn_g50 : upd g44 _ _ = g50 at h9
            have a_h0 := hm.at a_h0 (by decide)
            have a_b4 := h9
            have e51 : x22 = g50 148 := by rw [← hgn_g50]; exact e45.trans (iv_updne (by decide))
            have e52 : x42 = g50 1 := by rw [← hgn_g50]; exact e46.trans (iv_updne (by decide))
            have e53 : x48 = g50 0 := by rw [← hgn_g50]; simp [upd]
            refine lv_iload_n hx hb dX12_aDay_115 rfl (lv_at hl 1 rfl) ?_
            exact iv_iret X hr hlocks hB ⟨hM, i_x1⟩ dX12_aDay_116
      · skip
        have i53_x2 : iv_R 0 9 x2 := (i_x2.cutHi (n := 9) (iv_lt_r (iv_nle c6) i_x5 (by decide)))
        have i54_x5 : iv_R 1 10 x5 := (i_x5.cutLo (n := 1) (iv_lt_l (iv_nle c6) i_x2 (by decide)))
        refine lv_iload_n hx hb dX12_aDay_16 rfl (lv_at hl 1 rfl) ?_
        refine lv_aload_n hx hb dX12_aDay_17 rfl (lv_at hl 2 rfl) ?_
        refine lv_iload_n hx hb dX12_aDay_18 rfl (lv_at hl 0 rfl) ?_
        obtain ⟨gv, rv, hv⟩ := iv_getw hB a_h0
        refine iv_cVi X k_good k_mf_X12_soundingOf k_im_X12_soundingOf k_sel_X12_soundingOf k_ml_X12_353 ft_X12 hB a_h0 sh_12 (As := [.int x2]) (e_X12_soundingOf l D tys base G3 h0 g_h0 r_h0 a_h0 x2 i53_x2 gv rv hv) ⟨rfl, rfl⟩ ⟨Nat.le_of_ble_eq_true rfl, Nat.le_of_ble_eq_true rfl⟩ ⟨Nat.le_of_ble_eq_true rfl, Nat.le_of_ble_eq_true rfl⟩ rfl rfl hl.1 (Nat.le_of_ble_eq_true rfl) dX12_aDay_19 (fun x56 G9 H locs hq hB => ?_)
        obtain ⟨rfl, i_x56, eq_x56⟩ := hq
        refine lv_if_eq (tgt := 33) hx hb dX12_aDay_22 (by decide) (fun c57 => ?_) (fun c57 => ?_)
        · skip
          have i57_x56 : iv_R 0 0 x56 := (i_x56.cutHi (n := 0) (iv_eq_r c57 q_0).2)
          refine lv_iconst (v := 0) hx hb dX12_aDay_33 (by decide) ?_
          refine iv_iadd hx hb i_x1 q_0 (lo := (-2147483648)) (hi := 2147483647) (by decide) dX12_aDay_34 (fun x59 e_x59 i_x59 => ?_)
          refine lv_istore_n (lv' := [(1, .int x59), (2, .int x2), (0, .ref h0)]) hx hb dX12_aDay_35 rfl hl (by decide) rfl (fun ls hl => ?_)
          refine iv_iinc hx hb i53_x2 (lo := 1) (hi := 10) (by decide) dX12_aDay_36 hl (k := 1) rfl (by decide) (fun x60 ls e_x60 i_x60 hl => ?_)
          have hl : lv_has ls 3 [(2, .int x60), (1, .int x59), (0, .ref h0)] := hl
          refine lv_goto (tgt := 4) hx hb dX12_aDay_39 (by decide) ?_
          exact ih_4 G3 hM _ _ hB a_h0 x59 i_x59 x60 (i_x60.wk (by decide)) (iv_mup (c := 1) i_x2 (by decide) (by decide) (by omega) hn_4) _ (lv_sub hl [0, 1, 2] rfl)
        · skip
          have i60_x56 : iv_R 1 16777215 x56 := iv_ne_lo c57 i_x56 q_0 (by decide)
          refine lv_aload_n hx hb dX12_aDay_25 rfl (lv_at hl 2 rfl) ?_
          refine lv_iload_n hx hb dX12_aDay_26 rfl (lv_at hl 0 rfl) ?_
          refine iv_cVi X k_good k_mf_X12_isRung k_im_X12_isRung k_sel_X12_isRung k_ml_X12_365 ft_X12 hB a_h0 sh_12 (As := [.int x2]) (c_X12_isRung l D tys base G3 h0 g_h0 r_h0 a_h0 x2 i53_x2 gv rv hv (fun h => c57 (eq_x56.mpr h))) ⟨rfl, rfl⟩ ⟨Nat.le_of_ble_eq_true rfl, Nat.le_of_ble_eq_true rfl⟩ ⟨Nat.le_of_ble_eq_true rfl, Nat.le_of_ble_eq_true rfl⟩ rfl rfl hl.1 (Nat.le_of_ble_eq_true rfl) dX12_aDay_27 (fun x62 G9 H locs hq hB => ?_)
          obtain ⟨hm, i_x62⟩ := hq
          obtain ⟨G63, hG9⟩ : ∃ g, g = G9 := ⟨_, rfl⟩
          rw [← hG9] at hm hB
          have hM := hM.stp hm (by decide)
          have a_h0 := hm.at a_h0 (by decide)
          obtain ⟨g64, r65, a_b4, f_g64⟩ := hm.ex a_b4
          refine lv_goto (tgt := 34) hx hb dX12_aDay_30 (by decide) ?_
          refine lv_iadd hx hb dX12_aDay_34 ?_
          refine lv_topi (fun x66 e_x66 => ?_)
          have i_x66 := iv_R.all x66
          refine lv_istore_n (lv' := [(1, .int x66), (2, .int x2), (0, .ref h0)]) hx hb dX12_aDay_35 rfl hl (by decide) rfl (fun ls hl => ?_)
          refine iv_iinc hx hb i53_x2 (lo := 1) (hi := 10) (by decide) dX12_aDay_36 hl (k := 1) rfl (by decide) (fun x67 ls e_x67 i_x67 hl => ?_)
          have hl : lv_has ls 3 [(2, .int x67), (1, .int x66), (0, .ref h0)] := hl
          refine lv_goto (tgt := 4) hx hb dX12_aDay_39 (by decide) ?_
          exact ih_4 G63 hM _ _ hB a_h0 x66 i_x66 x67 (i_x67.wk (by decide)) (iv_mup (c := 1) i_x2 (by decide) (by decide) (by omega) hn_4) _ (lv_sub hl [0, 1, 2] rfl)
  exact L_4 _ G hM _ _ hB a_h0 0 (q_0.wk (by decide)) 0 (q_0.wk (by decide)) (Nat.lt_succ_self _) _ (lv_sub hl [0, 1, 2] rfl)
theorem dX12_days_0 : decode cX12_days 0 = .ok (.iload_n 1, 1) := by decide +kernel
theorem dX12_days_1 : decode cX12_days 1 = .ok (.iconst 1, 1) := by decide +kernel
theorem dX12_days_2 : decode cX12_days 2 = .ok (.bipush 60, 2) := by decide +kernel
theorem dX12_days_4 : decode cX12_days 4 = .ok (.invokestatic 56, 3) := by decide +kernel
theorem dX12_days_7 : decode cX12_days 7 = .ok (.ifCond .eq 17, 3) := by decide +kernel
theorem dX12_days_10 : decode cX12_days 10 = .ok (.aload_n 0, 1) := by decide +kernel
theorem dX12_days_11 : decode cX12_days 11 = .ok (.getfield 7, 3) := by decide +kernel
theorem dX12_days_14 : decode cX12_days 14 = .ok (.iconst 0, 1) := by decide +kernel
theorem dX12_days_15 : decode cX12_days 15 = .ok (.iaload, 1) := by decide +kernel
theorem dX12_days_16 : decode cX12_days 16 = .ok (.iload_n 1, 1) := by decide +kernel
theorem dX12_days_17 : decode cX12_days 17 = .ok (.iadd, 1) := by decide +kernel
theorem dX12_days_18 : decode cX12_days 18 = .ok (.sipush 9999, 3) := by decide +kernel
theorem dX12_days_21 : decode cX12_days 21 = .ok (.if_icmp .le 5, 3) := by decide +kernel
theorem dX12_days_24 : decode cX12_days 24 = .ok (.iconst (-1), 1) := by decide +kernel
theorem dX12_days_25 : decode cX12_days 25 = .ok (.ireturn, 1) := by decide +kernel
theorem dX12_days_26 : decode cX12_days 26 = .ok (.iconst 0, 1) := by decide +kernel
theorem dX12_days_27 : decode cX12_days 27 = .ok (.istore_n 2, 1) := by decide +kernel
theorem dX12_days_28 : decode cX12_days 28 = .ok (.iconst 0, 1) := by decide +kernel
theorem dX12_days_29 : decode cX12_days 29 = .ok (.istore_n 3, 1) := by decide +kernel
theorem dX12_days_30 : decode cX12_days 30 = .ok (.iload_n 3, 1) := by decide +kernel
theorem dX12_days_31 : decode cX12_days 31 = .ok (.iload_n 1, 1) := by decide +kernel
theorem dX12_days_32 : decode cX12_days 32 = .ok (.if_icmp .ge 20, 3) := by decide +kernel
theorem dX12_days_35 : decode cX12_days 35 = .ok (.aload_n 0, 1) := by decide +kernel
theorem dX12_days_36 : decode cX12_days 36 = .ok (.invokevirtual 329, 3) := by decide +kernel
theorem dX12_days_39 : decode cX12_days 39 = .ok (.iload_n 2, 1) := by decide +kernel
theorem dX12_days_40 : decode cX12_days 40 = .ok (.aload_n 0, 1) := by decide +kernel
theorem dX12_days_41 : decode cX12_days 41 = .ok (.invokevirtual 368, 3) := by decide +kernel
theorem dX12_days_44 : decode cX12_days 44 = .ok (.iadd, 1) := by decide +kernel
theorem dX12_days_45 : decode cX12_days 45 = .ok (.istore_n 2, 1) := by decide +kernel
theorem dX12_days_46 : decode cX12_days 46 = .ok (.iinc 3 1, 3) := by decide +kernel
theorem dX12_days_49 : decode cX12_days 49 = .ok (.goto (-19), 3) := by decide +kernel
theorem dX12_days_52 : decode cX12_days 52 = .ok (.iload_n 2, 1) := by decide +kernel
theorem dX12_days_53 : decode cX12_days 53 = .ok (.ireturn, 1) := by decide +kernel
set_option maxHeartbeats 4000000 in
set_option maxRecDepth 100000 in
theorem c_X12_days (l : Launch) (D : va_G) (tys : List (ClassId × FieldType)) (base : Nat) (G : iv_G) (h0 : Nat) (g_h0 : Nat → Int32) (r_h0 : Nat → Nat) (a_h0 : G h0 = some (12, g_h0, r_h0)) (x_0 : Int32) (i_x_0 : iv_R (-2147483648) 2147483647 x_0) : Met l yX12_days (Cond.code yX12_days cX12_days 4 (some .int) :: iv_W0) ({ frames := 12, cells := 0, slots := 0, locals := 279 }) (iv_Pc iv_sh D classes tys base G [.ref h0, .int x_0]) (iv_Qi iv_sh D classes tys base (fun v G' => iv_Md [12, 60, 62, 67, 68] G G' ∧ iv_R (-2147483648) 2147483647 v)) 0 0 (iv_A base) := by
  refine iv_head (by decide) (Nat.le_of_ble_eq_true rfl) ?_
  intro p e s m args below meth c ls X hr hlocks hname hB hl
  have X := X
  have hx := X.1.1
  have hb := X.1.2.1
  have hM : iv_Md [12, 60, 62, 67, 68] G G := iv_Md.rf
  have hl : lv_has ls 4 [(0, .ref h0), (1, .int x_0)] := hl
  refine lv_iload_n hx hb dX12_days_0 rfl (lv_at hl 1 rfl) ?_
  refine lv_iconst (v := 1) hx hb dX12_days_1 (by decide) ?_
  refine lv_bipush (v := 60) hx hb dX12_days_2 (by decide) ?_
  refine iv_cSi X k_good k_mf_X12_isIn k_st_X12_isIn k_ml_X12_56 hB (As := [.int x_0, .int 1, .int 60]) (c_X12_isIn l D tys base G x_0 i_x_0 1 (q_1.wk (by decide)) 60 (q_60.wk (by decide))) ⟨rfl, rfl⟩ ⟨Nat.le_of_ble_eq_true rfl, Nat.le_of_ble_eq_true rfl⟩ ⟨Nat.le_of_ble_eq_true rfl, Nat.le_of_ble_eq_true rfl⟩ rfl rfl hl.1 (Nat.le_of_ble_eq_true rfl) dX12_days_4 (fun x1 G9 H locs hq hB => ?_)
  obtain ⟨rfl, i_x1, hp2⟩ := hq
  have k3 : ¬ x1 = 0 → iv_R 1 60 x_0 := fun h => ⟨iv_max i_x_0.1 (Int.le_trans q_1.1 (hp2.1 h).1) (by decide), iv_min i_x_0.2 (Int.le_trans (hp2.1 h).2 q_60.2) (by decide)⟩
  refine lv_if_eq (tgt := 24) hx hb dX12_days_7 (by decide) (fun c4 => ?_) (fun c4 => ?_)
  · skip
    have i4_x1 : iv_R 0 0 x1 := (i_x1.cutHi (n := 0) (iv_eq_r c4 q_0).2)
    refine lv_iconst (v := (-1)) hx hb dX12_days_24 (by decide) ?_
    exact iv_iret X hr hlocks hB ⟨hM, (q_n1.wk (by decide))⟩ dX12_days_25
  · skip
    have i5_x1 : iv_R 1 1 x1 := iv_ne_lo c4 i_x1 q_0 (by decide)
    have i6_x_0 : iv_R 1 60 x_0 := ((i_x_0.cutLo (n := 1) (k3 c4).1).cutHi (n := 60) (k3 c4).2)
    refine lv_aload_n hx hb dX12_days_10 rfl (lv_at hl 0 rfl) ?_
    refine iv_getr X ft_X12 hB a_h0 sh_12 0 (by decide) rfl k_fl_X12_7 dX12_days_11 (fun b8 g_b8 r_b8 e_b8 a_b8 => ?_)
    refine lv_iconst (v := 0) hx hb dX12_days_14 (by decide) ?_
    refine iv_wald_c X hB a_b8 q_0 (by decide) (lo := (-2147483648)) (hi' := 2147483647) (by decide) dX12_days_15 (fun x9 e_x9 i_x9 => ?_)
    refine lv_iload_n hx hb dX12_days_16 rfl (lv_at hl 1 rfl) ?_
    refine lv_iadd hx hb dX12_days_17 ?_
    refine lv_topi (fun x10 e_x10 => ?_)
    have i_x10 := iv_R.all x10
    refine lv_sipush (v := 9999) hx hb dX12_days_18 (by decide) ?_
    refine lv_icmp_le (tgt := 26) hx hb dX12_days_21 (by decide) (fun c11 => ?_) (fun c11 => ?_)
    · skip
      have i11_x10 : iv_R (-2147483648) 9999 x10 := (i_x10.cutHi (n := 9999) (iv_le_r c11 q_9999))
      refine lv_iconst (v := 0) hx hb dX12_days_26 (by decide) ?_
      refine lv_istore_n (lv' := [(2, .int 0), (0, .ref h0), (1, .int x_0)]) hx hb dX12_days_27 rfl hl (by decide) rfl (fun ls hl => ?_)
      refine lv_iconst (v := 0) hx hb dX12_days_28 (by decide) ?_
      refine lv_istore_n (lv' := [(3, .int 0), (2, .int 0), (0, .ref h0), (1, .int x_0)]) hx hb dX12_days_29 rfl hl (by decide) rfl (fun ls hl => ?_)
      have L_30 : ∀ (n_30 : Nat) (G17 : iv_G) (hM : iv_Md [12, 60, 62, 67, 68] G G17) (H : Heap) (locs : List Loc) (hB : iv_B iv_sh D classes tys base G17 s.heap H locs) (g15 : Nat → Int32) (r16 : Nat → Nat) (a_h0 : G17 h0 = some (12, g15, r16)) (x13 : Int32) (i_x13 : iv_R (-2147483648) 2147483647 x13) (x14 : Int32) (i_x14 : iv_R 0 60 x14) (hn_30 : (61 - x14.toInt).toNat < n_30) (ls : Array Slot) (hl : lv_has ls 4 [(3, .int x14), (2, .int x13), (0, .ref h0), (1, .int x_0)]), W p l e ({ frames := 12, cells := 0, slots := 0, locals := 279 } : Room) s m args below meth c H locs 0 0 (MQ below (iv_Qi iv_sh D classes tys base (fun v G' => iv_Md [12, 60, 62, 67, 68] G G' ∧ iv_R (-2147483648) 2147483647 v)) args s 0 0 (iv_A base)) (F0 m 30 ls []) := by
        intro n_30
        induction n_30 with
        | zero => intro G17 hM H locs hB g15 r16 a_h0 x13 i_x13 x14 i_x14 hn_30 ls hl; exact absurd hn_30 (Nat.not_lt_zero _)
        | succ n_30 ih_30 =>
          intro G17 hM H locs hB g15 r16 a_h0 x13 i_x13 x14 i_x14 hn_30 ls hl
          refine lv_iload_n hx hb dX12_days_30 rfl (lv_at hl 0 rfl) ?_
          refine lv_iload_n hx hb dX12_days_31 rfl (lv_at hl 3 rfl) ?_
          refine lv_icmp_ge (tgt := 52) hx hb dX12_days_32 (by decide) (fun c18 => ?_) (fun c18 => ?_)
          · skip
            have i18_x14 : iv_R 1 60 x14 := (i_x14.cutLo (n := 1) (iv_le_l c18 i6_x_0))
            refine lv_iload_n hx hb dX12_days_52 rfl (lv_at hl 1 rfl) ?_
            exact iv_iret X hr hlocks hB ⟨hM, i_x13⟩ dX12_days_53
          · skip
            have i19_x14 : iv_R 0 59 x14 := (i_x14.cutHi (n := 59) (iv_lt_r (iv_nle c18) i6_x_0 (by decide)))
            refine lv_aload_n hx hb dX12_days_35 rfl (lv_at hl 2 rfl) ?_
            refine iv_cVv X k_good k_mf_X12_keeps k_im_X12_keeps k_sel_X12_keeps k_ml_X12_329 ft_X12 hB a_h0 sh_12 (As := []) (c_X12_keeps l D tys base G17 h0 g15 r16 a_h0) ⟨rfl, rfl⟩ ⟨Nat.le_of_ble_eq_true rfl, Nat.le_of_ble_eq_true rfl⟩ ⟨Nat.le_of_ble_eq_true rfl, Nat.le_of_ble_eq_true rfl⟩ rfl rfl hl.1 (Nat.le_of_ble_eq_true rfl) dX12_days_36 (fun G9 H locs hq hB => ?_)
            have hm := hq
            obtain ⟨G21, hG9⟩ : ∃ g, g = G9 := ⟨_, rfl⟩
            rw [← hG9] at hm hB
            have hM := hM.stp hm (by decide)
            obtain ⟨g22, r23, a_h0, f_g22⟩ := hm.ex a_h0
            refine lv_iload_n hx hb dX12_days_39 rfl (lv_at hl 1 rfl) ?_
            refine lv_aload_n hx hb dX12_days_40 rfl (lv_at hl 2 rfl) ?_
            refine iv_cVi X k_good k_mf_X12_aDay k_im_X12_aDay k_sel_X12_aDay k_ml_X12_368 ft_X12 hB a_h0 sh_12 (As := []) (c_X12_aDay l D tys base G21 h0 g22 r23 a_h0) ⟨rfl, rfl⟩ ⟨Nat.le_of_ble_eq_true rfl, Nat.le_of_ble_eq_true rfl⟩ ⟨Nat.le_of_ble_eq_true rfl, Nat.le_of_ble_eq_true rfl⟩ rfl rfl hl.1 (Nat.le_of_ble_eq_true rfl) dX12_days_41 (fun x24 G9 H locs hq hB => ?_)
            obtain ⟨hm, i_x24⟩ := hq
            obtain ⟨G25, hG9⟩ : ∃ g, g = G9 := ⟨_, rfl⟩
            rw [← hG9] at hm hB
            have hM := hM.stp hm (by decide)
            have a_h0 := hm.at a_h0 (by decide)
            refine lv_iadd hx hb dX12_days_44 ?_
            refine lv_topi (fun x26 e_x26 => ?_)
            have i_x26 := iv_R.all x26
            refine lv_istore_n (lv' := [(2, .int x26), (3, .int x14), (0, .ref h0), (1, .int x_0)]) hx hb dX12_days_45 rfl hl (by decide) rfl (fun ls hl => ?_)
            refine iv_iinc hx hb i19_x14 (lo := 1) (hi := 60) (by decide) dX12_days_46 hl (k := 1) rfl (by decide) (fun x27 ls e_x27 i_x27 hl => ?_)
            have hl : lv_has ls 4 [(3, .int x27), (2, .int x26), (0, .ref h0), (1, .int x_0)] := hl
            refine lv_goto (tgt := 30) hx hb dX12_days_49 (by decide) ?_
            exact ih_30 G25 hM _ _ hB g22 r23 a_h0 x26 i_x26 x27 (i_x27.wk (by decide)) (iv_mup (c := 1) i_x14 (by decide) (by decide) (by omega) hn_30) _ (lv_sub hl [0, 1, 2, 3] rfl)
      exact L_30 _ G hM _ _ hB g_h0 r_h0 a_h0 0 (q_0.wk (by decide)) 0 (q_0.wk (by decide)) (Nat.lt_succ_self _) _ (lv_sub hl [0, 1, 2, 3] rfl)
    · skip
      have i27_x10 : iv_R 10000 2147483647 x10 := (i_x10.cutLo (n := 10000) (iv_lt_l (iv_nle c11) q_9999 (by decide)))
      refine lv_iconst (v := (-1)) hx hb dX12_days_24 (by decide) ?_
      exact iv_iret X hr hlocks hB ⟨hM, (q_n1.wk (by decide))⟩ dX12_days_25
