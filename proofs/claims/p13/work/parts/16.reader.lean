theorem dJ7_fill_53178_0 : decode cJ7_fill_53178 0 = .ok (.iconst 0, 1) := by decide +kernel
theorem dJ7_fill_53178_1 : decode cJ7_fill_53178 1 = .ok (.istore_n 2, 1) := by decide +kernel
theorem dJ7_fill_53178_2 : decode cJ7_fill_53178 2 = .ok (.aload_n 0, 1) := by decide +kernel
theorem dJ7_fill_53178_3 : decode cJ7_fill_53178 3 = .ok (.arraylength, 1) := by decide +kernel
theorem dJ7_fill_53178_4 : decode cJ7_fill_53178 4 = .ok (.istore_n 3, 1) := by decide +kernel
theorem dJ7_fill_53178_5 : decode cJ7_fill_53178 5 = .ok (.iload_n 2, 1) := by decide +kernel
theorem dJ7_fill_53178_6 : decode cJ7_fill_53178 6 = .ok (.iload_n 3, 1) := by decide +kernel
theorem dJ7_fill_53178_7 : decode cJ7_fill_53178 7 = .ok (.if_icmp .ge 13, 3) := by decide +kernel
theorem dJ7_fill_53178_10 : decode cJ7_fill_53178 10 = .ok (.aload_n 0, 1) := by decide +kernel
theorem dJ7_fill_53178_11 : decode cJ7_fill_53178 11 = .ok (.iload_n 2, 1) := by decide +kernel
theorem dJ7_fill_53178_12 : decode cJ7_fill_53178 12 = .ok (.iload_n 1, 1) := by decide +kernel
theorem dJ7_fill_53178_13 : decode cJ7_fill_53178 13 = .ok (.iastore, 1) := by decide +kernel
theorem dJ7_fill_53178_14 : decode cJ7_fill_53178 14 = .ok (.iinc 2 1, 3) := by decide +kernel
theorem dJ7_fill_53178_17 : decode cJ7_fill_53178 17 = .ok (.goto (-12), 3) := by decide +kernel
theorem dJ7_fill_53178_20 : decode cJ7_fill_53178 20 = .ok (.return_, 1) := by decide +kernel
set_option maxHeartbeats 4000000 in
set_option maxRecDepth 100000 in
theorem c_J7_fill_53178 (l : Launch) (D : va_G) (tys : List (ClassId × FieldType)) (base : Nat) (G : iv_G) (h1 : Nat) (g_h1 : Nat → Int32) (r_h1 : Nat → Nat) (a_h1 : G h1 = some (21, g_h1, r_h1)) (x_1 : Int32) (i_x_1 : iv_R 0 0 x_1) : Met l yJ7_fill_53178 (Cond.code yJ7_fill_53178 cJ7_fill_53178 4 none :: iv_W0) ({ frames := 0, cells := 0, slots := 0, locals := 0 }) (iv_Pc iv_sh D classes tys base G [.ref h1, .int x_1]) (iv_Qv iv_sh D classes tys base (fun G' => iv_Md [21] G G')) 0 0 (iv_A base) := by
  refine iv_head (by decide) (Nat.le_of_ble_eq_true rfl) ?_
  intro p e s m args below meth c ls X hr hlocks hname hB hl
  have X := X
  have hx := X.1.1
  have hb := X.1.2.1
  have hM : iv_Md [21] G G := iv_Md.rf
  have hl : lv_has ls 4 [(0, .ref h1), (1, .int x_1)] := hl
  refine lv_iconst (v := 0) hx hb dJ7_fill_53178_0 (by decide) ?_
  refine lv_istore_n (lv' := [(2, .int 0), (0, .ref h1), (1, .int x_1)]) hx hb dJ7_fill_53178_1 rfl hl (by decide) rfl (fun ls hl => ?_)
  refine lv_aload_n hx hb dJ7_fill_53178_2 rfl (lv_at hl 1 rfl) ?_
  refine iv_alen X hB a_h1 sh_21 (v := 10) (by decide) dJ7_fill_53178_3 ?_
  refine lv_istore_n (lv' := [(3, .int 10), (2, .int 0), (0, .ref h1), (1, .int x_1)]) hx hb dJ7_fill_53178_4 rfl hl (by decide) rfl (fun ls hl => ?_)
  have L_5 : ∀ (n_5 : Nat) (G4 : iv_G) (hM : iv_Md [21] G G4) (H : Heap) (locs : List Loc) (hB : iv_B iv_sh D classes tys base G4 s.heap H locs) (g2 : Nat → Int32) (r3 : Nat → Nat) (a_h1 : G4 h1 = some (21, g2, r3)) (x1 : Int32) (i_x1 : iv_R 0 10 x1) (hn_5 : (11 - x1.toInt).toNat < n_5) (ls : Array Slot) (hl : lv_has ls 4 [(3, .int 10), (2, .int x1), (0, .ref h1), (1, .int x_1)]), W p l e ({ frames := 0, cells := 0, slots := 0, locals := 0 } : Room) s m args below meth c H locs 0 0 (MQ below (iv_Qv iv_sh D classes tys base (fun G' => iv_Md [21] G G')) args s 0 0 (iv_A base)) (F0 m 5 ls []) := by
    intro n_5
    induction n_5 with
    | zero => intro G4 hM H locs hB g2 r3 a_h1 x1 i_x1 hn_5 ls hl; exact absurd hn_5 (Nat.not_lt_zero _)
    | succ n_5 ih_5 =>
      intro G4 hM H locs hB g2 r3 a_h1 x1 i_x1 hn_5 ls hl
      refine lv_iload_n hx hb dJ7_fill_53178_5 rfl (lv_at hl 1 rfl) ?_
      refine lv_iload_n hx hb dJ7_fill_53178_6 rfl (lv_at hl 0 rfl) ?_
      refine lv_icmp_ge (tgt := 20) hx hb dJ7_fill_53178_7 (by decide) (fun c5 => ?_) (fun c5 => ?_)
      · skip
        have i5_x1 : iv_R 10 10 x1 := (i_x1.cutLo (n := 10) (iv_le_l c5 q_10))
        exact iv_vret X hr hlocks hB hM dJ7_fill_53178_20
      · skip
        have i6_x1 : iv_R 0 9 x1 := (i_x1.cutHi (n := 9) (iv_lt_r (iv_nle c5) q_10 (by decide)))
        refine lv_aload_n hx hb dJ7_fill_53178_10 rfl (lv_at hl 2 rfl) ?_
        refine lv_iload_n hx hb dJ7_fill_53178_11 rfl (lv_at hl 1 rfl) ?_
        refine lv_iload_n hx hb dJ7_fill_53178_12 rfl (lv_at hl 3 rfl) ?_
        refine iv_ast X hB a_h1 sh_21 (iv_in i6_x1 (by decide)) (i_x_1.wk (by decide)) dJ7_fill_53178_13 (fun H locs hB => ?_)
        have hm := iv_Md.ast (j := x1.toNatClampNeg) (x := x_1) a_h1 rfl (by decide)
        have h9 := iv_up_eq (G := G4) (a := h1) (k := (21, upd g2 x1.toNatClampNeg x_1, r3))
        generalize iv_up G4 h1 _ = G8 at hB hm h9
        have hM := hM.stp hm (by decide)
        generalize hgn_g9 : upd g2 _ _ = g9 at h9
        have a_h1 := h9
        refine iv_iinc hx hb i6_x1 (lo := 1) (hi := 10) (by decide) dJ7_fill_53178_14 hl (k := 1) rfl (by decide) (fun x10 ls e_x10 i_x10 hl => ?_)
        have hl : lv_has ls 4 [(2, .int x10), (3, .int 10), (0, .ref h1), (1, .int x_1)] := hl
        refine lv_goto (tgt := 5) hx hb dJ7_fill_53178_17 (by decide) ?_
        exact ih_5 G8 hM _ _ hB g9 r3 a_h1 x10 (i_x10.wk (by decide)) (iv_mup (c := 1) i_x1 (by decide) (by decide) (by omega) hn_5) _ (lv_sub hl [1, 0, 2, 3] rfl)
  exact L_5 _ G hM _ _ hB g_h1 r_h1 a_h1 0 (q_0.wk (by decide)) (Nat.lt_succ_self _) _ (lv_sub hl [0, 1, 2, 3] rfl)
theorem dX7_readHours_0 : decode cX7_readHours 0 = .ok (.aload_n 0, 1) := by decide +kernel
theorem dX7_readHours_1 : decode cX7_readHours 1 = .ok (.aload_n 1, 1) := by decide +kernel
theorem dX7_readHours_2 : decode cX7_readHours 2 = .ok (.iload_n 2, 1) := by decide +kernel
theorem dX7_readHours_3 : decode cX7_readHours 3 = .ok (.invokevirtual 44, 3) := by decide +kernel
theorem dX7_readHours_6 : decode cX7_readHours 6 = .ok (.aload_n 0, 1) := by decide +kernel
theorem dX7_readHours_7 : decode cX7_readHours 7 = .ok (.getfield 22, 3) := by decide +kernel
theorem dX7_readHours_10 : decode cX7_readHours 10 = .ok (.iconst 0, 1) := by decide +kernel
theorem dX7_readHours_11 : decode cX7_readHours 11 = .ok (.invokestatic 48, 3) := by decide +kernel
theorem dX7_readHours_14 : decode cX7_readHours 14 = .ok (.iconst 1, 1) := by decide +kernel
theorem dX7_readHours_15 : decode cX7_readHours 15 = .ok (.istore 4, 2) := by decide +kernel
theorem dX7_readHours_17 : decode cX7_readHours 17 = .ok (.iconst 0, 1) := by decide +kernel
theorem dX7_readHours_18 : decode cX7_readHours 18 = .ok (.istore 5, 2) := by decide +kernel
theorem dX7_readHours_20 : decode cX7_readHours 20 = .ok (.iload 5, 2) := by decide +kernel
theorem dX7_readHours_22 : decode cX7_readHours 22 = .ok (.bipush 20, 2) := by decide +kernel
theorem dX7_readHours_24 : decode cX7_readHours 24 = .ok (.if_icmp .gt 28, 3) := by decide +kernel
theorem dX7_readHours_27 : decode cX7_readHours 27 = .ok (.iload 4, 2) := by decide +kernel
theorem dX7_readHours_29 : decode cX7_readHours 29 = .ok (.ifCond .eq 23, 3) := by decide +kernel
theorem dX7_readHours_32 : decode cX7_readHours 32 = .ok (.aload_n 0, 1) := by decide +kernel
theorem dX7_readHours_33 : decode cX7_readHours 33 = .ok (.getfield 53, 3) := by decide +kernel
theorem dX7_readHours_36 : decode cX7_readHours 36 = .ok (.ifCond .eq 16, 3) := by decide +kernel
theorem dX7_readHours_39 : decode cX7_readHours 39 = .ok (.aload_n 0, 1) := by decide +kernel
theorem dX7_readHours_40 : decode cX7_readHours 40 = .ok (.iload_n 3, 1) := by decide +kernel
theorem dX7_readHours_41 : decode cX7_readHours 41 = .ok (.invokevirtual 56, 3) := by decide +kernel
theorem dX7_readHours_44 : decode cX7_readHours 44 = .ok (.istore 4, 2) := by decide +kernel
theorem dX7_readHours_46 : decode cX7_readHours 46 = .ok (.iinc 5 1, 3) := by decide +kernel
theorem dX7_readHours_49 : decode cX7_readHours 49 = .ok (.goto (-29), 3) := by decide +kernel
theorem dX7_readHours_52 : decode cX7_readHours 52 = .ok (.iload 4, 2) := by decide +kernel
theorem dX7_readHours_54 : decode cX7_readHours 54 = .ok (.ireturn, 1) := by decide +kernel
set_option maxHeartbeats 4000000 in
set_option maxRecDepth 100000 in
theorem c_X7_readHours (l : Launch) (D : va_G) (tys : List (ClassId × FieldType)) (base : Nat) (G : iv_G) (h0 : Nat) (g_h0 : Nat → Int32) (r_h0 : Nat → Nat) (a_h0 : G h0 = some (7, g_h0, r_h0)) (h1 : Nat) (g_h1 : Nat → Int32) (r_h1 : Nat → Nat) (a_h1 : G h1 = some (45, g_h1, r_h1)) (x_1 : Int32) (i_x_1 : iv_R 0 400 x_1) (x_2 : Int32) (i_x_2 : iv_R 0 10 x_2) : Met l yX7_readHours (Cond.code yX7_readHours cX7_readHours 6 (some .boolean) :: iv_W0) ({ frames := 8, cells := 0, slots := 0, locals := 183 }) (iv_Pc iv_sh D classes tys base G [.ref h0, .ref h1, .int x_1, .int x_2]) (iv_Qi iv_sh D classes tys base (fun v G' => iv_Md0 [7, 21, 35, 42, 43, 44] G G' ∧ iv_R 0 1 v)) 0 0 (iv_A base) := by
  refine iv_head (by decide) (Nat.le_of_ble_eq_true rfl) ?_
  intro p e s m args below meth c ls X hr hlocks hname hB hl
  have X := X
  have hx := X.1.1
  have hb := X.1.2.1
  have hM : iv_Md0 [7, 21, 35, 42, 43, 44] G G := iv_Md0.rf
  have hl : lv_has ls 6 [(0, .ref h0), (1, .ref h1), (2, .int x_1), (3, .int x_2)] := hl
  refine lv_aload_n hx hb dX7_readHours_0 rfl (lv_at hl 0 rfl) ?_
  refine lv_aload_n hx hb dX7_readHours_1 rfl (lv_at hl 1 rfl) ?_
  refine lv_iload_n hx hb dX7_readHours_2 rfl (lv_at hl 2 rfl) ?_
  refine iv_cVv X k_good k_mf_X7_begin k_im_X7_begin k_sel_X7_begin k_ml_X7_44 ft_X7 hB a_h0 sh_7 (As := [.ref h1, .int x_1]) (c_X7_begin l D tys base G h0 g_h0 r_h0 a_h0 h1 g_h1 r_h1 a_h1 x_1 i_x_1) ⟨rfl, rfl⟩ ⟨Nat.le_of_ble_eq_true rfl, Nat.le_of_ble_eq_true rfl⟩ ⟨Nat.le_of_ble_eq_true rfl, Nat.le_of_ble_eq_true rfl⟩ rfl rfl hl.1 (Nat.le_of_ble_eq_true rfl) dX7_readHours_3 (fun G9 H locs hq hB => ?_)
  obtain ⟨hm, vg⟩ := hq
  obtain ⟨G1, hG9⟩ : ∃ g, g = G9 := ⟨_, rfl⟩
  rw [← hG9] at hm hB vg
  have hM := hM.stp hm (by decide)
  obtain ⟨g2, r3, a_h0, f_g2⟩ := hm.ex a_h0
  have a_h1 := hm.at a_h1 (by decide)
  have vg4 := vg _ _ a_h0
  refine lv_aload_n hx hb dX7_readHours_6 rfl (lv_at hl 0 rfl) ?_
  refine iv_getr X ft_X7 hB a_h0 sh_7 9 (by decide) rfl k_fl_X7_22 dX7_readHours_7 (fun b5 g_b5 r_b5 e_b5 a_b5 => ?_)
  refine lv_iconst (v := 0) hx hb dX7_readHours_10 (by decide) ?_
  refine iv_cSv X k_good k_mf_J7_fill_53178 k_st_J7_fill_53178 k_ml_X7_48 hB (As := [.ref b5, .int 0]) (c_J7_fill_53178 l D tys base G1 b5 g_b5 r_b5 a_b5 0 q_0) ⟨rfl, rfl⟩ ⟨Nat.le_of_ble_eq_true rfl, Nat.le_of_ble_eq_true rfl⟩ ⟨Nat.le_of_ble_eq_true rfl, Nat.le_of_ble_eq_true rfl⟩ rfl rfl hl.1 (Nat.le_of_ble_eq_true rfl) dX7_readHours_11 (fun G9 H locs hq hB => ?_)
  have hm := hq
  obtain ⟨G6, hG9⟩ : ∃ g, g = G9 := ⟨_, rfl⟩
  rw [← hG9] at hm hB
  have hM := hM.stp hm.weak (by decide)
  have a_h0 := hm.at a_h0 (by decide)
  have a_h1 := hm.at a_h1 (by decide)
  refine lv_iconst (v := 1) hx hb dX7_readHours_14 (by decide) ?_
  refine lv_istore (lv' := [(4, .int 1), (0, .ref h0), (1, .ref h1), (2, .int x_1), (3, .int x_2)]) hx hb dX7_readHours_15 hl (by decide) rfl (fun ls hl => ?_)
  refine lv_iconst (v := 0) hx hb dX7_readHours_17 (by decide) ?_
  refine lv_istore (lv' := [(5, .int 0), (4, .int 1), (0, .ref h0), (1, .ref h1), (2, .int x_1), (3, .int x_2)]) hx hb dX7_readHours_18 hl (by decide) rfl (fun ls hl => ?_)
  have L_20 : ∀ (n_20 : Nat) (G11 : iv_G) (hM : iv_Md0 [7, 21, 35, 42, 43, 44] G G11) (H : Heap) (locs : List Loc) (hB : iv_B iv_sh D classes tys base G11 s.heap H locs) (g9 : Nat → Int32) (r10 : Nat → Nat) (a_h0 : G11 h0 = some (7, g9, r10)) (n_g9 : iv_R 0 400 (g9 1)) (x7 : Int32) (i_x7 : iv_R 0 1 x7) (x8 : Int32) (i_x8 : iv_R 0 21 x8) (hn_20 : (22 - x8.toInt).toNat < n_20) (ls : Array Slot) (hl : lv_has ls 6 [(5, .int x8), (4, .int x7), (0, .ref h0), (3, .int x_2)]), W p l e ({ frames := 8, cells := 0, slots := 0, locals := 183 } : Room) s m args below meth c H locs 0 0 (MQ below (iv_Qi iv_sh D classes tys base (fun v G' => iv_Md0 [7, 21, 35, 42, 43, 44] G G' ∧ iv_R 0 1 v)) args s 0 0 (iv_A base)) (F0 m 20 ls []) := by
    intro n_20
    induction n_20 with
    | zero => intro G11 hM H locs hB g9 r10 a_h0 n_g9 x7 i_x7 x8 i_x8 hn_20 ls hl; exact absurd hn_20 (Nat.not_lt_zero _)
    | succ n_20 ih_20 =>
      intro G11 hM H locs hB g9 r10 a_h0 n_g9 x7 i_x7 x8 i_x8 hn_20 ls hl
      refine lv_iload hx hb dX7_readHours_20 (lv_at hl 0 rfl) ?_
      refine lv_bipush (v := 20) hx hb dX7_readHours_22 (by decide) ?_
      refine lv_icmp_gt (tgt := 52) hx hb dX7_readHours_24 (by decide) (fun c12 => ?_) (fun c12 => ?_)
      · skip
        have i12_x8 : iv_R 21 21 x8 := (i_x8.cutLo (n := 21) (iv_lt_l c12 q_20 (by decide)))
        refine lv_iload hx hb dX7_readHours_52 (lv_at hl 1 rfl) ?_
        exact iv_zret X hr hlocks hB i_x7 ⟨hM, i_x7⟩ dX7_readHours_54
      · skip
        have i13_x8 : iv_R 0 20 x8 := (i_x8.cutHi (n := 20) (iv_le_r (iv_nlt c12) q_20))
        refine lv_iload hx hb dX7_readHours_27 (lv_at hl 1 rfl) ?_
        refine lv_if_eq (tgt := 52) hx hb dX7_readHours_29 (by decide) (fun c15 => ?_) (fun c15 => ?_)
        · skip
          have i15_x7 : iv_R 0 0 x7 := (i_x7.cutHi (n := 0) (iv_eq_r c15 q_0).2)
          refine lv_iload hx hb dX7_readHours_52 (lv_at hl 1 rfl) ?_
          exact iv_zret X hr hlocks hB (i15_x7.wk (by decide)) ⟨hM, (i15_x7.wk (by decide))⟩ dX7_readHours_54
        · skip
          have i16_x7 : iv_R 1 1 x7 := iv_ne_lo c15 i_x7 q_0 (by decide)
          refine lv_aload_n hx hb dX7_readHours_32 rfl (lv_at hl 2 rfl) ?_
          refine iv_geti X ft_X7 hB a_h0 sh_7 2 (by decide) rfl k_fl_X7_53 dX7_readHours_33 (fun x18 e_x18 i_x18 => ?_)
          refine lv_if_eq (tgt := 52) hx hb dX7_readHours_36 (by decide) (fun c19 => ?_) (fun c19 => ?_)
          · skip
            have i19_x18 : iv_R 0 0 x18 := ((i_x18.cutLo (n := 0) (iv_eq_r c19 q_0).1).cutHi (n := 0) (iv_eq_r c19 q_0).2)
            refine lv_iload hx hb dX7_readHours_52 (lv_at hl 1 rfl) ?_
            exact iv_zret X hr hlocks hB (i16_x7.wk (by decide)) ⟨hM, (i16_x7.wk (by decide))⟩ dX7_readHours_54
          · skip
            refine lv_aload_n hx hb dX7_readHours_39 rfl (lv_at hl 2 rfl) ?_
            refine lv_iload_n hx hb dX7_readHours_40 rfl (lv_at hl 3 rfl) ?_
            refine iv_cVi X k_good k_mf_X7_readHourLine k_im_X7_readHourLine k_sel_X7_readHourLine k_ml_X7_56 ft_X7 hB a_h0 sh_7 (As := [.int x_2]) (c_X7_readHourLine l D tys base G11 h0 g9 r10 a_h0 n_g9 x_2 i_x_2) ⟨rfl, rfl⟩ ⟨Nat.le_of_ble_eq_true rfl, Nat.le_of_ble_eq_true rfl⟩ ⟨Nat.le_of_ble_eq_true rfl, Nat.le_of_ble_eq_true rfl⟩ rfl rfl hl.1 (Nat.le_of_ble_eq_true rfl) dX7_readHours_41 (fun x21 G9 H locs hq hB => ?_)
            obtain ⟨⟨hm, vg⟩, i_x21⟩ := hq
            obtain ⟨G22, hG9⟩ : ∃ g, g = G9 := ⟨_, rfl⟩
            rw [← hG9] at hm hB vg
            have hM := hM.stp hm (by decide)
            obtain ⟨g23, r24, a_h0, f_g23⟩ := hm.ex a_h0
            have vg25 := vg _ _ a_h0
            refine lv_istore (lv' := [(4, .int x21), (5, .int x8), (0, .ref h0), (3, .int x_2)]) hx hb dX7_readHours_44 hl (by decide) rfl (fun ls hl => ?_)
            refine iv_iinc hx hb i13_x8 (lo := 1) (hi := 21) (by decide) dX7_readHours_46 hl (k := 1) rfl (by decide) (fun x26 ls e_x26 i_x26 hl => ?_)
            have hl : lv_has ls 6 [(5, .int x26), (4, .int x21), (0, .ref h0), (3, .int x_2)] := hl
            refine lv_goto (tgt := 20) hx hb dX7_readHours_49 (by decide) ?_
            exact ih_20 G22 hM _ _ hB g23 r24 a_h0 vg25 x21 i_x21 x26 (i_x26.wk (by decide)) (iv_mup (c := 1) i_x8 (by decide) (by decide) (by omega) hn_20) _ (lv_sub hl [0, 1, 2, 3] rfl)
  exact L_20 _ G6 hM _ _ hB g2 r3 a_h0 vg4 1 (q_1.wk (by decide)) 0 (q_0.wk (by decide)) (Nat.lt_succ_self _) _ (lv_sub hl [0, 1, 2, 5] rfl)
theorem dX7_readLawLine_0 : decode cX7_readLawLine 0 = .ok (.aload_n 0, 1) := by decide +kernel
theorem dX7_readLawLine_1 : decode cX7_readLawLine 1 = .ok (.getfield 60, 3) := by decide +kernel
theorem dX7_readLawLine_4 : decode cX7_readLawLine 4 = .ok (.ifCond .eq 21, 3) := by decide +kernel
theorem dX7_readLawLine_7 : decode cX7_readLawLine 7 = .ok (.aload_n 0, 1) := by decide +kernel
theorem dX7_readLawLine_8 : decode cX7_readLawLine 8 = .ok (.getfield 53, 3) := by decide +kernel
theorem dX7_readLawLine_11 : decode cX7_readLawLine 11 = .ok (.sipush 131, 3) := by decide +kernel
theorem dX7_readLawLine_14 : decode cX7_readLawLine 14 = .ok (.if_icmp .ne 7, 3) := by decide +kernel
theorem dX7_readLawLine_17 : decode cX7_readLawLine 17 = .ok (.iconst 1, 1) := by decide +kernel
theorem dX7_readLawLine_18 : decode cX7_readLawLine 18 = .ok (.goto 32, 3) := by decide +kernel
theorem dX7_readLawLine_21 : decode cX7_readLawLine 21 = .ok (.iconst 0, 1) := by decide +kernel
theorem dX7_readLawLine_22 : decode cX7_readLawLine 22 = .ok (.goto 28, 3) := by decide +kernel
theorem dX7_readLawLine_25 : decode cX7_readLawLine 25 = .ok (.aload_n 0, 1) := by decide +kernel
theorem dX7_readLawLine_26 : decode cX7_readLawLine 26 = .ok (.getfield 53, 3) := by decide +kernel
theorem dX7_readLawLine_29 : decode cX7_readLawLine 29 = .ok (.sipush 132, 3) := by decide +kernel
theorem dX7_readLawLine_32 : decode cX7_readLawLine 32 = .ok (.if_icmp .eq 13, 3) := by decide +kernel
theorem dX7_readLawLine_35 : decode cX7_readLawLine 35 = .ok (.aload_n 0, 1) := by decide +kernel
theorem dX7_readLawLine_36 : decode cX7_readLawLine 36 = .ok (.getfield 53, 3) := by decide +kernel
theorem dX7_readLawLine_39 : decode cX7_readLawLine 39 = .ok (.sipush 133, 3) := by decide +kernel
theorem dX7_readLawLine_42 : decode cX7_readLawLine 42 = .ok (.if_icmp .ne 7, 3) := by decide +kernel
theorem dX7_readLawLine_45 : decode cX7_readLawLine 45 = .ok (.iconst 1, 1) := by decide +kernel
theorem dX7_readLawLine_46 : decode cX7_readLawLine 46 = .ok (.goto 4, 3) := by decide +kernel
theorem dX7_readLawLine_49 : decode cX7_readLawLine 49 = .ok (.iconst 0, 1) := by decide +kernel
theorem dX7_readLawLine_50 : decode cX7_readLawLine 50 = .ok (.istore_n 1, 1) := by decide +kernel
theorem dX7_readLawLine_51 : decode cX7_readLawLine 51 = .ok (.iload_n 1, 1) := by decide +kernel
theorem dX7_readLawLine_52 : decode cX7_readLawLine 52 = .ok (.ifCond .ne 9, 3) := by decide +kernel
theorem dX7_readLawLine_55 : decode cX7_readLawLine 55 = .ok (.aload_n 0, 1) := by decide +kernel
theorem dX7_readLawLine_56 : decode cX7_readLawLine 56 = .ok (.iconst 1, 1) := by decide +kernel
theorem dX7_readLawLine_57 : decode cX7_readLawLine 57 = .ok (.invokevirtual 98, 3) := by decide +kernel
theorem dX7_readLawLine_60 : decode cX7_readLawLine 60 = .ok (.ireturn, 1) := by decide +kernel
theorem dX7_readLawLine_61 : decode cX7_readLawLine 61 = .ok (.aload_n 0, 1) := by decide +kernel
theorem dX7_readLawLine_62 : decode cX7_readLawLine 62 = .ok (.getfield 74, 3) := by decide +kernel
theorem dX7_readLawLine_65 : decode cX7_readLawLine 65 = .ok (.bipush 16, 2) := by decide +kernel
theorem dX7_readLawLine_67 : decode cX7_readLawLine 67 = .ok (.if_icmp .lt 9, 3) := by decide +kernel
theorem dX7_readLawLine_70 : decode cX7_readLawLine 70 = .ok (.aload_n 0, 1) := by decide +kernel
theorem dX7_readLawLine_71 : decode cX7_readLawLine 71 = .ok (.iconst 3, 1) := by decide +kernel
theorem dX7_readLawLine_72 : decode cX7_readLawLine 72 = .ok (.invokevirtual 98, 3) := by decide +kernel
theorem dX7_readLawLine_75 : decode cX7_readLawLine 75 = .ok (.ireturn, 1) := by decide +kernel
theorem dX7_readLawLine_76 : decode cX7_readLawLine 76 = .ok (.aload_n 0, 1) := by decide +kernel
theorem dX7_readLawLine_77 : decode cX7_readLawLine 77 = .ok (.getfield 26, 3) := by decide +kernel
theorem dX7_readLawLine_80 : decode cX7_readLawLine 80 = .ok (.aload_n 0, 1) := by decide +kernel
theorem dX7_readLawLine_81 : decode cX7_readLawLine 81 = .ok (.getfield 74, 3) := by decide +kernel
theorem dX7_readLawLine_84 : decode cX7_readLawLine 84 = .ok (.aload_n 0, 1) := by decide +kernel
theorem dX7_readLawLine_85 : decode cX7_readLawLine 85 = .ok (.getfield 53, 3) := by decide +kernel
theorem dX7_readLawLine_88 : decode cX7_readLawLine 88 = .ok (.iastore, 1) := by decide +kernel
theorem dX7_readLawLine_89 : decode cX7_readLawLine 89 = .ok (.aload_n 0, 1) := by decide +kernel
theorem dX7_readLawLine_90 : decode cX7_readLawLine 90 = .ok (.invokevirtual 83, 3) := by decide +kernel
theorem dX7_readLawLine_93 : decode cX7_readLawLine 93 = .ok (.aload_n 0, 1) := by decide +kernel
theorem dX7_readLawLine_94 : decode cX7_readLawLine 94 = .ok (.invokevirtual 112, 3) := by decide +kernel
theorem dX7_readLawLine_97 : decode cX7_readLawLine 97 = .ok (.ifCond .ne 5, 3) := by decide +kernel
theorem dX7_readLawLine_100 : decode cX7_readLawLine 100 = .ok (.iconst 0, 1) := by decide +kernel
theorem dX7_readLawLine_101 : decode cX7_readLawLine 101 = .ok (.ireturn, 1) := by decide +kernel
theorem dX7_readLawLine_102 : decode cX7_readLawLine 102 = .ok (.aload_n 0, 1) := by decide +kernel
theorem dX7_readLawLine_103 : decode cX7_readLawLine 103 = .ok (.getfield 32, 3) := by decide +kernel
theorem dX7_readLawLine_106 : decode cX7_readLawLine 106 = .ok (.aload_n 0, 1) := by decide +kernel
theorem dX7_readLawLine_107 : decode cX7_readLawLine 107 = .ok (.getfield 74, 3) := by decide +kernel
theorem dX7_readLawLine_110 : decode cX7_readLawLine 110 = .ok (.aload_n 0, 1) := by decide +kernel
theorem dX7_readLawLine_111 : decode cX7_readLawLine 111 = .ok (.getfield 77, 3) := by decide +kernel
theorem dX7_readLawLine_114 : decode cX7_readLawLine 114 = .ok (.iastore, 1) := by decide +kernel
theorem dX7_readLawLine_115 : decode cX7_readLawLine 115 = .ok (.aload_n 0, 1) := by decide +kernel
theorem dX7_readLawLine_116 : decode cX7_readLawLine 116 = .ok (.getfield 53, 3) := by decide +kernel
theorem dX7_readLawLine_119 : decode cX7_readLawLine 119 = .ok (.sipush 134, 3) := by decide +kernel
theorem dX7_readLawLine_122 : decode cX7_readLawLine 122 = .ok (.if_icmp .ne 17, 3) := by decide +kernel
theorem dX7_readLawLine_125 : decode cX7_readLawLine 125 = .ok (.aload_n 0, 1) := by decide +kernel
theorem dX7_readLawLine_126 : decode cX7_readLawLine 126 = .ok (.invokevirtual 83, 3) := by decide +kernel
theorem dX7_readLawLine_129 : decode cX7_readLawLine 129 = .ok (.aload_n 0, 1) := by decide +kernel
theorem dX7_readLawLine_130 : decode cX7_readLawLine 130 = .ok (.iconst 0, 1) := by decide +kernel
theorem dX7_readLawLine_131 : decode cX7_readLawLine 131 = .ok (.invokevirtual 115, 3) := by decide +kernel
theorem dX7_readLawLine_134 : decode cX7_readLawLine 134 = .ok (.ifCond .ne 5, 3) := by decide +kernel
theorem dX7_readLawLine_137 : decode cX7_readLawLine 137 = .ok (.iconst 0, 1) := by decide +kernel
theorem dX7_readLawLine_138 : decode cX7_readLawLine 138 = .ok (.ireturn, 1) := by decide +kernel
theorem dX7_readLawLine_139 : decode cX7_readLawLine 139 = .ok (.aload_n 0, 1) := by decide +kernel
theorem dX7_readLawLine_140 : decode cX7_readLawLine 140 = .ok (.bipush 59, 2) := by decide +kernel
theorem dX7_readLawLine_142 : decode cX7_readLawLine 142 = .ok (.invokevirtual 105, 3) := by decide +kernel
theorem dX7_readLawLine_145 : decode cX7_readLawLine 145 = .ok (.ifCond .ne 5, 3) := by decide +kernel
theorem dX7_readLawLine_148 : decode cX7_readLawLine 148 = .ok (.iconst 0, 1) := by decide +kernel
theorem dX7_readLawLine_149 : decode cX7_readLawLine 149 = .ok (.ireturn, 1) := by decide +kernel
theorem dX7_readLawLine_150 : decode cX7_readLawLine 150 = .ok (.aload_n 0, 1) := by decide +kernel
theorem dX7_readLawLine_151 : decode cX7_readLawLine 151 = .ok (.dup, 1) := by decide +kernel
theorem dX7_readLawLine_152 : decode cX7_readLawLine 152 = .ok (.getfield 74, 3) := by decide +kernel
theorem dX7_readLawLine_155 : decode cX7_readLawLine 155 = .ok (.iconst 1, 1) := by decide +kernel
theorem dX7_readLawLine_156 : decode cX7_readLawLine 156 = .ok (.iadd, 1) := by decide +kernel
theorem dX7_readLawLine_157 : decode cX7_readLawLine 157 = .ok (.putfield 74, 3) := by decide +kernel
theorem dX7_readLawLine_160 : decode cX7_readLawLine 160 = .ok (.aload_n 0, 1) := by decide +kernel
theorem dX7_readLawLine_161 : decode cX7_readLawLine 161 = .ok (.getfield 29, 3) := by decide +kernel
theorem dX7_readLawLine_164 : decode cX7_readLawLine 164 = .ok (.aload_n 0, 1) := by decide +kernel
theorem dX7_readLawLine_165 : decode cX7_readLawLine 165 = .ok (.getfield 74, 3) := by decide +kernel
theorem dX7_readLawLine_168 : decode cX7_readLawLine 168 = .ok (.aload_n 0, 1) := by decide +kernel
theorem dX7_readLawLine_169 : decode cX7_readLawLine 169 = .ok (.getfield 77, 3) := by decide +kernel
theorem dX7_readLawLine_172 : decode cX7_readLawLine 172 = .ok (.iastore, 1) := by decide +kernel
theorem dX7_readLawLine_173 : decode cX7_readLawLine 173 = .ok (.iconst 1, 1) := by decide +kernel
theorem dX7_readLawLine_174 : decode cX7_readLawLine 174 = .ok (.ireturn, 1) := by decide +kernel
set_option maxHeartbeats 4000000 in
set_option maxRecDepth 100000 in
theorem c_X7_readLawLine (l : Launch) (D : va_G) (tys : List (ClassId × FieldType)) (base : Nat) (G : iv_G) (h0 : Nat) (g_h0 : Nat → Int32) (r_h0 : Nat → Nat) (a_h0 : G h0 = some (7, g_h0, r_h0)) (n_g_h0 : iv_R 0 400 (g_h0 1)) : Met l yX7_readLawLine (Cond.code yX7_readLawLine cX7_readLawLine 2 (some .boolean) :: iv_W0) ({ frames := 34, cells := 0, slots := 0, locals := 790 }) (iv_Pc iv_sh D classes tys base G [.ref h0]) (iv_Qi iv_sh D classes tys base (fun v G' => (iv_Md0 [7, 34, 35, 36, 37, 38] G G' ∧ (∀ (g' : Nat → Int32) (r' : Nat → Nat), G' h0 = some (7, g', r') → iv_R 0 400 (g' 1))) ∧ iv_R 0 1 v)) 0 0 (iv_A base) := by
  refine iv_head (by decide) (Nat.le_of_ble_eq_true rfl) ?_
  intro p e s m args below meth c ls X hr hlocks hname hB hl
  have X := X
  have hx := X.1.1
  have hb := X.1.2.1
  have hM : iv_Md0 [7, 34, 35, 36, 37, 38] G G := iv_Md0.rf
  have hl : lv_has ls 2 [(0, .ref h0)] := hl
  refine lv_aload_n hx hb dX7_readLawLine_0 rfl (lv_at hl 0 rfl) ?_
  refine iv_geti X ft_X7 hB a_h0 sh_7 4 (by decide) rfl k_fl_X7_60 dX7_readLawLine_1 (fun x1 e_x1 i_x1 => ?_)
  refine lv_if_eq (tgt := 25) hx hb dX7_readLawLine_4 (by decide) (fun c2 => ?_) (fun c2 => ?_)
  · skip
    have i2_x1 : iv_R 0 0 x1 := (i_x1.cutHi (n := 0) (iv_eq_r c2 q_0).2)
    refine lv_aload_n hx hb dX7_readLawLine_25 rfl (lv_at hl 0 rfl) ?_
    refine iv_geti X ft_X7 hB a_h0 sh_7 2 (by decide) rfl k_fl_X7_53 dX7_readLawLine_26 (fun x4 e_x4 i_x4 => ?_)
    refine lv_sipush (v := 132) hx hb dX7_readLawLine_29 (by decide) ?_
    refine lv_icmp_eq (tgt := 45) hx hb dX7_readLawLine_32 (by decide) (fun c5 => ?_) (fun c5 => ?_)
    · skip
      have i5_x4 : iv_R 132 132 x4 := ((i_x4.cutLo (n := 132) (iv_eq_r c5 q_132).1).cutHi (n := 132) (iv_eq_r c5 q_132).2)
      refine lv_iconst (v := 1) hx hb dX7_readLawLine_45 (by decide) ?_
      refine lv_goto (tgt := 50) hx hb dX7_readLawLine_46 (by decide) ?_
      refine lv_istore_n (lv' := [(1, .int 1), (0, .ref h0)]) hx hb dX7_readLawLine_50 rfl hl (by decide) rfl (fun ls hl => ?_)
      refine lv_iload_n hx hb dX7_readLawLine_51 rfl (lv_at hl 0 rfl) ?_
      refine lv_if_ne (tgt := 61) hx hb dX7_readLawLine_52 (by decide) (fun c7 => ?_) (fun c7 => ?_)
      · skip
        refine lv_aload_n hx hb dX7_readLawLine_61 rfl (lv_at hl 1 rfl) ?_
        refine iv_geti X ft_X7 hB a_h0 sh_7 8 (by decide) rfl k_fl_X7_74 dX7_readLawLine_62 (fun x8 e_x8 i_x8 => ?_)
        refine lv_bipush (v := 16) hx hb dX7_readLawLine_65 (by decide) ?_
        refine lv_icmp_lt (tgt := 76) hx hb dX7_readLawLine_67 (by decide) (fun c9 => ?_) (fun c9 => ?_)
        · skip
          have i9_x8 : iv_R 0 15 x8 := (i_x8.cutHi (n := 15) (iv_lt_r c9 q_16 (by decide)))
          refine lv_aload_n hx hb dX7_readLawLine_76 rfl (lv_at hl 1 rfl) ?_
          refine iv_getr X ft_X7 hB a_h0 sh_7 10 (by decide) rfl k_fl_X7_26 dX7_readLawLine_77 (fun b11 g_b11 r_b11 e_b11 a_b11 => ?_)
          refine lv_aload_n hx hb dX7_readLawLine_80 rfl (lv_at hl 1 rfl) ?_
          refine iv_geti0 X ft_X7 hB a_h0 sh_7 8 (by decide) rfl k_fl_X7_74 dX7_readLawLine_81 e_x8 ?_
          refine lv_aload_n hx hb dX7_readLawLine_84 rfl (lv_at hl 1 rfl) ?_
          refine iv_geti0 X ft_X7 hB a_h0 sh_7 2 (by decide) rfl k_fl_X7_53 dX7_readLawLine_85 e_x4 ?_
          refine iv_ast X hB a_b11 sh_34 (iv_in i9_x8 (by decide)) (i5_x4.wk (by decide)) dX7_readLawLine_88 (fun H locs hB => ?_)
          have hm := iv_Md.ast (j := x8.toNatClampNeg) (x := x4) a_b11 rfl (by decide)
          have h9 := iv_up_eq (G := G) (a := b11) (k := (34, upd g_b11 x8.toNatClampNeg x4, r_b11))
          generalize iv_up G b11 _ = G12 at hB hm h9
          have hM := hM.stp hm.weak (by decide)
          have a_h0 := hm.at a_h0 (by decide)
          refine lv_aload_n hx hb dX7_readLawLine_89 rfl (lv_at hl 1 rfl) ?_
          refine iv_cVv X k_good k_mf_X7_step k_im_X7_step k_sel_X7_step k_ml_X7_83 ft_X7 hB a_h0 sh_7 (As := []) (c_X7_step l D tys base G12 h0 g_h0 r_h0 a_h0) ⟨rfl, rfl⟩ ⟨Nat.le_of_ble_eq_true rfl, Nat.le_of_ble_eq_true rfl⟩ ⟨Nat.le_of_ble_eq_true rfl, Nat.le_of_ble_eq_true rfl⟩ rfl rfl hl.1 (Nat.le_of_ble_eq_true rfl) dX7_readLawLine_90 (fun G9 H locs hq hB => ?_)
          obtain ⟨hm, vg⟩ := hq
          obtain ⟨G14, hG9⟩ : ∃ g, g = G9 := ⟨_, rfl⟩
          rw [← hG9] at hm hB vg
          have hM := hM.stp hm.weak (by decide)
          obtain ⟨g15, r16, a_h0, f_g15⟩ := hm.ex a_h0
          have n_g15 := iv_nxt hB a_h0 f_g15 n_g_h0
          have e17 : x8 = g15 8 := e_x8.trans (f_g15.2.1 8 (show (8 : Nat) ∈ iv_stab 7 from by decide)).symm
          have e18 : b11 = r16 10 := e_b11.trans (f_g15.1 10 (fun h => absurd (show (7 : Nat) = 5 from h) (by decide))).symm
          have vg19 := vg _ _ a_h0
          refine lv_aload_n hx hb dX7_readLawLine_93 rfl (lv_at hl 1 rfl) ?_
          refine iv_cVi X k_good k_mf_X7_readSum k_im_X7_readSum k_sel_X7_readSum k_ml_X7_112 ft_X7 hB a_h0 sh_7 (As := []) (c_X7_readSum l D tys base G14 h0 g15 r16 a_h0 vg19) ⟨rfl, rfl⟩ ⟨Nat.le_of_ble_eq_true rfl, Nat.le_of_ble_eq_true rfl⟩ ⟨Nat.le_of_ble_eq_true rfl, Nat.le_of_ble_eq_true rfl⟩ rfl rfl hl.1 (Nat.le_of_ble_eq_true rfl) dX7_readLawLine_94 (fun x20 G9 H locs hq hB => ?_)
          obtain ⟨hm, i_x20⟩ := hq
          obtain ⟨G21, hG9⟩ : ∃ g, g = G9 := ⟨_, rfl⟩
          rw [← hG9] at hm hB
          have hM := hM.stp hm.weak (by decide)
          obtain ⟨g22, r23, a_h0, f_g22⟩ := hm.ex a_h0
          have n_g22 := iv_nxt hB a_h0 f_g22 vg19
          have e24 : x8 = g22 8 := e17.trans (f_g22.2.1 8 (show (8 : Nat) ∈ iv_stab 7 from by decide)).symm
          have e25 : b11 = r23 10 := e18.trans (f_g22.1 10 (fun h => absurd (show (7 : Nat) = 5 from h) (by decide))).symm
          refine lv_if_ne (tgt := 102) hx hb dX7_readLawLine_97 (by decide) (fun c26 => ?_) (fun c26 => ?_)
          · skip
            have i26_x20 : iv_R 1 1 x20 := iv_ne_lo c26 i_x20 q_0 (by decide)
            refine lv_aload_n hx hb dX7_readLawLine_102 rfl (lv_at hl 1 rfl) ?_
            refine iv_getr X ft_X7 hB a_h0 sh_7 12 (by decide) rfl k_fl_X7_32 dX7_readLawLine_103 (fun b28 g_b28 r_b28 e_b28 a_b28 => ?_)
            refine lv_aload_n hx hb dX7_readLawLine_106 rfl (lv_at hl 1 rfl) ?_
            refine iv_geti0 X ft_X7 hB a_h0 sh_7 8 (by decide) rfl k_fl_X7_74 dX7_readLawLine_107 e24 ?_
            refine lv_aload_n hx hb dX7_readLawLine_110 rfl (lv_at hl 1 rfl) ?_
            refine iv_geti X ft_X7 hB a_h0 sh_7 5 (by decide) rfl k_fl_X7_77 dX7_readLawLine_111 (fun x29 e_x29 i_x29 => ?_)
            refine iv_ast X hB a_b28 sh_36 (iv_in i9_x8 (by decide)) i_x29 dX7_readLawLine_114 (fun H locs hB => ?_)
            have hm := iv_Md.ast (j := x8.toNatClampNeg) (x := x29) a_b28 rfl (by decide)
            have h9 := iv_up_eq (G := G21) (a := b28) (k := (36, upd g_b28 x8.toNatClampNeg x29, r_b28))
            generalize iv_up G21 b28 _ = G30 at hB hm h9
            have hM := hM.stp hm.weak (by decide)
            have a_h0 := hm.at a_h0 (by decide)
            refine lv_aload_n hx hb dX7_readLawLine_115 rfl (lv_at hl 1 rfl) ?_
            refine iv_geti X ft_X7 hB a_h0 sh_7 2 (by decide) rfl k_fl_X7_53 dX7_readLawLine_116 (fun x32 e_x32 i_x32 => ?_)
            refine lv_sipush (v := 134) hx hb dX7_readLawLine_119 (by decide) ?_
            refine lv_icmp_ne (tgt := 139) hx hb dX7_readLawLine_122 (by decide) (fun c33 => ?_) (fun c33 => ?_)
            · skip
              refine lv_aload_n hx hb dX7_readLawLine_139 rfl (lv_at hl 1 rfl) ?_
              refine lv_bipush (v := 59) hx hb dX7_readLawLine_140 (by decide) ?_
              refine iv_cVi X k_good k_mf_X7_takes k_im_X7_takes k_sel_X7_takes k_ml_X7_105 ft_X7 hB a_h0 sh_7 (As := [.int 59]) (c_X7_takes l D tys base G30 h0 g22 r23 a_h0 n_g22 59 (q_59.wk (by decide))) ⟨rfl, rfl⟩ ⟨Nat.le_of_ble_eq_true rfl, Nat.le_of_ble_eq_true rfl⟩ ⟨Nat.le_of_ble_eq_true rfl, Nat.le_of_ble_eq_true rfl⟩ rfl rfl hl.1 (Nat.le_of_ble_eq_true rfl) dX7_readLawLine_142 (fun x34 G9 H locs hq hB => ?_)
              obtain ⟨hm, i_x34, eq35⟩ := hq
              obtain ⟨G36, hG9⟩ : ∃ g, g = G9 := ⟨_, rfl⟩
              rw [← hG9] at hm hB
              have hM := hM.stp hm.weak (by decide)
              obtain ⟨g37, r38, a_h0, f_g37⟩ := hm.ex a_h0
              have n_g37 := iv_nxt hB a_h0 f_g37 n_g22
              have e39 : x8 = g37 8 := e24.trans (f_g37.2.1 8 (show (8 : Nat) ∈ iv_stab 7 from by decide)).symm
              have e40 : b11 = r38 10 := e25.trans (f_g37.1 10 (fun h => absurd (show (7 : Nat) = 5 from h) (by decide))).symm
              have e41 : b28 = r38 12 := e_b28.trans (f_g37.1 12 (fun h => absurd (show (7 : Nat) = 5 from h) (by decide))).symm
              refine lv_if_ne (tgt := 150) hx hb dX7_readLawLine_145 (by decide) (fun c42 => ?_) (fun c42 => ?_)
              · skip
                have i42_x34 : iv_R 1 1 x34 := iv_ne_lo c42 i_x34 q_0 (by decide)
                refine lv_aload_n hx hb dX7_readLawLine_150 rfl (lv_at hl 1 rfl) ?_
                refine lv_dup hx hb dX7_readLawLine_151 rfl ?_
                refine iv_geti0 X ft_X7 hB a_h0 sh_7 8 (by decide) rfl k_fl_X7_74 dX7_readLawLine_152 e39 ?_
                refine lv_iconst (v := 1) hx hb dX7_readLawLine_155 (by decide) ?_
                refine iv_iadd hx hb i9_x8 q_1 (lo := 1) (hi := 16) (by decide) dX7_readLawLine_156 (fun x44 e_x44 i_x44 => ?_)
                refine iv_puti X ft_X7 hB a_h0 sh_7 8 (by decide) rfl rfl k_fl_X7_74 rfl (i_x44.wk (by decide)) rfl rfl dX7_readLawLine_157 (fun H locs hB => ?_)
                have hm := iv_Md0.put (x := x44) a_h0 (j := 8) (fun h => absurd rfl h)
                have h9 := iv_up_eq (G := G36) (a := h0) (k := (7, upd g37 8 x44, r38))
                generalize iv_up G36 h0 _ = G45 at hB hm h9
                have hM := hM.stp hm (by decide)
                generalize hgn_g46 : upd g37 _ _ = g46 at h9
                have a_h0 := h9
                have e9_g46 : x44 = g46 8 := by rw [← hgn_g46]; simp [upd]
                have n_g46 : iv_R 0 400 (g46 1) := by rw [← hgn_g46]; exact n_g37
                refine lv_aload_n hx hb dX7_readLawLine_160 rfl (lv_at hl 1 rfl) ?_
                refine iv_getr X ft_X7 hB a_h0 sh_7 11 (by decide) rfl k_fl_X7_29 dX7_readLawLine_161 (fun b47 g_b47 r_b47 e_b47 a_b47 => ?_)
                refine lv_aload_n hx hb dX7_readLawLine_164 rfl (lv_at hl 1 rfl) ?_
                refine iv_geti0 X ft_X7 hB a_h0 sh_7 8 (by decide) rfl k_fl_X7_74 dX7_readLawLine_165 e9_g46 ?_
                refine lv_aload_n hx hb dX7_readLawLine_168 rfl (lv_at hl 1 rfl) ?_
                refine iv_geti X ft_X7 hB a_h0 sh_7 5 (by decide) rfl k_fl_X7_77 dX7_readLawLine_169 (fun x48 e_x48 i_x48 => ?_)
                refine iv_ast X hB a_b47 sh_35 (iv_in i_x44 (by decide)) i_x48 dX7_readLawLine_172 (fun H locs hB => ?_)
                have hm := iv_Md.ast (j := x44.toNatClampNeg) (x := x48) a_b47 rfl (by decide)
                have h9 := iv_up_eq (G := G45) (a := b47) (k := (35, upd g_b47 x44.toNatClampNeg x48, r_b47))
                generalize iv_up G45 b47 _ = G49 at hB hm h9
                have hM := hM.stp hm.weak (by decide)
                have a_h0 := hm.at a_h0 (by decide)
                refine lv_iconst (v := 1) hx hb dX7_readLawLine_173 (by decide) ?_
                exact iv_zret X hr hlocks hB (q_1.wk (by decide)) ⟨⟨hM, fun g9 r9 h9 => by have h8 := a_h0.symm.trans h9; cases h8; exact n_g46⟩, (q_1.wk (by decide))⟩ dX7_readLawLine_174
              · skip
                have i50_x34 : iv_R 0 0 x34 := (i_x34.cutHi (n := 0) (iv_eq_r c42 q_0).2)
                refine lv_iconst (v := 0) hx hb dX7_readLawLine_148 (by decide) ?_
                exact iv_zret X hr hlocks hB (q_0.wk (by decide)) ⟨⟨hM, fun g9 r9 h9 => by have h8 := a_h0.symm.trans h9; cases h8; exact n_g37⟩, (q_0.wk (by decide))⟩ dX7_readLawLine_149
            · skip
              have i51_x32 : iv_R 134 134 x32 := ((i_x32.cutLo (n := 134) (iv_eq_r c33 q_134).1).cutHi (n := 134) (iv_eq_r c33 q_134).2)
              refine lv_aload_n hx hb dX7_readLawLine_125 rfl (lv_at hl 1 rfl) ?_
              refine iv_cVv X k_good k_mf_X7_step k_im_X7_step k_sel_X7_step k_ml_X7_83 ft_X7 hB a_h0 sh_7 (As := []) (c_X7_step l D tys base G30 h0 g22 r23 a_h0) ⟨rfl, rfl⟩ ⟨Nat.le_of_ble_eq_true rfl, Nat.le_of_ble_eq_true rfl⟩ ⟨Nat.le_of_ble_eq_true rfl, Nat.le_of_ble_eq_true rfl⟩ rfl rfl hl.1 (Nat.le_of_ble_eq_true rfl) dX7_readLawLine_126 (fun G9 H locs hq hB => ?_)
              obtain ⟨hm, vg⟩ := hq
              obtain ⟨G53, hG9⟩ : ∃ g, g = G9 := ⟨_, rfl⟩
              rw [← hG9] at hm hB vg
              have hM := hM.stp hm.weak (by decide)
              obtain ⟨g54, r55, a_h0, f_g54⟩ := hm.ex a_h0
              have n_g54 := iv_nxt hB a_h0 f_g54 n_g22
              have e56 : x8 = g54 8 := e24.trans (f_g54.2.1 8 (show (8 : Nat) ∈ iv_stab 7 from by decide)).symm
              have e57 : b11 = r55 10 := e25.trans (f_g54.1 10 (fun h => absurd (show (7 : Nat) = 5 from h) (by decide))).symm
              have e58 : b28 = r55 12 := e_b28.trans (f_g54.1 12 (fun h => absurd (show (7 : Nat) = 5 from h) (by decide))).symm
              have vg59 := vg _ _ a_h0
              refine lv_aload_n hx hb dX7_readLawLine_129 rfl (lv_at hl 1 rfl) ?_
              refine lv_iconst (v := 0) hx hb dX7_readLawLine_130 (by decide) ?_
              refine iv_cVi X k_good k_mf_X7_readChoice k_im_X7_readChoice k_sel_X7_readChoice k_ml_X7_115 ft_X7 hB a_h0 sh_7 (As := [.int 0]) (c_X7_readChoice l D tys base G53 h0 g54 r55 a_h0 vg59 0 (q_0.wk (by decide))) ⟨rfl, rfl⟩ ⟨Nat.le_of_ble_eq_true rfl, Nat.le_of_ble_eq_true rfl⟩ ⟨Nat.le_of_ble_eq_true rfl, Nat.le_of_ble_eq_true rfl⟩ rfl rfl hl.1 (Nat.le_of_ble_eq_true rfl) dX7_readLawLine_131 (fun x60 G9 H locs hq hB => ?_)
              obtain ⟨hm, i_x60⟩ := hq
              obtain ⟨G61, hG9⟩ : ∃ g, g = G9 := ⟨_, rfl⟩
              rw [← hG9] at hm hB
              have hM := hM.stp hm.weak (by decide)
              obtain ⟨g62, r63, a_h0, f_g62⟩ := hm.ex a_h0
              have n_g62 := iv_nxt hB a_h0 f_g62 vg59
              have e64 : x8 = g62 8 := e56.trans (f_g62.2.1 8 (show (8 : Nat) ∈ iv_stab 7 from by decide)).symm
              have e65 : b11 = r63 10 := e57.trans (f_g62.1 10 (fun h => absurd (show (7 : Nat) = 5 from h) (by decide))).symm
              have e66 : b28 = r63 12 := e58.trans (f_g62.1 12 (fun h => absurd (show (7 : Nat) = 5 from h) (by decide))).symm
              refine lv_if_ne (tgt := 139) hx hb dX7_readLawLine_134 (by decide) (fun c67 => ?_) (fun c67 => ?_)
              · skip
                have i67_x60 : iv_R 1 1 x60 := iv_ne_lo c67 i_x60 q_0 (by decide)
                refine lv_aload_n hx hb dX7_readLawLine_139 rfl (lv_at hl 1 rfl) ?_
                refine lv_bipush (v := 59) hx hb dX7_readLawLine_140 (by decide) ?_
                refine iv_cVi X k_good k_mf_X7_takes k_im_X7_takes k_sel_X7_takes k_ml_X7_105 ft_X7 hB a_h0 sh_7 (As := [.int 59]) (c_X7_takes l D tys base G61 h0 g62 r63 a_h0 n_g62 59 (q_59.wk (by decide))) ⟨rfl, rfl⟩ ⟨Nat.le_of_ble_eq_true rfl, Nat.le_of_ble_eq_true rfl⟩ ⟨Nat.le_of_ble_eq_true rfl, Nat.le_of_ble_eq_true rfl⟩ rfl rfl hl.1 (Nat.le_of_ble_eq_true rfl) dX7_readLawLine_142 (fun x69 G9 H locs hq hB => ?_)
                obtain ⟨hm, i_x69, eq70⟩ := hq
                obtain ⟨G71, hG9⟩ : ∃ g, g = G9 := ⟨_, rfl⟩
                rw [← hG9] at hm hB
                have hM := hM.stp hm.weak (by decide)
                obtain ⟨g72, r73, a_h0, f_g72⟩ := hm.ex a_h0
                have n_g72 := iv_nxt hB a_h0 f_g72 n_g62
                have e74 : x8 = g72 8 := e64.trans (f_g72.2.1 8 (show (8 : Nat) ∈ iv_stab 7 from by decide)).symm
                have e75 : b11 = r73 10 := e65.trans (f_g72.1 10 (fun h => absurd (show (7 : Nat) = 5 from h) (by decide))).symm
                have e76 : b28 = r73 12 := e66.trans (f_g72.1 12 (fun h => absurd (show (7 : Nat) = 5 from h) (by decide))).symm
                refine lv_if_ne (tgt := 150) hx hb dX7_readLawLine_145 (by decide) (fun c77 => ?_) (fun c77 => ?_)
                · skip
                  have i77_x69 : iv_R 1 1 x69 := iv_ne_lo c77 i_x69 q_0 (by decide)
                  refine lv_aload_n hx hb dX7_readLawLine_150 rfl (lv_at hl 1 rfl) ?_
                  refine lv_dup hx hb dX7_readLawLine_151 rfl ?_
                  refine iv_geti0 X ft_X7 hB a_h0 sh_7 8 (by decide) rfl k_fl_X7_74 dX7_readLawLine_152 e74 ?_
                  refine lv_iconst (v := 1) hx hb dX7_readLawLine_155 (by decide) ?_
                  refine iv_iadd hx hb i9_x8 q_1 (lo := 1) (hi := 16) (by decide) dX7_readLawLine_156 (fun x79 e_x79 i_x79 => ?_)
                  refine iv_puti X ft_X7 hB a_h0 sh_7 8 (by decide) rfl rfl k_fl_X7_74 rfl (i_x79.wk (by decide)) rfl rfl dX7_readLawLine_157 (fun H locs hB => ?_)
                  have hm := iv_Md0.put (x := x79) a_h0 (j := 8) (fun h => absurd rfl h)
                  have h9 := iv_up_eq (G := G71) (a := h0) (k := (7, upd g72 8 x79, r73))
                  generalize iv_up G71 h0 _ = G80 at hB hm h9
                  have hM := hM.stp hm (by decide)
                  generalize hgn_g81 : upd g72 _ _ = g81 at h9
                  have a_h0 := h9
                  have e9_g81 : x79 = g81 8 := by rw [← hgn_g81]; simp [upd]
                  have n_g81 : iv_R 0 400 (g81 1) := by rw [← hgn_g81]; exact n_g72
                  refine lv_aload_n hx hb dX7_readLawLine_160 rfl (lv_at hl 1 rfl) ?_
                  refine iv_getr X ft_X7 hB a_h0 sh_7 11 (by decide) rfl k_fl_X7_29 dX7_readLawLine_161 (fun b82 g_b82 r_b82 e_b82 a_b82 => ?_)
                  refine lv_aload_n hx hb dX7_readLawLine_164 rfl (lv_at hl 1 rfl) ?_
                  refine iv_geti0 X ft_X7 hB a_h0 sh_7 8 (by decide) rfl k_fl_X7_74 dX7_readLawLine_165 e9_g81 ?_
                  refine lv_aload_n hx hb dX7_readLawLine_168 rfl (lv_at hl 1 rfl) ?_
                  refine iv_geti X ft_X7 hB a_h0 sh_7 5 (by decide) rfl k_fl_X7_77 dX7_readLawLine_169 (fun x83 e_x83 i_x83 => ?_)
                  refine iv_ast X hB a_b82 sh_35 (iv_in i_x79 (by decide)) i_x83 dX7_readLawLine_172 (fun H locs hB => ?_)
                  have hm := iv_Md.ast (j := x79.toNatClampNeg) (x := x83) a_b82 rfl (by decide)
                  have h9 := iv_up_eq (G := G80) (a := b82) (k := (35, upd g_b82 x79.toNatClampNeg x83, r_b82))
                  generalize iv_up G80 b82 _ = G84 at hB hm h9
                  have hM := hM.stp hm.weak (by decide)
                  have a_h0 := hm.at a_h0 (by decide)
                  refine lv_iconst (v := 1) hx hb dX7_readLawLine_173 (by decide) ?_
                  exact iv_zret X hr hlocks hB (q_1.wk (by decide)) ⟨⟨hM, fun g9 r9 h9 => by have h8 := a_h0.symm.trans h9; cases h8; exact n_g81⟩, (q_1.wk (by decide))⟩ dX7_readLawLine_174
                · skip
                  have i85_x69 : iv_R 0 0 x69 := (i_x69.cutHi (n := 0) (iv_eq_r c77 q_0).2)
                  refine lv_iconst (v := 0) hx hb dX7_readLawLine_148 (by decide) ?_
                  exact iv_zret X hr hlocks hB (q_0.wk (by decide)) ⟨⟨hM, fun g9 r9 h9 => by have h8 := a_h0.symm.trans h9; cases h8; exact n_g72⟩, (q_0.wk (by decide))⟩ dX7_readLawLine_149
              · skip
                have i86_x60 : iv_R 0 0 x60 := (i_x60.cutHi (n := 0) (iv_eq_r c67 q_0).2)
                refine lv_iconst (v := 0) hx hb dX7_readLawLine_137 (by decide) ?_
                exact iv_zret X hr hlocks hB (q_0.wk (by decide)) ⟨⟨hM, fun g9 r9 h9 => by have h8 := a_h0.symm.trans h9; cases h8; exact n_g62⟩, (q_0.wk (by decide))⟩ dX7_readLawLine_138
          · skip
            have i87_x20 : iv_R 0 0 x20 := (i_x20.cutHi (n := 0) (iv_eq_r c26 q_0).2)
            refine lv_iconst (v := 0) hx hb dX7_readLawLine_100 (by decide) ?_
            exact iv_zret X hr hlocks hB (q_0.wk (by decide)) ⟨⟨hM, fun g9 r9 h9 => by have h8 := a_h0.symm.trans h9; cases h8; exact n_g22⟩, (q_0.wk (by decide))⟩ dX7_readLawLine_101
        · skip
          have i88_x8 : iv_R 16 20 x8 := (i_x8.cutLo (n := 16) (iv_le_l (iv_nlt c9) q_16))
          refine lv_aload_n hx hb dX7_readLawLine_70 rfl (lv_at hl 1 rfl) ?_
          refine lv_iconst (v := 3) hx hb dX7_readLawLine_71 (by decide) ?_
          refine iv_cVi X k_good k_mf_X7_refuse k_im_X7_refuse k_sel_X7_refuse k_ml_X7_98 ft_X7 hB a_h0 sh_7 (As := [.int 3]) (c_X7_refuse l D tys base G h0 g_h0 r_h0 a_h0 n_g_h0 3 (q_3.wk (by decide))) ⟨rfl, rfl⟩ ⟨Nat.le_of_ble_eq_true rfl, Nat.le_of_ble_eq_true rfl⟩ ⟨Nat.le_of_ble_eq_true rfl, Nat.le_of_ble_eq_true rfl⟩ rfl rfl hl.1 (Nat.le_of_ble_eq_true rfl) dX7_readLawLine_72 (fun x90 G9 H locs hq hB => ?_)
          obtain ⟨hm, i_x90⟩ := hq
          obtain ⟨G91, hG9⟩ : ∃ g, g = G9 := ⟨_, rfl⟩
          rw [← hG9] at hm hB
          have hM := hM.stp hm.weak (by decide)
          obtain ⟨g92, r93, a_h0, f_g92⟩ := hm.ex a_h0
          have n_g92 := iv_nxt hB a_h0 f_g92 n_g_h0
          have e94 : x8 = g92 8 := e_x8.trans (f_g92.2.1 8 (show (8 : Nat) ∈ iv_stab 7 from by decide)).symm
          exact iv_zret X hr hlocks hB (i_x90.wk (by decide)) ⟨⟨hM, fun g9 r9 h9 => by have h8 := a_h0.symm.trans h9; cases h8; exact n_g92⟩, (i_x90.wk (by decide))⟩ dX7_readLawLine_75
      · skip
        exact (q_1.cutHi (n := 0) (iv_eq_r c7 q_0).2).no (by decide)
    · skip
      refine lv_aload_n hx hb dX7_readLawLine_35 rfl (lv_at hl 0 rfl) ?_
      refine iv_geti0 X ft_X7 hB a_h0 sh_7 2 (by decide) rfl k_fl_X7_53 dX7_readLawLine_36 e_x4 ?_
      refine lv_sipush (v := 133) hx hb dX7_readLawLine_39 (by decide) ?_
      refine lv_icmp_ne (tgt := 49) hx hb dX7_readLawLine_42 (by decide) (fun c95 => ?_) (fun c95 => ?_)
      · skip
        refine lv_iconst (v := 0) hx hb dX7_readLawLine_49 (by decide) ?_
        refine lv_istore_n (lv' := [(1, .int 0), (0, .ref h0)]) hx hb dX7_readLawLine_50 rfl hl (by decide) rfl (fun ls hl => ?_)
        refine lv_iload_n hx hb dX7_readLawLine_51 rfl (lv_at hl 0 rfl) ?_
        refine lv_if_ne (tgt := 61) hx hb dX7_readLawLine_52 (by decide) (fun c96 => ?_) (fun c96 => ?_)
        · skip
          exact absurd rfl c96
        · skip
          refine lv_aload_n hx hb dX7_readLawLine_55 rfl (lv_at hl 1 rfl) ?_
          refine lv_iconst (v := 1) hx hb dX7_readLawLine_56 (by decide) ?_
          refine iv_cVi X k_good k_mf_X7_refuse k_im_X7_refuse k_sel_X7_refuse k_ml_X7_98 ft_X7 hB a_h0 sh_7 (As := [.int 1]) (c_X7_refuse l D tys base G h0 g_h0 r_h0 a_h0 n_g_h0 1 (q_1.wk (by decide))) ⟨rfl, rfl⟩ ⟨Nat.le_of_ble_eq_true rfl, Nat.le_of_ble_eq_true rfl⟩ ⟨Nat.le_of_ble_eq_true rfl, Nat.le_of_ble_eq_true rfl⟩ rfl rfl hl.1 (Nat.le_of_ble_eq_true rfl) dX7_readLawLine_57 (fun x97 G9 H locs hq hB => ?_)
          obtain ⟨hm, i_x97⟩ := hq
          obtain ⟨G98, hG9⟩ : ∃ g, g = G9 := ⟨_, rfl⟩
          rw [← hG9] at hm hB
          have hM := hM.stp hm.weak (by decide)
          obtain ⟨g99, r100, a_h0, f_g99⟩ := hm.ex a_h0
          have n_g99 := iv_nxt hB a_h0 f_g99 n_g_h0
          exact iv_zret X hr hlocks hB (i_x97.wk (by decide)) ⟨⟨hM, fun g9 r9 h9 => by have h8 := a_h0.symm.trans h9; cases h8; exact n_g99⟩, (i_x97.wk (by decide))⟩ dX7_readLawLine_60
      · skip
        have i100_x4 : iv_R 133 133 x4 := ((i_x4.cutLo (n := 133) (iv_eq_r c95 q_133).1).cutHi (n := 133) (iv_eq_r c95 q_133).2)
        refine lv_iconst (v := 1) hx hb dX7_readLawLine_45 (by decide) ?_
        refine lv_goto (tgt := 50) hx hb dX7_readLawLine_46 (by decide) ?_
        refine lv_istore_n (lv' := [(1, .int 1), (0, .ref h0)]) hx hb dX7_readLawLine_50 rfl hl (by decide) rfl (fun ls hl => ?_)
        refine lv_iload_n hx hb dX7_readLawLine_51 rfl (lv_at hl 0 rfl) ?_
        refine lv_if_ne (tgt := 61) hx hb dX7_readLawLine_52 (by decide) (fun c102 => ?_) (fun c102 => ?_)
        · skip
          refine lv_aload_n hx hb dX7_readLawLine_61 rfl (lv_at hl 1 rfl) ?_
          refine iv_geti X ft_X7 hB a_h0 sh_7 8 (by decide) rfl k_fl_X7_74 dX7_readLawLine_62 (fun x103 e_x103 i_x103 => ?_)
          refine lv_bipush (v := 16) hx hb dX7_readLawLine_65 (by decide) ?_
          refine lv_icmp_lt (tgt := 76) hx hb dX7_readLawLine_67 (by decide) (fun c104 => ?_) (fun c104 => ?_)
          · skip
            have i104_x103 : iv_R 0 15 x103 := (i_x103.cutHi (n := 15) (iv_lt_r c104 q_16 (by decide)))
            refine lv_aload_n hx hb dX7_readLawLine_76 rfl (lv_at hl 1 rfl) ?_
            refine iv_getr X ft_X7 hB a_h0 sh_7 10 (by decide) rfl k_fl_X7_26 dX7_readLawLine_77 (fun b106 g_b106 r_b106 e_b106 a_b106 => ?_)
            refine lv_aload_n hx hb dX7_readLawLine_80 rfl (lv_at hl 1 rfl) ?_
            refine iv_geti0 X ft_X7 hB a_h0 sh_7 8 (by decide) rfl k_fl_X7_74 dX7_readLawLine_81 e_x103 ?_
            refine lv_aload_n hx hb dX7_readLawLine_84 rfl (lv_at hl 1 rfl) ?_
            refine iv_geti0 X ft_X7 hB a_h0 sh_7 2 (by decide) rfl k_fl_X7_53 dX7_readLawLine_85 e_x4 ?_
            refine iv_ast X hB a_b106 sh_34 (iv_in i104_x103 (by decide)) (i100_x4.wk (by decide)) dX7_readLawLine_88 (fun H locs hB => ?_)
            have hm := iv_Md.ast (j := x103.toNatClampNeg) (x := x4) a_b106 rfl (by decide)
            have h9 := iv_up_eq (G := G) (a := b106) (k := (34, upd g_b106 x103.toNatClampNeg x4, r_b106))
            generalize iv_up G b106 _ = G107 at hB hm h9
            have hM := hM.stp hm.weak (by decide)
            have a_h0 := hm.at a_h0 (by decide)
            refine lv_aload_n hx hb dX7_readLawLine_89 rfl (lv_at hl 1 rfl) ?_
            refine iv_cVv X k_good k_mf_X7_step k_im_X7_step k_sel_X7_step k_ml_X7_83 ft_X7 hB a_h0 sh_7 (As := []) (c_X7_step l D tys base G107 h0 g_h0 r_h0 a_h0) ⟨rfl, rfl⟩ ⟨Nat.le_of_ble_eq_true rfl, Nat.le_of_ble_eq_true rfl⟩ ⟨Nat.le_of_ble_eq_true rfl, Nat.le_of_ble_eq_true rfl⟩ rfl rfl hl.1 (Nat.le_of_ble_eq_true rfl) dX7_readLawLine_90 (fun G9 H locs hq hB => ?_)
            obtain ⟨hm, vg⟩ := hq
            obtain ⟨G109, hG9⟩ : ∃ g, g = G9 := ⟨_, rfl⟩
            rw [← hG9] at hm hB vg
            have hM := hM.stp hm.weak (by decide)
            obtain ⟨g110, r111, a_h0, f_g110⟩ := hm.ex a_h0
            have n_g110 := iv_nxt hB a_h0 f_g110 n_g_h0
            have e112 : x103 = g110 8 := e_x103.trans (f_g110.2.1 8 (show (8 : Nat) ∈ iv_stab 7 from by decide)).symm
            have e113 : b106 = r111 10 := e_b106.trans (f_g110.1 10 (fun h => absurd (show (7 : Nat) = 5 from h) (by decide))).symm
            have vg114 := vg _ _ a_h0
            refine lv_aload_n hx hb dX7_readLawLine_93 rfl (lv_at hl 1 rfl) ?_
            refine iv_cVi X k_good k_mf_X7_readSum k_im_X7_readSum k_sel_X7_readSum k_ml_X7_112 ft_X7 hB a_h0 sh_7 (As := []) (c_X7_readSum l D tys base G109 h0 g110 r111 a_h0 vg114) ⟨rfl, rfl⟩ ⟨Nat.le_of_ble_eq_true rfl, Nat.le_of_ble_eq_true rfl⟩ ⟨Nat.le_of_ble_eq_true rfl, Nat.le_of_ble_eq_true rfl⟩ rfl rfl hl.1 (Nat.le_of_ble_eq_true rfl) dX7_readLawLine_94 (fun x115 G9 H locs hq hB => ?_)
            obtain ⟨hm, i_x115⟩ := hq
            obtain ⟨G116, hG9⟩ : ∃ g, g = G9 := ⟨_, rfl⟩
            rw [← hG9] at hm hB
            have hM := hM.stp hm.weak (by decide)
            obtain ⟨g117, r118, a_h0, f_g117⟩ := hm.ex a_h0
            have n_g117 := iv_nxt hB a_h0 f_g117 vg114
            have e119 : x103 = g117 8 := e112.trans (f_g117.2.1 8 (show (8 : Nat) ∈ iv_stab 7 from by decide)).symm
            have e120 : b106 = r118 10 := e113.trans (f_g117.1 10 (fun h => absurd (show (7 : Nat) = 5 from h) (by decide))).symm
            refine lv_if_ne (tgt := 102) hx hb dX7_readLawLine_97 (by decide) (fun c121 => ?_) (fun c121 => ?_)
            · skip
              have i121_x115 : iv_R 1 1 x115 := iv_ne_lo c121 i_x115 q_0 (by decide)
              refine lv_aload_n hx hb dX7_readLawLine_102 rfl (lv_at hl 1 rfl) ?_
              refine iv_getr X ft_X7 hB a_h0 sh_7 12 (by decide) rfl k_fl_X7_32 dX7_readLawLine_103 (fun b123 g_b123 r_b123 e_b123 a_b123 => ?_)
              refine lv_aload_n hx hb dX7_readLawLine_106 rfl (lv_at hl 1 rfl) ?_
              refine iv_geti0 X ft_X7 hB a_h0 sh_7 8 (by decide) rfl k_fl_X7_74 dX7_readLawLine_107 e119 ?_
              refine lv_aload_n hx hb dX7_readLawLine_110 rfl (lv_at hl 1 rfl) ?_
              refine iv_geti X ft_X7 hB a_h0 sh_7 5 (by decide) rfl k_fl_X7_77 dX7_readLawLine_111 (fun x124 e_x124 i_x124 => ?_)
              refine iv_ast X hB a_b123 sh_36 (iv_in i104_x103 (by decide)) i_x124 dX7_readLawLine_114 (fun H locs hB => ?_)
              have hm := iv_Md.ast (j := x103.toNatClampNeg) (x := x124) a_b123 rfl (by decide)
              have h9 := iv_up_eq (G := G116) (a := b123) (k := (36, upd g_b123 x103.toNatClampNeg x124, r_b123))
              generalize iv_up G116 b123 _ = G125 at hB hm h9
              have hM := hM.stp hm.weak (by decide)
              have a_h0 := hm.at a_h0 (by decide)
              refine lv_aload_n hx hb dX7_readLawLine_115 rfl (lv_at hl 1 rfl) ?_
              refine iv_geti X ft_X7 hB a_h0 sh_7 2 (by decide) rfl k_fl_X7_53 dX7_readLawLine_116 (fun x127 e_x127 i_x127 => ?_)
              refine lv_sipush (v := 134) hx hb dX7_readLawLine_119 (by decide) ?_
              refine lv_icmp_ne (tgt := 139) hx hb dX7_readLawLine_122 (by decide) (fun c128 => ?_) (fun c128 => ?_)
              · skip
                refine lv_aload_n hx hb dX7_readLawLine_139 rfl (lv_at hl 1 rfl) ?_
                refine lv_bipush (v := 59) hx hb dX7_readLawLine_140 (by decide) ?_
                refine iv_cVi X k_good k_mf_X7_takes k_im_X7_takes k_sel_X7_takes k_ml_X7_105 ft_X7 hB a_h0 sh_7 (As := [.int 59]) (c_X7_takes l D tys base G125 h0 g117 r118 a_h0 n_g117 59 (q_59.wk (by decide))) ⟨rfl, rfl⟩ ⟨Nat.le_of_ble_eq_true rfl, Nat.le_of_ble_eq_true rfl⟩ ⟨Nat.le_of_ble_eq_true rfl, Nat.le_of_ble_eq_true rfl⟩ rfl rfl hl.1 (Nat.le_of_ble_eq_true rfl) dX7_readLawLine_142 (fun x129 G9 H locs hq hB => ?_)
                obtain ⟨hm, i_x129, eq130⟩ := hq
                obtain ⟨G131, hG9⟩ : ∃ g, g = G9 := ⟨_, rfl⟩
                rw [← hG9] at hm hB
                have hM := hM.stp hm.weak (by decide)
                obtain ⟨g132, r133, a_h0, f_g132⟩ := hm.ex a_h0
                have n_g132 := iv_nxt hB a_h0 f_g132 n_g117
                have e134 : x103 = g132 8 := e119.trans (f_g132.2.1 8 (show (8 : Nat) ∈ iv_stab 7 from by decide)).symm
                have e135 : b106 = r133 10 := e120.trans (f_g132.1 10 (fun h => absurd (show (7 : Nat) = 5 from h) (by decide))).symm
                have e136 : b123 = r133 12 := e_b123.trans (f_g132.1 12 (fun h => absurd (show (7 : Nat) = 5 from h) (by decide))).symm
                refine lv_if_ne (tgt := 150) hx hb dX7_readLawLine_145 (by decide) (fun c137 => ?_) (fun c137 => ?_)
                · skip
                  have i137_x129 : iv_R 1 1 x129 := iv_ne_lo c137 i_x129 q_0 (by decide)
                  refine lv_aload_n hx hb dX7_readLawLine_150 rfl (lv_at hl 1 rfl) ?_
                  refine lv_dup hx hb dX7_readLawLine_151 rfl ?_
                  refine iv_geti0 X ft_X7 hB a_h0 sh_7 8 (by decide) rfl k_fl_X7_74 dX7_readLawLine_152 e134 ?_
                  refine lv_iconst (v := 1) hx hb dX7_readLawLine_155 (by decide) ?_
                  refine iv_iadd hx hb i104_x103 q_1 (lo := 1) (hi := 16) (by decide) dX7_readLawLine_156 (fun x139 e_x139 i_x139 => ?_)
                  refine iv_puti X ft_X7 hB a_h0 sh_7 8 (by decide) rfl rfl k_fl_X7_74 rfl (i_x139.wk (by decide)) rfl rfl dX7_readLawLine_157 (fun H locs hB => ?_)
                  have hm := iv_Md0.put (x := x139) a_h0 (j := 8) (fun h => absurd rfl h)
                  have h9 := iv_up_eq (G := G131) (a := h0) (k := (7, upd g132 8 x139, r133))
                  generalize iv_up G131 h0 _ = G140 at hB hm h9
                  have hM := hM.stp hm (by decide)
                  generalize hgn_g141 : upd g132 _ _ = g141 at h9
                  have a_h0 := h9
                  have e9_g141 : x139 = g141 8 := by rw [← hgn_g141]; simp [upd]
                  have n_g141 : iv_R 0 400 (g141 1) := by rw [← hgn_g141]; exact n_g132
                  refine lv_aload_n hx hb dX7_readLawLine_160 rfl (lv_at hl 1 rfl) ?_
                  refine iv_getr X ft_X7 hB a_h0 sh_7 11 (by decide) rfl k_fl_X7_29 dX7_readLawLine_161 (fun b142 g_b142 r_b142 e_b142 a_b142 => ?_)
                  refine lv_aload_n hx hb dX7_readLawLine_164 rfl (lv_at hl 1 rfl) ?_
                  refine iv_geti0 X ft_X7 hB a_h0 sh_7 8 (by decide) rfl k_fl_X7_74 dX7_readLawLine_165 e9_g141 ?_
                  refine lv_aload_n hx hb dX7_readLawLine_168 rfl (lv_at hl 1 rfl) ?_
                  refine iv_geti X ft_X7 hB a_h0 sh_7 5 (by decide) rfl k_fl_X7_77 dX7_readLawLine_169 (fun x143 e_x143 i_x143 => ?_)
                  refine iv_ast X hB a_b142 sh_35 (iv_in i_x139 (by decide)) i_x143 dX7_readLawLine_172 (fun H locs hB => ?_)
                  have hm := iv_Md.ast (j := x139.toNatClampNeg) (x := x143) a_b142 rfl (by decide)
                  have h9 := iv_up_eq (G := G140) (a := b142) (k := (35, upd g_b142 x139.toNatClampNeg x143, r_b142))
                  generalize iv_up G140 b142 _ = G144 at hB hm h9
                  have hM := hM.stp hm.weak (by decide)
                  have a_h0 := hm.at a_h0 (by decide)
                  refine lv_iconst (v := 1) hx hb dX7_readLawLine_173 (by decide) ?_
                  exact iv_zret X hr hlocks hB (q_1.wk (by decide)) ⟨⟨hM, fun g9 r9 h9 => by have h8 := a_h0.symm.trans h9; cases h8; exact n_g141⟩, (q_1.wk (by decide))⟩ dX7_readLawLine_174
                · skip
                  have i145_x129 : iv_R 0 0 x129 := (i_x129.cutHi (n := 0) (iv_eq_r c137 q_0).2)
                  refine lv_iconst (v := 0) hx hb dX7_readLawLine_148 (by decide) ?_
                  exact iv_zret X hr hlocks hB (q_0.wk (by decide)) ⟨⟨hM, fun g9 r9 h9 => by have h8 := a_h0.symm.trans h9; cases h8; exact n_g132⟩, (q_0.wk (by decide))⟩ dX7_readLawLine_149
              · skip
                have i146_x127 : iv_R 134 134 x127 := ((i_x127.cutLo (n := 134) (iv_eq_r c128 q_134).1).cutHi (n := 134) (iv_eq_r c128 q_134).2)
                refine lv_aload_n hx hb dX7_readLawLine_125 rfl (lv_at hl 1 rfl) ?_
                refine iv_cVv X k_good k_mf_X7_step k_im_X7_step k_sel_X7_step k_ml_X7_83 ft_X7 hB a_h0 sh_7 (As := []) (c_X7_step l D tys base G125 h0 g117 r118 a_h0) ⟨rfl, rfl⟩ ⟨Nat.le_of_ble_eq_true rfl, Nat.le_of_ble_eq_true rfl⟩ ⟨Nat.le_of_ble_eq_true rfl, Nat.le_of_ble_eq_true rfl⟩ rfl rfl hl.1 (Nat.le_of_ble_eq_true rfl) dX7_readLawLine_126 (fun G9 H locs hq hB => ?_)
                obtain ⟨hm, vg⟩ := hq
                obtain ⟨G148, hG9⟩ : ∃ g, g = G9 := ⟨_, rfl⟩
                rw [← hG9] at hm hB vg
                have hM := hM.stp hm.weak (by decide)
                obtain ⟨g149, r150, a_h0, f_g149⟩ := hm.ex a_h0
                have n_g149 := iv_nxt hB a_h0 f_g149 n_g117
                have e151 : x103 = g149 8 := e119.trans (f_g149.2.1 8 (show (8 : Nat) ∈ iv_stab 7 from by decide)).symm
                have e152 : b106 = r150 10 := e120.trans (f_g149.1 10 (fun h => absurd (show (7 : Nat) = 5 from h) (by decide))).symm
                have e153 : b123 = r150 12 := e_b123.trans (f_g149.1 12 (fun h => absurd (show (7 : Nat) = 5 from h) (by decide))).symm
                have vg154 := vg _ _ a_h0
                refine lv_aload_n hx hb dX7_readLawLine_129 rfl (lv_at hl 1 rfl) ?_
                refine lv_iconst (v := 0) hx hb dX7_readLawLine_130 (by decide) ?_
                refine iv_cVi X k_good k_mf_X7_readChoice k_im_X7_readChoice k_sel_X7_readChoice k_ml_X7_115 ft_X7 hB a_h0 sh_7 (As := [.int 0]) (c_X7_readChoice l D tys base G148 h0 g149 r150 a_h0 vg154 0 (q_0.wk (by decide))) ⟨rfl, rfl⟩ ⟨Nat.le_of_ble_eq_true rfl, Nat.le_of_ble_eq_true rfl⟩ ⟨Nat.le_of_ble_eq_true rfl, Nat.le_of_ble_eq_true rfl⟩ rfl rfl hl.1 (Nat.le_of_ble_eq_true rfl) dX7_readLawLine_131 (fun x155 G9 H locs hq hB => ?_)
                obtain ⟨hm, i_x155⟩ := hq
                obtain ⟨G156, hG9⟩ : ∃ g, g = G9 := ⟨_, rfl⟩
                rw [← hG9] at hm hB
                have hM := hM.stp hm.weak (by decide)
                obtain ⟨g157, r158, a_h0, f_g157⟩ := hm.ex a_h0
                have n_g157 := iv_nxt hB a_h0 f_g157 vg154
                have e159 : x103 = g157 8 := e151.trans (f_g157.2.1 8 (show (8 : Nat) ∈ iv_stab 7 from by decide)).symm
                have e160 : b106 = r158 10 := e152.trans (f_g157.1 10 (fun h => absurd (show (7 : Nat) = 5 from h) (by decide))).symm
                have e161 : b123 = r158 12 := e153.trans (f_g157.1 12 (fun h => absurd (show (7 : Nat) = 5 from h) (by decide))).symm
                refine lv_if_ne (tgt := 139) hx hb dX7_readLawLine_134 (by decide) (fun c162 => ?_) (fun c162 => ?_)
                · skip
                  have i162_x155 : iv_R 1 1 x155 := iv_ne_lo c162 i_x155 q_0 (by decide)
                  refine lv_aload_n hx hb dX7_readLawLine_139 rfl (lv_at hl 1 rfl) ?_
                  refine lv_bipush (v := 59) hx hb dX7_readLawLine_140 (by decide) ?_
                  refine iv_cVi X k_good k_mf_X7_takes k_im_X7_takes k_sel_X7_takes k_ml_X7_105 ft_X7 hB a_h0 sh_7 (As := [.int 59]) (c_X7_takes l D tys base G156 h0 g157 r158 a_h0 n_g157 59 (q_59.wk (by decide))) ⟨rfl, rfl⟩ ⟨Nat.le_of_ble_eq_true rfl, Nat.le_of_ble_eq_true rfl⟩ ⟨Nat.le_of_ble_eq_true rfl, Nat.le_of_ble_eq_true rfl⟩ rfl rfl hl.1 (Nat.le_of_ble_eq_true rfl) dX7_readLawLine_142 (fun x164 G9 H locs hq hB => ?_)
                  obtain ⟨hm, i_x164, eq165⟩ := hq
                  obtain ⟨G166, hG9⟩ : ∃ g, g = G9 := ⟨_, rfl⟩
                  rw [← hG9] at hm hB
                  have hM := hM.stp hm.weak (by decide)
                  obtain ⟨g167, r168, a_h0, f_g167⟩ := hm.ex a_h0
                  have n_g167 := iv_nxt hB a_h0 f_g167 n_g157
                  have e169 : x103 = g167 8 := e159.trans (f_g167.2.1 8 (show (8 : Nat) ∈ iv_stab 7 from by decide)).symm
                  have e170 : b106 = r168 10 := e160.trans (f_g167.1 10 (fun h => absurd (show (7 : Nat) = 5 from h) (by decide))).symm
                  have e171 : b123 = r168 12 := e161.trans (f_g167.1 12 (fun h => absurd (show (7 : Nat) = 5 from h) (by decide))).symm
                  refine lv_if_ne (tgt := 150) hx hb dX7_readLawLine_145 (by decide) (fun c172 => ?_) (fun c172 => ?_)
                  · skip
                    have i172_x164 : iv_R 1 1 x164 := iv_ne_lo c172 i_x164 q_0 (by decide)
                    refine lv_aload_n hx hb dX7_readLawLine_150 rfl (lv_at hl 1 rfl) ?_
                    refine lv_dup hx hb dX7_readLawLine_151 rfl ?_
                    refine iv_geti0 X ft_X7 hB a_h0 sh_7 8 (by decide) rfl k_fl_X7_74 dX7_readLawLine_152 e169 ?_
                    refine lv_iconst (v := 1) hx hb dX7_readLawLine_155 (by decide) ?_
                    refine iv_iadd hx hb i104_x103 q_1 (lo := 1) (hi := 16) (by decide) dX7_readLawLine_156 (fun x174 e_x174 i_x174 => ?_)
                    refine iv_puti X ft_X7 hB a_h0 sh_7 8 (by decide) rfl rfl k_fl_X7_74 rfl (i_x174.wk (by decide)) rfl rfl dX7_readLawLine_157 (fun H locs hB => ?_)
                    have hm := iv_Md0.put (x := x174) a_h0 (j := 8) (fun h => absurd rfl h)
                    have h9 := iv_up_eq (G := G166) (a := h0) (k := (7, upd g167 8 x174, r168))
                    generalize iv_up G166 h0 _ = G175 at hB hm h9
                    have hM := hM.stp hm (by decide)
                    generalize hgn_g176 : upd g167 _ _ = g176 at h9
                    have a_h0 := h9
                    have e9_g176 : x174 = g176 8 := by rw [← hgn_g176]; simp [upd]
                    have n_g176 : iv_R 0 400 (g176 1) := by rw [← hgn_g176]; exact n_g167
                    refine lv_aload_n hx hb dX7_readLawLine_160 rfl (lv_at hl 1 rfl) ?_
                    refine iv_getr X ft_X7 hB a_h0 sh_7 11 (by decide) rfl k_fl_X7_29 dX7_readLawLine_161 (fun b177 g_b177 r_b177 e_b177 a_b177 => ?_)
                    refine lv_aload_n hx hb dX7_readLawLine_164 rfl (lv_at hl 1 rfl) ?_
                    refine iv_geti0 X ft_X7 hB a_h0 sh_7 8 (by decide) rfl k_fl_X7_74 dX7_readLawLine_165 e9_g176 ?_
                    refine lv_aload_n hx hb dX7_readLawLine_168 rfl (lv_at hl 1 rfl) ?_
                    refine iv_geti X ft_X7 hB a_h0 sh_7 5 (by decide) rfl k_fl_X7_77 dX7_readLawLine_169 (fun x178 e_x178 i_x178 => ?_)
                    refine iv_ast X hB a_b177 sh_35 (iv_in i_x174 (by decide)) i_x178 dX7_readLawLine_172 (fun H locs hB => ?_)
                    have hm := iv_Md.ast (j := x174.toNatClampNeg) (x := x178) a_b177 rfl (by decide)
                    have h9 := iv_up_eq (G := G175) (a := b177) (k := (35, upd g_b177 x174.toNatClampNeg x178, r_b177))
                    generalize iv_up G175 b177 _ = G179 at hB hm h9
                    have hM := hM.stp hm.weak (by decide)
                    have a_h0 := hm.at a_h0 (by decide)
                    refine lv_iconst (v := 1) hx hb dX7_readLawLine_173 (by decide) ?_
                    exact iv_zret X hr hlocks hB (q_1.wk (by decide)) ⟨⟨hM, fun g9 r9 h9 => by have h8 := a_h0.symm.trans h9; cases h8; exact n_g176⟩, (q_1.wk (by decide))⟩ dX7_readLawLine_174
                  · skip
                    have i180_x164 : iv_R 0 0 x164 := (i_x164.cutHi (n := 0) (iv_eq_r c172 q_0).2)
                    refine lv_iconst (v := 0) hx hb dX7_readLawLine_148 (by decide) ?_
                    exact iv_zret X hr hlocks hB (q_0.wk (by decide)) ⟨⟨hM, fun g9 r9 h9 => by have h8 := a_h0.symm.trans h9; cases h8; exact n_g167⟩, (q_0.wk (by decide))⟩ dX7_readLawLine_149
                · skip
                  have i181_x155 : iv_R 0 0 x155 := (i_x155.cutHi (n := 0) (iv_eq_r c162 q_0).2)
                  refine lv_iconst (v := 0) hx hb dX7_readLawLine_137 (by decide) ?_
                  exact iv_zret X hr hlocks hB (q_0.wk (by decide)) ⟨⟨hM, fun g9 r9 h9 => by have h8 := a_h0.symm.trans h9; cases h8; exact n_g157⟩, (q_0.wk (by decide))⟩ dX7_readLawLine_138
            · skip
              have i182_x115 : iv_R 0 0 x115 := (i_x115.cutHi (n := 0) (iv_eq_r c121 q_0).2)
              refine lv_iconst (v := 0) hx hb dX7_readLawLine_100 (by decide) ?_
              exact iv_zret X hr hlocks hB (q_0.wk (by decide)) ⟨⟨hM, fun g9 r9 h9 => by have h8 := a_h0.symm.trans h9; cases h8; exact n_g117⟩, (q_0.wk (by decide))⟩ dX7_readLawLine_101
          · skip
            have i183_x103 : iv_R 16 20 x103 := (i_x103.cutLo (n := 16) (iv_le_l (iv_nlt c104) q_16))
            refine lv_aload_n hx hb dX7_readLawLine_70 rfl (lv_at hl 1 rfl) ?_
            refine lv_iconst (v := 3) hx hb dX7_readLawLine_71 (by decide) ?_
            refine iv_cVi X k_good k_mf_X7_refuse k_im_X7_refuse k_sel_X7_refuse k_ml_X7_98 ft_X7 hB a_h0 sh_7 (As := [.int 3]) (c_X7_refuse l D tys base G h0 g_h0 r_h0 a_h0 n_g_h0 3 (q_3.wk (by decide))) ⟨rfl, rfl⟩ ⟨Nat.le_of_ble_eq_true rfl, Nat.le_of_ble_eq_true rfl⟩ ⟨Nat.le_of_ble_eq_true rfl, Nat.le_of_ble_eq_true rfl⟩ rfl rfl hl.1 (Nat.le_of_ble_eq_true rfl) dX7_readLawLine_72 (fun x185 G9 H locs hq hB => ?_)
            obtain ⟨hm, i_x185⟩ := hq
            obtain ⟨G186, hG9⟩ : ∃ g, g = G9 := ⟨_, rfl⟩
            rw [← hG9] at hm hB
            have hM := hM.stp hm.weak (by decide)
            obtain ⟨g187, r188, a_h0, f_g187⟩ := hm.ex a_h0
            have n_g187 := iv_nxt hB a_h0 f_g187 n_g_h0
            have e189 : x103 = g187 8 := e_x103.trans (f_g187.2.1 8 (show (8 : Nat) ∈ iv_stab 7 from by decide)).symm
            exact iv_zret X hr hlocks hB (i_x185.wk (by decide)) ⟨⟨hM, fun g9 r9 h9 => by have h8 := a_h0.symm.trans h9; cases h8; exact n_g187⟩, (i_x185.wk (by decide))⟩ dX7_readLawLine_75
        · skip
          exact (q_1.cutHi (n := 0) (iv_eq_r c102 q_0).2).no (by decide)
  · skip
    have i189_x1 : iv_R 1 1 x1 := iv_ne_lo c2 i_x1 q_0 (by decide)
    refine lv_aload_n hx hb dX7_readLawLine_7 rfl (lv_at hl 0 rfl) ?_
    refine iv_geti X ft_X7 hB a_h0 sh_7 2 (by decide) rfl k_fl_X7_53 dX7_readLawLine_8 (fun x191 e_x191 i_x191 => ?_)
    refine lv_sipush (v := 131) hx hb dX7_readLawLine_11 (by decide) ?_
    refine lv_icmp_ne (tgt := 21) hx hb dX7_readLawLine_14 (by decide) (fun c192 => ?_) (fun c192 => ?_)
    · skip
      refine lv_iconst (v := 0) hx hb dX7_readLawLine_21 (by decide) ?_
      refine lv_goto (tgt := 50) hx hb dX7_readLawLine_22 (by decide) ?_
      refine lv_istore_n (lv' := [(1, .int 0), (0, .ref h0)]) hx hb dX7_readLawLine_50 rfl hl (by decide) rfl (fun ls hl => ?_)
      refine lv_iload_n hx hb dX7_readLawLine_51 rfl (lv_at hl 0 rfl) ?_
      refine lv_if_ne (tgt := 61) hx hb dX7_readLawLine_52 (by decide) (fun c193 => ?_) (fun c193 => ?_)
      · skip
        exact absurd rfl c193
      · skip
        refine lv_aload_n hx hb dX7_readLawLine_55 rfl (lv_at hl 1 rfl) ?_
        refine lv_iconst (v := 1) hx hb dX7_readLawLine_56 (by decide) ?_
        refine iv_cVi X k_good k_mf_X7_refuse k_im_X7_refuse k_sel_X7_refuse k_ml_X7_98 ft_X7 hB a_h0 sh_7 (As := [.int 1]) (c_X7_refuse l D tys base G h0 g_h0 r_h0 a_h0 n_g_h0 1 (q_1.wk (by decide))) ⟨rfl, rfl⟩ ⟨Nat.le_of_ble_eq_true rfl, Nat.le_of_ble_eq_true rfl⟩ ⟨Nat.le_of_ble_eq_true rfl, Nat.le_of_ble_eq_true rfl⟩ rfl rfl hl.1 (Nat.le_of_ble_eq_true rfl) dX7_readLawLine_57 (fun x194 G9 H locs hq hB => ?_)
        obtain ⟨hm, i_x194⟩ := hq
        obtain ⟨G195, hG9⟩ : ∃ g, g = G9 := ⟨_, rfl⟩
        rw [← hG9] at hm hB
        have hM := hM.stp hm.weak (by decide)
        obtain ⟨g196, r197, a_h0, f_g196⟩ := hm.ex a_h0
        have n_g196 := iv_nxt hB a_h0 f_g196 n_g_h0
        exact iv_zret X hr hlocks hB (i_x194.wk (by decide)) ⟨⟨hM, fun g9 r9 h9 => by have h8 := a_h0.symm.trans h9; cases h8; exact n_g196⟩, (i_x194.wk (by decide))⟩ dX7_readLawLine_60
    · skip
      have i197_x191 : iv_R 131 131 x191 := ((i_x191.cutLo (n := 131) (iv_eq_r c192 q_131).1).cutHi (n := 131) (iv_eq_r c192 q_131).2)
      refine lv_iconst (v := 1) hx hb dX7_readLawLine_17 (by decide) ?_
      refine lv_goto (tgt := 50) hx hb dX7_readLawLine_18 (by decide) ?_
      refine lv_istore_n (lv' := [(1, .int 1), (0, .ref h0)]) hx hb dX7_readLawLine_50 rfl hl (by decide) rfl (fun ls hl => ?_)
      refine lv_iload_n hx hb dX7_readLawLine_51 rfl (lv_at hl 0 rfl) ?_
      refine lv_if_ne (tgt := 61) hx hb dX7_readLawLine_52 (by decide) (fun c199 => ?_) (fun c199 => ?_)
      · skip
        refine lv_aload_n hx hb dX7_readLawLine_61 rfl (lv_at hl 1 rfl) ?_
        refine iv_geti X ft_X7 hB a_h0 sh_7 8 (by decide) rfl k_fl_X7_74 dX7_readLawLine_62 (fun x200 e_x200 i_x200 => ?_)
        refine lv_bipush (v := 16) hx hb dX7_readLawLine_65 (by decide) ?_
        refine lv_icmp_lt (tgt := 76) hx hb dX7_readLawLine_67 (by decide) (fun c201 => ?_) (fun c201 => ?_)
        · skip
          have i201_x200 : iv_R 0 15 x200 := (i_x200.cutHi (n := 15) (iv_lt_r c201 q_16 (by decide)))
          refine lv_aload_n hx hb dX7_readLawLine_76 rfl (lv_at hl 1 rfl) ?_
          refine iv_getr X ft_X7 hB a_h0 sh_7 10 (by decide) rfl k_fl_X7_26 dX7_readLawLine_77 (fun b203 g_b203 r_b203 e_b203 a_b203 => ?_)
          refine lv_aload_n hx hb dX7_readLawLine_80 rfl (lv_at hl 1 rfl) ?_
          refine iv_geti0 X ft_X7 hB a_h0 sh_7 8 (by decide) rfl k_fl_X7_74 dX7_readLawLine_81 e_x200 ?_
          refine lv_aload_n hx hb dX7_readLawLine_84 rfl (lv_at hl 1 rfl) ?_
          refine iv_geti0 X ft_X7 hB a_h0 sh_7 2 (by decide) rfl k_fl_X7_53 dX7_readLawLine_85 e_x191 ?_
          refine iv_ast X hB a_b203 sh_34 (iv_in i201_x200 (by decide)) (i197_x191.wk (by decide)) dX7_readLawLine_88 (fun H locs hB => ?_)
          have hm := iv_Md.ast (j := x200.toNatClampNeg) (x := x191) a_b203 rfl (by decide)
          have h9 := iv_up_eq (G := G) (a := b203) (k := (34, upd g_b203 x200.toNatClampNeg x191, r_b203))
          generalize iv_up G b203 _ = G204 at hB hm h9
          have hM := hM.stp hm.weak (by decide)
          have a_h0 := hm.at a_h0 (by decide)
          refine lv_aload_n hx hb dX7_readLawLine_89 rfl (lv_at hl 1 rfl) ?_
          refine iv_cVv X k_good k_mf_X7_step k_im_X7_step k_sel_X7_step k_ml_X7_83 ft_X7 hB a_h0 sh_7 (As := []) (c_X7_step l D tys base G204 h0 g_h0 r_h0 a_h0) ⟨rfl, rfl⟩ ⟨Nat.le_of_ble_eq_true rfl, Nat.le_of_ble_eq_true rfl⟩ ⟨Nat.le_of_ble_eq_true rfl, Nat.le_of_ble_eq_true rfl⟩ rfl rfl hl.1 (Nat.le_of_ble_eq_true rfl) dX7_readLawLine_90 (fun G9 H locs hq hB => ?_)
          obtain ⟨hm, vg⟩ := hq
          obtain ⟨G206, hG9⟩ : ∃ g, g = G9 := ⟨_, rfl⟩
          rw [← hG9] at hm hB vg
          have hM := hM.stp hm.weak (by decide)
          obtain ⟨g207, r208, a_h0, f_g207⟩ := hm.ex a_h0
          have n_g207 := iv_nxt hB a_h0 f_g207 n_g_h0
          have e209 : x200 = g207 8 := e_x200.trans (f_g207.2.1 8 (show (8 : Nat) ∈ iv_stab 7 from by decide)).symm
          have e210 : b203 = r208 10 := e_b203.trans (f_g207.1 10 (fun h => absurd (show (7 : Nat) = 5 from h) (by decide))).symm
          have vg211 := vg _ _ a_h0
          refine lv_aload_n hx hb dX7_readLawLine_93 rfl (lv_at hl 1 rfl) ?_
          refine iv_cVi X k_good k_mf_X7_readSum k_im_X7_readSum k_sel_X7_readSum k_ml_X7_112 ft_X7 hB a_h0 sh_7 (As := []) (c_X7_readSum l D tys base G206 h0 g207 r208 a_h0 vg211) ⟨rfl, rfl⟩ ⟨Nat.le_of_ble_eq_true rfl, Nat.le_of_ble_eq_true rfl⟩ ⟨Nat.le_of_ble_eq_true rfl, Nat.le_of_ble_eq_true rfl⟩ rfl rfl hl.1 (Nat.le_of_ble_eq_true rfl) dX7_readLawLine_94 (fun x212 G9 H locs hq hB => ?_)
          obtain ⟨hm, i_x212⟩ := hq
          obtain ⟨G213, hG9⟩ : ∃ g, g = G9 := ⟨_, rfl⟩
          rw [← hG9] at hm hB
          have hM := hM.stp hm.weak (by decide)
          obtain ⟨g214, r215, a_h0, f_g214⟩ := hm.ex a_h0
          have n_g214 := iv_nxt hB a_h0 f_g214 vg211
          have e216 : x200 = g214 8 := e209.trans (f_g214.2.1 8 (show (8 : Nat) ∈ iv_stab 7 from by decide)).symm
          have e217 : b203 = r215 10 := e210.trans (f_g214.1 10 (fun h => absurd (show (7 : Nat) = 5 from h) (by decide))).symm
          refine lv_if_ne (tgt := 102) hx hb dX7_readLawLine_97 (by decide) (fun c218 => ?_) (fun c218 => ?_)
          · skip
            have i218_x212 : iv_R 1 1 x212 := iv_ne_lo c218 i_x212 q_0 (by decide)
            refine lv_aload_n hx hb dX7_readLawLine_102 rfl (lv_at hl 1 rfl) ?_
            refine iv_getr X ft_X7 hB a_h0 sh_7 12 (by decide) rfl k_fl_X7_32 dX7_readLawLine_103 (fun b220 g_b220 r_b220 e_b220 a_b220 => ?_)
            refine lv_aload_n hx hb dX7_readLawLine_106 rfl (lv_at hl 1 rfl) ?_
            refine iv_geti0 X ft_X7 hB a_h0 sh_7 8 (by decide) rfl k_fl_X7_74 dX7_readLawLine_107 e216 ?_
            refine lv_aload_n hx hb dX7_readLawLine_110 rfl (lv_at hl 1 rfl) ?_
            refine iv_geti X ft_X7 hB a_h0 sh_7 5 (by decide) rfl k_fl_X7_77 dX7_readLawLine_111 (fun x221 e_x221 i_x221 => ?_)
            refine iv_ast X hB a_b220 sh_36 (iv_in i201_x200 (by decide)) i_x221 dX7_readLawLine_114 (fun H locs hB => ?_)
            have hm := iv_Md.ast (j := x200.toNatClampNeg) (x := x221) a_b220 rfl (by decide)
            have h9 := iv_up_eq (G := G213) (a := b220) (k := (36, upd g_b220 x200.toNatClampNeg x221, r_b220))
            generalize iv_up G213 b220 _ = G222 at hB hm h9
            have hM := hM.stp hm.weak (by decide)
            have a_h0 := hm.at a_h0 (by decide)
            refine lv_aload_n hx hb dX7_readLawLine_115 rfl (lv_at hl 1 rfl) ?_
            refine iv_geti X ft_X7 hB a_h0 sh_7 2 (by decide) rfl k_fl_X7_53 dX7_readLawLine_116 (fun x224 e_x224 i_x224 => ?_)
            refine lv_sipush (v := 134) hx hb dX7_readLawLine_119 (by decide) ?_
            refine lv_icmp_ne (tgt := 139) hx hb dX7_readLawLine_122 (by decide) (fun c225 => ?_) (fun c225 => ?_)
            · skip
              refine lv_aload_n hx hb dX7_readLawLine_139 rfl (lv_at hl 1 rfl) ?_
              refine lv_bipush (v := 59) hx hb dX7_readLawLine_140 (by decide) ?_
              refine iv_cVi X k_good k_mf_X7_takes k_im_X7_takes k_sel_X7_takes k_ml_X7_105 ft_X7 hB a_h0 sh_7 (As := [.int 59]) (c_X7_takes l D tys base G222 h0 g214 r215 a_h0 n_g214 59 (q_59.wk (by decide))) ⟨rfl, rfl⟩ ⟨Nat.le_of_ble_eq_true rfl, Nat.le_of_ble_eq_true rfl⟩ ⟨Nat.le_of_ble_eq_true rfl, Nat.le_of_ble_eq_true rfl⟩ rfl rfl hl.1 (Nat.le_of_ble_eq_true rfl) dX7_readLawLine_142 (fun x226 G9 H locs hq hB => ?_)
              obtain ⟨hm, i_x226, eq227⟩ := hq
              obtain ⟨G228, hG9⟩ : ∃ g, g = G9 := ⟨_, rfl⟩
              rw [← hG9] at hm hB
              have hM := hM.stp hm.weak (by decide)
              obtain ⟨g229, r230, a_h0, f_g229⟩ := hm.ex a_h0
              have n_g229 := iv_nxt hB a_h0 f_g229 n_g214
              have e231 : x200 = g229 8 := e216.trans (f_g229.2.1 8 (show (8 : Nat) ∈ iv_stab 7 from by decide)).symm
              have e232 : b203 = r230 10 := e217.trans (f_g229.1 10 (fun h => absurd (show (7 : Nat) = 5 from h) (by decide))).symm
              have e233 : b220 = r230 12 := e_b220.trans (f_g229.1 12 (fun h => absurd (show (7 : Nat) = 5 from h) (by decide))).symm
              refine lv_if_ne (tgt := 150) hx hb dX7_readLawLine_145 (by decide) (fun c234 => ?_) (fun c234 => ?_)
              · skip
                have i234_x226 : iv_R 1 1 x226 := iv_ne_lo c234 i_x226 q_0 (by decide)
                refine lv_aload_n hx hb dX7_readLawLine_150 rfl (lv_at hl 1 rfl) ?_
                refine lv_dup hx hb dX7_readLawLine_151 rfl ?_
                refine iv_geti0 X ft_X7 hB a_h0 sh_7 8 (by decide) rfl k_fl_X7_74 dX7_readLawLine_152 e231 ?_
                refine lv_iconst (v := 1) hx hb dX7_readLawLine_155 (by decide) ?_
                refine iv_iadd hx hb i201_x200 q_1 (lo := 1) (hi := 16) (by decide) dX7_readLawLine_156 (fun x236 e_x236 i_x236 => ?_)
                refine iv_puti X ft_X7 hB a_h0 sh_7 8 (by decide) rfl rfl k_fl_X7_74 rfl (i_x236.wk (by decide)) rfl rfl dX7_readLawLine_157 (fun H locs hB => ?_)
                have hm := iv_Md0.put (x := x236) a_h0 (j := 8) (fun h => absurd rfl h)
                have h9 := iv_up_eq (G := G228) (a := h0) (k := (7, upd g229 8 x236, r230))
                generalize iv_up G228 h0 _ = G237 at hB hm h9
                have hM := hM.stp hm (by decide)
                generalize hgn_g238 : upd g229 _ _ = g238 at h9
                have a_h0 := h9
                have e9_g238 : x236 = g238 8 := by rw [← hgn_g238]; simp [upd]
                have n_g238 : iv_R 0 400 (g238 1) := by rw [← hgn_g238]; exact n_g229
                refine lv_aload_n hx hb dX7_readLawLine_160 rfl (lv_at hl 1 rfl) ?_
                refine iv_getr X ft_X7 hB a_h0 sh_7 11 (by decide) rfl k_fl_X7_29 dX7_readLawLine_161 (fun b239 g_b239 r_b239 e_b239 a_b239 => ?_)
                refine lv_aload_n hx hb dX7_readLawLine_164 rfl (lv_at hl 1 rfl) ?_
                refine iv_geti0 X ft_X7 hB a_h0 sh_7 8 (by decide) rfl k_fl_X7_74 dX7_readLawLine_165 e9_g238 ?_
                refine lv_aload_n hx hb dX7_readLawLine_168 rfl (lv_at hl 1 rfl) ?_
                refine iv_geti X ft_X7 hB a_h0 sh_7 5 (by decide) rfl k_fl_X7_77 dX7_readLawLine_169 (fun x240 e_x240 i_x240 => ?_)
                refine iv_ast X hB a_b239 sh_35 (iv_in i_x236 (by decide)) i_x240 dX7_readLawLine_172 (fun H locs hB => ?_)
                have hm := iv_Md.ast (j := x236.toNatClampNeg) (x := x240) a_b239 rfl (by decide)
                have h9 := iv_up_eq (G := G237) (a := b239) (k := (35, upd g_b239 x236.toNatClampNeg x240, r_b239))
                generalize iv_up G237 b239 _ = G241 at hB hm h9
                have hM := hM.stp hm.weak (by decide)
                have a_h0 := hm.at a_h0 (by decide)
                refine lv_iconst (v := 1) hx hb dX7_readLawLine_173 (by decide) ?_
                exact iv_zret X hr hlocks hB (q_1.wk (by decide)) ⟨⟨hM, fun g9 r9 h9 => by have h8 := a_h0.symm.trans h9; cases h8; exact n_g238⟩, (q_1.wk (by decide))⟩ dX7_readLawLine_174
              · skip
                have i242_x226 : iv_R 0 0 x226 := (i_x226.cutHi (n := 0) (iv_eq_r c234 q_0).2)
                refine lv_iconst (v := 0) hx hb dX7_readLawLine_148 (by decide) ?_
                exact iv_zret X hr hlocks hB (q_0.wk (by decide)) ⟨⟨hM, fun g9 r9 h9 => by have h8 := a_h0.symm.trans h9; cases h8; exact n_g229⟩, (q_0.wk (by decide))⟩ dX7_readLawLine_149
            · skip
              have i243_x224 : iv_R 134 134 x224 := ((i_x224.cutLo (n := 134) (iv_eq_r c225 q_134).1).cutHi (n := 134) (iv_eq_r c225 q_134).2)
              refine lv_aload_n hx hb dX7_readLawLine_125 rfl (lv_at hl 1 rfl) ?_
              refine iv_cVv X k_good k_mf_X7_step k_im_X7_step k_sel_X7_step k_ml_X7_83 ft_X7 hB a_h0 sh_7 (As := []) (c_X7_step l D tys base G222 h0 g214 r215 a_h0) ⟨rfl, rfl⟩ ⟨Nat.le_of_ble_eq_true rfl, Nat.le_of_ble_eq_true rfl⟩ ⟨Nat.le_of_ble_eq_true rfl, Nat.le_of_ble_eq_true rfl⟩ rfl rfl hl.1 (Nat.le_of_ble_eq_true rfl) dX7_readLawLine_126 (fun G9 H locs hq hB => ?_)
              obtain ⟨hm, vg⟩ := hq
              obtain ⟨G245, hG9⟩ : ∃ g, g = G9 := ⟨_, rfl⟩
              rw [← hG9] at hm hB vg
              have hM := hM.stp hm.weak (by decide)
              obtain ⟨g246, r247, a_h0, f_g246⟩ := hm.ex a_h0
              have n_g246 := iv_nxt hB a_h0 f_g246 n_g214
              have e248 : x200 = g246 8 := e216.trans (f_g246.2.1 8 (show (8 : Nat) ∈ iv_stab 7 from by decide)).symm
              have e249 : b203 = r247 10 := e217.trans (f_g246.1 10 (fun h => absurd (show (7 : Nat) = 5 from h) (by decide))).symm
              have e250 : b220 = r247 12 := e_b220.trans (f_g246.1 12 (fun h => absurd (show (7 : Nat) = 5 from h) (by decide))).symm
              have vg251 := vg _ _ a_h0
              refine lv_aload_n hx hb dX7_readLawLine_129 rfl (lv_at hl 1 rfl) ?_
              refine lv_iconst (v := 0) hx hb dX7_readLawLine_130 (by decide) ?_
              refine iv_cVi X k_good k_mf_X7_readChoice k_im_X7_readChoice k_sel_X7_readChoice k_ml_X7_115 ft_X7 hB a_h0 sh_7 (As := [.int 0]) (c_X7_readChoice l D tys base G245 h0 g246 r247 a_h0 vg251 0 (q_0.wk (by decide))) ⟨rfl, rfl⟩ ⟨Nat.le_of_ble_eq_true rfl, Nat.le_of_ble_eq_true rfl⟩ ⟨Nat.le_of_ble_eq_true rfl, Nat.le_of_ble_eq_true rfl⟩ rfl rfl hl.1 (Nat.le_of_ble_eq_true rfl) dX7_readLawLine_131 (fun x252 G9 H locs hq hB => ?_)
              obtain ⟨hm, i_x252⟩ := hq
              obtain ⟨G253, hG9⟩ : ∃ g, g = G9 := ⟨_, rfl⟩
              rw [← hG9] at hm hB
              have hM := hM.stp hm.weak (by decide)
              obtain ⟨g254, r255, a_h0, f_g254⟩ := hm.ex a_h0
              have n_g254 := iv_nxt hB a_h0 f_g254 vg251
              have e256 : x200 = g254 8 := e248.trans (f_g254.2.1 8 (show (8 : Nat) ∈ iv_stab 7 from by decide)).symm
              have e257 : b203 = r255 10 := e249.trans (f_g254.1 10 (fun h => absurd (show (7 : Nat) = 5 from h) (by decide))).symm
              have e258 : b220 = r255 12 := e250.trans (f_g254.1 12 (fun h => absurd (show (7 : Nat) = 5 from h) (by decide))).symm
              refine lv_if_ne (tgt := 139) hx hb dX7_readLawLine_134 (by decide) (fun c259 => ?_) (fun c259 => ?_)
              · skip
                have i259_x252 : iv_R 1 1 x252 := iv_ne_lo c259 i_x252 q_0 (by decide)
                refine lv_aload_n hx hb dX7_readLawLine_139 rfl (lv_at hl 1 rfl) ?_
                refine lv_bipush (v := 59) hx hb dX7_readLawLine_140 (by decide) ?_
                refine iv_cVi X k_good k_mf_X7_takes k_im_X7_takes k_sel_X7_takes k_ml_X7_105 ft_X7 hB a_h0 sh_7 (As := [.int 59]) (c_X7_takes l D tys base G253 h0 g254 r255 a_h0 n_g254 59 (q_59.wk (by decide))) ⟨rfl, rfl⟩ ⟨Nat.le_of_ble_eq_true rfl, Nat.le_of_ble_eq_true rfl⟩ ⟨Nat.le_of_ble_eq_true rfl, Nat.le_of_ble_eq_true rfl⟩ rfl rfl hl.1 (Nat.le_of_ble_eq_true rfl) dX7_readLawLine_142 (fun x261 G9 H locs hq hB => ?_)
                obtain ⟨hm, i_x261, eq262⟩ := hq
                obtain ⟨G263, hG9⟩ : ∃ g, g = G9 := ⟨_, rfl⟩
                rw [← hG9] at hm hB
                have hM := hM.stp hm.weak (by decide)
                obtain ⟨g264, r265, a_h0, f_g264⟩ := hm.ex a_h0
                have n_g264 := iv_nxt hB a_h0 f_g264 n_g254
                have e266 : x200 = g264 8 := e256.trans (f_g264.2.1 8 (show (8 : Nat) ∈ iv_stab 7 from by decide)).symm
                have e267 : b203 = r265 10 := e257.trans (f_g264.1 10 (fun h => absurd (show (7 : Nat) = 5 from h) (by decide))).symm
                have e268 : b220 = r265 12 := e258.trans (f_g264.1 12 (fun h => absurd (show (7 : Nat) = 5 from h) (by decide))).symm
                refine lv_if_ne (tgt := 150) hx hb dX7_readLawLine_145 (by decide) (fun c269 => ?_) (fun c269 => ?_)
                · skip
                  have i269_x261 : iv_R 1 1 x261 := iv_ne_lo c269 i_x261 q_0 (by decide)
                  refine lv_aload_n hx hb dX7_readLawLine_150 rfl (lv_at hl 1 rfl) ?_
                  refine lv_dup hx hb dX7_readLawLine_151 rfl ?_
                  refine iv_geti0 X ft_X7 hB a_h0 sh_7 8 (by decide) rfl k_fl_X7_74 dX7_readLawLine_152 e266 ?_
                  refine lv_iconst (v := 1) hx hb dX7_readLawLine_155 (by decide) ?_
                  refine iv_iadd hx hb i201_x200 q_1 (lo := 1) (hi := 16) (by decide) dX7_readLawLine_156 (fun x271 e_x271 i_x271 => ?_)
                  refine iv_puti X ft_X7 hB a_h0 sh_7 8 (by decide) rfl rfl k_fl_X7_74 rfl (i_x271.wk (by decide)) rfl rfl dX7_readLawLine_157 (fun H locs hB => ?_)
                  have hm := iv_Md0.put (x := x271) a_h0 (j := 8) (fun h => absurd rfl h)
                  have h9 := iv_up_eq (G := G263) (a := h0) (k := (7, upd g264 8 x271, r265))
                  generalize iv_up G263 h0 _ = G272 at hB hm h9
                  have hM := hM.stp hm (by decide)
                  generalize hgn_g273 : upd g264 _ _ = g273 at h9
                  have a_h0 := h9
                  have e9_g273 : x271 = g273 8 := by rw [← hgn_g273]; simp [upd]
                  have n_g273 : iv_R 0 400 (g273 1) := by rw [← hgn_g273]; exact n_g264
                  refine lv_aload_n hx hb dX7_readLawLine_160 rfl (lv_at hl 1 rfl) ?_
                  refine iv_getr X ft_X7 hB a_h0 sh_7 11 (by decide) rfl k_fl_X7_29 dX7_readLawLine_161 (fun b274 g_b274 r_b274 e_b274 a_b274 => ?_)
                  refine lv_aload_n hx hb dX7_readLawLine_164 rfl (lv_at hl 1 rfl) ?_
                  refine iv_geti0 X ft_X7 hB a_h0 sh_7 8 (by decide) rfl k_fl_X7_74 dX7_readLawLine_165 e9_g273 ?_
                  refine lv_aload_n hx hb dX7_readLawLine_168 rfl (lv_at hl 1 rfl) ?_
                  refine iv_geti X ft_X7 hB a_h0 sh_7 5 (by decide) rfl k_fl_X7_77 dX7_readLawLine_169 (fun x275 e_x275 i_x275 => ?_)
                  refine iv_ast X hB a_b274 sh_35 (iv_in i_x271 (by decide)) i_x275 dX7_readLawLine_172 (fun H locs hB => ?_)
                  have hm := iv_Md.ast (j := x271.toNatClampNeg) (x := x275) a_b274 rfl (by decide)
                  have h9 := iv_up_eq (G := G272) (a := b274) (k := (35, upd g_b274 x271.toNatClampNeg x275, r_b274))
                  generalize iv_up G272 b274 _ = G276 at hB hm h9
                  have hM := hM.stp hm.weak (by decide)
                  have a_h0 := hm.at a_h0 (by decide)
                  refine lv_iconst (v := 1) hx hb dX7_readLawLine_173 (by decide) ?_
                  exact iv_zret X hr hlocks hB (q_1.wk (by decide)) ⟨⟨hM, fun g9 r9 h9 => by have h8 := a_h0.symm.trans h9; cases h8; exact n_g273⟩, (q_1.wk (by decide))⟩ dX7_readLawLine_174
                · skip
                  have i277_x261 : iv_R 0 0 x261 := (i_x261.cutHi (n := 0) (iv_eq_r c269 q_0).2)
                  refine lv_iconst (v := 0) hx hb dX7_readLawLine_148 (by decide) ?_
                  exact iv_zret X hr hlocks hB (q_0.wk (by decide)) ⟨⟨hM, fun g9 r9 h9 => by have h8 := a_h0.symm.trans h9; cases h8; exact n_g264⟩, (q_0.wk (by decide))⟩ dX7_readLawLine_149
              · skip
                have i278_x252 : iv_R 0 0 x252 := (i_x252.cutHi (n := 0) (iv_eq_r c259 q_0).2)
                refine lv_iconst (v := 0) hx hb dX7_readLawLine_137 (by decide) ?_
                exact iv_zret X hr hlocks hB (q_0.wk (by decide)) ⟨⟨hM, fun g9 r9 h9 => by have h8 := a_h0.symm.trans h9; cases h8; exact n_g254⟩, (q_0.wk (by decide))⟩ dX7_readLawLine_138
          · skip
            have i279_x212 : iv_R 0 0 x212 := (i_x212.cutHi (n := 0) (iv_eq_r c218 q_0).2)
            refine lv_iconst (v := 0) hx hb dX7_readLawLine_100 (by decide) ?_
            exact iv_zret X hr hlocks hB (q_0.wk (by decide)) ⟨⟨hM, fun g9 r9 h9 => by have h8 := a_h0.symm.trans h9; cases h8; exact n_g214⟩, (q_0.wk (by decide))⟩ dX7_readLawLine_101
        · skip
          have i280_x200 : iv_R 16 20 x200 := (i_x200.cutLo (n := 16) (iv_le_l (iv_nlt c201) q_16))
          refine lv_aload_n hx hb dX7_readLawLine_70 rfl (lv_at hl 1 rfl) ?_
          refine lv_iconst (v := 3) hx hb dX7_readLawLine_71 (by decide) ?_
          refine iv_cVi X k_good k_mf_X7_refuse k_im_X7_refuse k_sel_X7_refuse k_ml_X7_98 ft_X7 hB a_h0 sh_7 (As := [.int 3]) (c_X7_refuse l D tys base G h0 g_h0 r_h0 a_h0 n_g_h0 3 (q_3.wk (by decide))) ⟨rfl, rfl⟩ ⟨Nat.le_of_ble_eq_true rfl, Nat.le_of_ble_eq_true rfl⟩ ⟨Nat.le_of_ble_eq_true rfl, Nat.le_of_ble_eq_true rfl⟩ rfl rfl hl.1 (Nat.le_of_ble_eq_true rfl) dX7_readLawLine_72 (fun x282 G9 H locs hq hB => ?_)
          obtain ⟨hm, i_x282⟩ := hq
          obtain ⟨G283, hG9⟩ : ∃ g, g = G9 := ⟨_, rfl⟩
          rw [← hG9] at hm hB
          have hM := hM.stp hm.weak (by decide)
          obtain ⟨g284, r285, a_h0, f_g284⟩ := hm.ex a_h0
          have n_g284 := iv_nxt hB a_h0 f_g284 n_g_h0
          have e286 : x200 = g284 8 := e_x200.trans (f_g284.2.1 8 (show (8 : Nat) ∈ iv_stab 7 from by decide)).symm
          exact iv_zret X hr hlocks hB (i_x282.wk (by decide)) ⟨⟨hM, fun g9 r9 h9 => by have h8 := a_h0.symm.trans h9; cases h8; exact n_g284⟩, (i_x282.wk (by decide))⟩ dX7_readLawLine_75
      · skip
        exact (q_1.cutHi (n := 0) (iv_eq_r c199 q_0).2).no (by decide)
theorem dX7_readLaw_0 : decode cX7_readLaw 0 = .ok (.aload_n 0, 1) := by decide +kernel
theorem dX7_readLaw_1 : decode cX7_readLaw 1 = .ok (.aload_n 1, 1) := by decide +kernel
theorem dX7_readLaw_2 : decode cX7_readLaw 2 = .ok (.iload_n 2, 1) := by decide +kernel
theorem dX7_readLaw_3 : decode cX7_readLaw 3 = .ok (.invokevirtual 44, 3) := by decide +kernel
theorem dX7_readLaw_6 : decode cX7_readLaw 6 = .ok (.aload_n 0, 1) := by decide +kernel
theorem dX7_readLaw_7 : decode cX7_readLaw 7 = .ok (.iload_n 3, 1) := by decide +kernel
theorem dX7_readLaw_8 : decode cX7_readLaw 8 = .ok (.putfield 60, 3) := by decide +kernel
theorem dX7_readLaw_11 : decode cX7_readLaw 11 = .ok (.iconst 1, 1) := by decide +kernel
theorem dX7_readLaw_12 : decode cX7_readLaw 12 = .ok (.istore 4, 2) := by decide +kernel
theorem dX7_readLaw_14 : decode cX7_readLaw 14 = .ok (.iconst 0, 1) := by decide +kernel
theorem dX7_readLaw_15 : decode cX7_readLaw 15 = .ok (.istore 5, 2) := by decide +kernel
theorem dX7_readLaw_17 : decode cX7_readLaw 17 = .ok (.iload 5, 2) := by decide +kernel
theorem dX7_readLaw_19 : decode cX7_readLaw 19 = .ok (.bipush 16, 2) := by decide +kernel
theorem dX7_readLaw_21 : decode cX7_readLaw 21 = .ok (.if_icmp .gt 27, 3) := by decide +kernel
theorem dX7_readLaw_24 : decode cX7_readLaw 24 = .ok (.iload 4, 2) := by decide +kernel
theorem dX7_readLaw_26 : decode cX7_readLaw 26 = .ok (.ifCond .eq 22, 3) := by decide +kernel
theorem dX7_readLaw_29 : decode cX7_readLaw 29 = .ok (.aload_n 0, 1) := by decide +kernel
theorem dX7_readLaw_30 : decode cX7_readLaw 30 = .ok (.getfield 53, 3) := by decide +kernel
theorem dX7_readLaw_33 : decode cX7_readLaw 33 = .ok (.ifCond .eq 15, 3) := by decide +kernel
theorem dX7_readLaw_36 : decode cX7_readLaw 36 = .ok (.aload_n 0, 1) := by decide +kernel
theorem dX7_readLaw_37 : decode cX7_readLaw 37 = .ok (.invokevirtual 64, 3) := by decide +kernel
theorem dX7_readLaw_40 : decode cX7_readLaw 40 = .ok (.istore 4, 2) := by decide +kernel
theorem dX7_readLaw_42 : decode cX7_readLaw 42 = .ok (.iinc 5 1, 3) := by decide +kernel
theorem dX7_readLaw_45 : decode cX7_readLaw 45 = .ok (.goto (-28), 3) := by decide +kernel
theorem dX7_readLaw_48 : decode cX7_readLaw 48 = .ok (.iload 4, 2) := by decide +kernel
theorem dX7_readLaw_50 : decode cX7_readLaw 50 = .ok (.ireturn, 1) := by decide +kernel
set_option maxHeartbeats 4000000 in
set_option maxRecDepth 100000 in
theorem c_X7_readLaw (l : Launch) (D : va_G) (tys : List (ClassId × FieldType)) (base : Nat) (G : iv_G) (h0 : Nat) (g_h0 : Nat → Int32) (r_h0 : Nat → Nat) (a_h0 : G h0 = some (7, g_h0, r_h0)) (h1 : Nat) (g_h1 : Nat → Int32) (r_h1 : Nat → Nat) (a_h1 : G h1 = some (45, g_h1, r_h1)) (x_1 : Int32) (i_x_1 : iv_R 0 400 x_1) (x_2 : Int32) (i_x_2 : iv_R 0 1 x_2) : Met l yX7_readLaw (Cond.code yX7_readLaw cX7_readLaw 6 (some .boolean) :: iv_W0) ({ frames := 35, cells := 0, slots := 0, locals := 811 }) (iv_Pc iv_sh D classes tys base G [.ref h0, .ref h1, .int x_1, .int x_2]) (iv_Qi iv_sh D classes tys base (fun v G' => iv_Md0 [7, 34, 35, 36, 37, 38, 42, 43, 44] G G' ∧ iv_R 0 1 v)) 0 0 (iv_A base) := by
  refine iv_head (by decide) (Nat.le_of_ble_eq_true rfl) ?_
  intro p e s m args below meth c ls X hr hlocks hname hB hl
  have X := X
  have hx := X.1.1
  have hb := X.1.2.1
  have hM : iv_Md0 [7, 34, 35, 36, 37, 38, 42, 43, 44] G G := iv_Md0.rf
  have hl : lv_has ls 6 [(0, .ref h0), (1, .ref h1), (2, .int x_1), (3, .int x_2)] := hl
  refine lv_aload_n hx hb dX7_readLaw_0 rfl (lv_at hl 0 rfl) ?_
  refine lv_aload_n hx hb dX7_readLaw_1 rfl (lv_at hl 1 rfl) ?_
  refine lv_iload_n hx hb dX7_readLaw_2 rfl (lv_at hl 2 rfl) ?_
  refine iv_cVv X k_good k_mf_X7_begin k_im_X7_begin k_sel_X7_begin k_ml_X7_44 ft_X7 hB a_h0 sh_7 (As := [.ref h1, .int x_1]) (c_X7_begin l D tys base G h0 g_h0 r_h0 a_h0 h1 g_h1 r_h1 a_h1 x_1 i_x_1) ⟨rfl, rfl⟩ ⟨Nat.le_of_ble_eq_true rfl, Nat.le_of_ble_eq_true rfl⟩ ⟨Nat.le_of_ble_eq_true rfl, Nat.le_of_ble_eq_true rfl⟩ rfl rfl hl.1 (Nat.le_of_ble_eq_true rfl) dX7_readLaw_3 (fun G9 H locs hq hB => ?_)
  obtain ⟨hm, vg⟩ := hq
  obtain ⟨G1, hG9⟩ : ∃ g, g = G9 := ⟨_, rfl⟩
  rw [← hG9] at hm hB vg
  have hM := hM.stp hm (by decide)
  obtain ⟨g2, r3, a_h0, f_g2⟩ := hm.ex a_h0
  have a_h1 := hm.at a_h1 (by decide)
  have vg4 := vg _ _ a_h0
  refine lv_aload_n hx hb dX7_readLaw_6 rfl (lv_at hl 0 rfl) ?_
  refine lv_iload_n hx hb dX7_readLaw_7 rfl (lv_at hl 3 rfl) ?_
  refine iv_puti X ft_X7 hB a_h0 sh_7 4 (by decide) rfl rfl k_fl_X7_60 rfl i_x_2 (iv_nar i_x_2) (iv_fit i_x_2) dX7_readLaw_8 (fun H locs hB => ?_)
  have hm := iv_Md0.put (x := x_2) a_h0 (j := 4) (fun h => absurd rfl h)
  have h9 := iv_up_eq (G := G1) (a := h0) (k := (7, upd g2 4 x_2, r3))
  generalize iv_up G1 h0 _ = G5 at hB hm h9
  have hM := hM.stp hm (by decide)
  generalize hgn_g6 : upd g2 _ _ = g6 at h9
  have a_h1 := hm.at a_h1 (by decide)
  have a_h0 := h9
  have e9_g6 : x_2 = g6 4 := by rw [← hgn_g6]; simp [upd]
  have n_g6 : iv_R 0 400 (g6 1) := by rw [← hgn_g6]; exact vg4
  refine lv_iconst (v := 1) hx hb dX7_readLaw_11 (by decide) ?_
  refine lv_istore (lv' := [(4, .int 1), (0, .ref h0), (1, .ref h1), (2, .int x_1), (3, .int x_2)]) hx hb dX7_readLaw_12 hl (by decide) rfl (fun ls hl => ?_)
  refine lv_iconst (v := 0) hx hb dX7_readLaw_14 (by decide) ?_
  refine lv_istore (lv' := [(5, .int 0), (4, .int 1), (0, .ref h0), (1, .ref h1), (2, .int x_1), (3, .int x_2)]) hx hb dX7_readLaw_15 hl (by decide) rfl (fun ls hl => ?_)
  have L_17 : ∀ (n_17 : Nat) (G11 : iv_G) (hM : iv_Md0 [7, 34, 35, 36, 37, 38, 42, 43, 44] G G11) (H : Heap) (locs : List Loc) (hB : iv_B iv_sh D classes tys base G11 s.heap H locs) (g9 : Nat → Int32) (r10 : Nat → Nat) (a_h0 : G11 h0 = some (7, g9, r10)) (n_g9 : iv_R 0 400 (g9 1)) (x7 : Int32) (i_x7 : iv_R 0 1 x7) (x8 : Int32) (i_x8 : iv_R 0 17 x8) (hn_17 : (18 - x8.toInt).toNat < n_17) (ls : Array Slot) (hl : lv_has ls 6 [(5, .int x8), (4, .int x7), (0, .ref h0)]), W p l e ({ frames := 35, cells := 0, slots := 0, locals := 811 } : Room) s m args below meth c H locs 0 0 (MQ below (iv_Qi iv_sh D classes tys base (fun v G' => iv_Md0 [7, 34, 35, 36, 37, 38, 42, 43, 44] G G' ∧ iv_R 0 1 v)) args s 0 0 (iv_A base)) (F0 m 17 ls []) := by
    intro n_17
    induction n_17 with
    | zero => intro G11 hM H locs hB g9 r10 a_h0 n_g9 x7 i_x7 x8 i_x8 hn_17 ls hl; exact absurd hn_17 (Nat.not_lt_zero _)
    | succ n_17 ih_17 =>
      intro G11 hM H locs hB g9 r10 a_h0 n_g9 x7 i_x7 x8 i_x8 hn_17 ls hl
      refine lv_iload hx hb dX7_readLaw_17 (lv_at hl 0 rfl) ?_
      refine lv_bipush (v := 16) hx hb dX7_readLaw_19 (by decide) ?_
      refine lv_icmp_gt (tgt := 48) hx hb dX7_readLaw_21 (by decide) (fun c12 => ?_) (fun c12 => ?_)
      · skip
        have i12_x8 : iv_R 17 17 x8 := (i_x8.cutLo (n := 17) (iv_lt_l c12 q_16 (by decide)))
        refine lv_iload hx hb dX7_readLaw_48 (lv_at hl 1 rfl) ?_
        exact iv_zret X hr hlocks hB i_x7 ⟨hM, i_x7⟩ dX7_readLaw_50
      · skip
        have i13_x8 : iv_R 0 16 x8 := (i_x8.cutHi (n := 16) (iv_le_r (iv_nlt c12) q_16))
        refine lv_iload hx hb dX7_readLaw_24 (lv_at hl 1 rfl) ?_
        refine lv_if_eq (tgt := 48) hx hb dX7_readLaw_26 (by decide) (fun c15 => ?_) (fun c15 => ?_)
        · skip
          have i15_x7 : iv_R 0 0 x7 := (i_x7.cutHi (n := 0) (iv_eq_r c15 q_0).2)
          refine lv_iload hx hb dX7_readLaw_48 (lv_at hl 1 rfl) ?_
          exact iv_zret X hr hlocks hB (i15_x7.wk (by decide)) ⟨hM, (i15_x7.wk (by decide))⟩ dX7_readLaw_50
        · skip
          have i16_x7 : iv_R 1 1 x7 := iv_ne_lo c15 i_x7 q_0 (by decide)
          refine lv_aload_n hx hb dX7_readLaw_29 rfl (lv_at hl 2 rfl) ?_
          refine iv_geti X ft_X7 hB a_h0 sh_7 2 (by decide) rfl k_fl_X7_53 dX7_readLaw_30 (fun x18 e_x18 i_x18 => ?_)
          refine lv_if_eq (tgt := 48) hx hb dX7_readLaw_33 (by decide) (fun c19 => ?_) (fun c19 => ?_)
          · skip
            have i19_x18 : iv_R 0 0 x18 := ((i_x18.cutLo (n := 0) (iv_eq_r c19 q_0).1).cutHi (n := 0) (iv_eq_r c19 q_0).2)
            refine lv_iload hx hb dX7_readLaw_48 (lv_at hl 1 rfl) ?_
            exact iv_zret X hr hlocks hB (i16_x7.wk (by decide)) ⟨hM, (i16_x7.wk (by decide))⟩ dX7_readLaw_50
          · skip
            refine lv_aload_n hx hb dX7_readLaw_36 rfl (lv_at hl 2 rfl) ?_
            refine iv_cVi X k_good k_mf_X7_readLawLine k_im_X7_readLawLine k_sel_X7_readLawLine k_ml_X7_64 ft_X7 hB a_h0 sh_7 (As := []) (c_X7_readLawLine l D tys base G11 h0 g9 r10 a_h0 n_g9) ⟨rfl, rfl⟩ ⟨Nat.le_of_ble_eq_true rfl, Nat.le_of_ble_eq_true rfl⟩ ⟨Nat.le_of_ble_eq_true rfl, Nat.le_of_ble_eq_true rfl⟩ rfl rfl hl.1 (Nat.le_of_ble_eq_true rfl) dX7_readLaw_37 (fun x21 G9 H locs hq hB => ?_)
            obtain ⟨⟨hm, vg⟩, i_x21⟩ := hq
            obtain ⟨G22, hG9⟩ : ∃ g, g = G9 := ⟨_, rfl⟩
            rw [← hG9] at hm hB vg
            have hM := hM.stp hm (by decide)
            obtain ⟨g23, r24, a_h0, f_g23⟩ := hm.ex a_h0
            have vg25 := vg _ _ a_h0
            refine lv_istore (lv' := [(4, .int x21), (5, .int x8), (0, .ref h0)]) hx hb dX7_readLaw_40 hl (by decide) rfl (fun ls hl => ?_)
            refine iv_iinc hx hb i13_x8 (lo := 1) (hi := 17) (by decide) dX7_readLaw_42 hl (k := 1) rfl (by decide) (fun x26 ls e_x26 i_x26 hl => ?_)
            have hl : lv_has ls 6 [(5, .int x26), (4, .int x21), (0, .ref h0)] := hl
            refine lv_goto (tgt := 17) hx hb dX7_readLaw_45 (by decide) ?_
            exact ih_17 G22 hM _ _ hB g23 r24 a_h0 vg25 x21 i_x21 x26 (i_x26.wk (by decide)) (iv_mup (c := 1) i_x8 (by decide) (by decide) (by omega) hn_17) _ (lv_sub hl [0, 1, 2] rfl)
  exact L_17 _ G5 hM _ _ hB g6 r3 a_h0 n_g6 1 (q_1.wk (by decide)) 0 (q_0.wk (by decide)) (Nat.lt_succ_self _) _ (lv_sub hl [0, 1, 2] rfl)
