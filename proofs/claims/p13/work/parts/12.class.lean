theorem dX4_seatFrom_0 : decode cX4_seatFrom 0 = .ok (.iload_n 0, 1) := by decide +kernel
theorem dX4_seatFrom_1 : decode cX4_seatFrom 1 = .ok (.aload_n 3, 1) := by decide +kernel
theorem dX4_seatFrom_2 : decode cX4_seatFrom 2 = .ok (.getfield 33, 3) := by decide +kernel
theorem dX4_seatFrom_5 : decode cX4_seatFrom 5 = .ok (.if_icmp .ge 10, 3) := by decide +kernel
theorem dX4_seatFrom_8 : decode cX4_seatFrom 8 = .ok (.iload_n 0, 1) := by decide +kernel
theorem dX4_seatFrom_9 : decode cX4_seatFrom 9 = .ok (.aload 4, 2) := by decide +kernel
theorem dX4_seatFrom_11 : decode cX4_seatFrom 11 = .ok (.arraylength, 1) := by decide +kernel
theorem dX4_seatFrom_12 : decode cX4_seatFrom 12 = .ok (.if_icmp .lt 5, 3) := by decide +kernel
theorem dX4_seatFrom_15 : decode cX4_seatFrom 15 = .ok (.iconst 1, 1) := by decide +kernel
theorem dX4_seatFrom_16 : decode cX4_seatFrom 16 = .ok (.ireturn, 1) := by decide +kernel
theorem dX4_seatFrom_17 : decode cX4_seatFrom 17 = .ok (.aload 4, 2) := by decide +kernel
theorem dX4_seatFrom_19 : decode cX4_seatFrom 19 = .ok (.iload_n 0, 1) := by decide +kernel
theorem dX4_seatFrom_20 : decode cX4_seatFrom 20 = .ok (.iconst (-1), 1) := by decide +kernel
theorem dX4_seatFrom_21 : decode cX4_seatFrom 21 = .ok (.iastore, 1) := by decide +kernel
theorem dX4_seatFrom_22 : decode cX4_seatFrom 22 = .ok (.aload_n 3, 1) := by decide +kernel
theorem dX4_seatFrom_23 : decode cX4_seatFrom 23 = .ok (.iload_n 0, 1) := by decide +kernel
theorem dX4_seatFrom_24 : decode cX4_seatFrom 24 = .ok (.invokevirtual 39, 3) := by decide +kernel
theorem dX4_seatFrom_27 : decode cX4_seatFrom 27 = .ok (.ifCond .ne 15, 3) := by decide +kernel
theorem dX4_seatFrom_30 : decode cX4_seatFrom 30 = .ok (.iload_n 0, 1) := by decide +kernel
theorem dX4_seatFrom_31 : decode cX4_seatFrom 31 = .ok (.iconst 1, 1) := by decide +kernel
theorem dX4_seatFrom_32 : decode cX4_seatFrom 32 = .ok (.iadd, 1) := by decide +kernel
theorem dX4_seatFrom_33 : decode cX4_seatFrom 33 = .ok (.iload_n 1, 1) := by decide +kernel
theorem dX4_seatFrom_34 : decode cX4_seatFrom 34 = .ok (.iload_n 2, 1) := by decide +kernel
theorem dX4_seatFrom_35 : decode cX4_seatFrom 35 = .ok (.aload_n 3, 1) := by decide +kernel
theorem dX4_seatFrom_36 : decode cX4_seatFrom 36 = .ok (.aload 4, 2) := by decide +kernel
theorem dX4_seatFrom_38 : decode cX4_seatFrom 38 = .ok (.invokestatic 25, 3) := by decide +kernel
theorem dX4_seatFrom_41 : decode cX4_seatFrom 41 = .ok (.ireturn, 1) := by decide +kernel
theorem dX4_seatFrom_42 : decode cX4_seatFrom 42 = .ok (.iconst 0, 1) := by decide +kernel
theorem dX4_seatFrom_43 : decode cX4_seatFrom 43 = .ok (.istore 5, 2) := by decide +kernel
theorem dX4_seatFrom_45 : decode cX4_seatFrom 45 = .ok (.iload 5, 2) := by decide +kernel
theorem dX4_seatFrom_47 : decode cX4_seatFrom 47 = .ok (.iload_n 1, 1) := by decide +kernel
theorem dX4_seatFrom_48 : decode cX4_seatFrom 48 = .ok (.if_icmp .gt 56, 3) := by decide +kernel
theorem dX4_seatFrom_51 : decode cX4_seatFrom 51 = .ok (.iload 5, 2) := by decide +kernel
theorem dX4_seatFrom_53 : decode cX4_seatFrom 53 = .ok (.iload_n 2, 1) := by decide +kernel
theorem dX4_seatFrom_54 : decode cX4_seatFrom 54 = .ok (.if_icmp .ge 50, 3) := by decide +kernel
theorem dX4_seatFrom_57 : decode cX4_seatFrom 57 = .ok (.iload_n 0, 1) := by decide +kernel
theorem dX4_seatFrom_58 : decode cX4_seatFrom 58 = .ok (.iload 5, 2) := by decide +kernel
theorem dX4_seatFrom_60 : decode cX4_seatFrom 60 = .ok (.aload_n 3, 1) := by decide +kernel
theorem dX4_seatFrom_61 : decode cX4_seatFrom 61 = .ok (.aload 4, 2) := by decide +kernel
theorem dX4_seatFrom_63 : decode cX4_seatFrom 63 = .ok (.invokestatic 43, 3) := by decide +kernel
theorem dX4_seatFrom_66 : decode cX4_seatFrom 66 = .ok (.ifCond .eq 32, 3) := by decide +kernel
theorem dX4_seatFrom_69 : decode cX4_seatFrom 69 = .ok (.aload 4, 2) := by decide +kernel
theorem dX4_seatFrom_71 : decode cX4_seatFrom 71 = .ok (.iload_n 0, 1) := by decide +kernel
theorem dX4_seatFrom_72 : decode cX4_seatFrom 72 = .ok (.iload 5, 2) := by decide +kernel
theorem dX4_seatFrom_74 : decode cX4_seatFrom 74 = .ok (.iastore, 1) := by decide +kernel
theorem dX4_seatFrom_75 : decode cX4_seatFrom 75 = .ok (.iload_n 0, 1) := by decide +kernel
theorem dX4_seatFrom_76 : decode cX4_seatFrom 76 = .ok (.iconst 1, 1) := by decide +kernel
theorem dX4_seatFrom_77 : decode cX4_seatFrom 77 = .ok (.iadd, 1) := by decide +kernel
theorem dX4_seatFrom_78 : decode cX4_seatFrom 78 = .ok (.iload_n 1, 1) := by decide +kernel
theorem dX4_seatFrom_79 : decode cX4_seatFrom 79 = .ok (.iload 5, 2) := by decide +kernel
theorem dX4_seatFrom_81 : decode cX4_seatFrom 81 = .ok (.iconst 1, 1) := by decide +kernel
theorem dX4_seatFrom_82 : decode cX4_seatFrom 82 = .ok (.iadd, 1) := by decide +kernel
theorem dX4_seatFrom_83 : decode cX4_seatFrom 83 = .ok (.invokestatic 47, 3) := by decide +kernel
theorem dX4_seatFrom_86 : decode cX4_seatFrom 86 = .ok (.iload_n 2, 1) := by decide +kernel
theorem dX4_seatFrom_87 : decode cX4_seatFrom 87 = .ok (.aload_n 3, 1) := by decide +kernel
theorem dX4_seatFrom_88 : decode cX4_seatFrom 88 = .ok (.aload 4, 2) := by decide +kernel
theorem dX4_seatFrom_90 : decode cX4_seatFrom 90 = .ok (.invokestatic 25, 3) := by decide +kernel
theorem dX4_seatFrom_93 : decode cX4_seatFrom 93 = .ok (.ifCond .eq 5, 3) := by decide +kernel
theorem dX4_seatFrom_96 : decode cX4_seatFrom 96 = .ok (.iconst 1, 1) := by decide +kernel
theorem dX4_seatFrom_97 : decode cX4_seatFrom 97 = .ok (.ireturn, 1) := by decide +kernel
theorem dX4_seatFrom_98 : decode cX4_seatFrom 98 = .ok (.iinc 5 1, 3) := by decide +kernel
theorem dX4_seatFrom_101 : decode cX4_seatFrom 101 = .ok (.goto (-56), 3) := by decide +kernel
theorem dX4_seatFrom_104 : decode cX4_seatFrom 104 = .ok (.iconst 0, 1) := by decide +kernel
theorem dX4_seatFrom_105 : decode cX4_seatFrom 105 = .ok (.ireturn, 1) := by decide +kernel
set_option maxHeartbeats 4000000 in
set_option maxRecDepth 100000 in
theorem c_X4_seatFrom_rec (l : Launch) (D : va_G) (tys : List (ClassId × FieldType)) (base : Nat) : ∀ (d : Nat) (G : iv_G) (x_0 : Int32) (i_x_0 : iv_R 0 10 x_0) (x_1 : Int32) (i_x_1 : iv_R 0 10 x_1) (x_2 : Int32) (i_x_2 : iv_R 0 10 x_2) (h4 : Nat) (g_h4 : Nat → Int32) (r_h4 : Nat → Nat) (a_h4 : G h4 = some (5, g_h4, r_h4)) (h5 : Nat) (g_h5 : Nat → Int32) (r_h5 : Nat → Nat) (a_h5 : G h5 = some (31, g_h5, r_h5)) (hd : (11 - x_0.toInt).toNat ≤ d), Met l yX4_seatFrom (Cond.code yX4_seatFrom cX4_seatFrom 6 (some .boolean) :: iv_W0) ({ frames := 3 + d, cells := 0, slots := 0, locals := 59 + 25 * d }) (iv_Pc iv_sh D classes tys base G [.int x_0, .int x_1, .int x_2, .ref h4, .ref h5]) (iv_Qi iv_sh D classes tys base (fun v G' => iv_Md [31] G G' ∧ iv_R 0 1 v ∧ (v = 0 → iv_R 0 9 x_0))) 0 0 (iv_A base) := by
  intro d
  induction d with
  | zero => intro G x_0 i_x_0 x_1 i_x_1 x_2 i_x_2 h4 g_h4 r_h4 a_h4 h5 g_h5 r_h5 a_h5 hd; exact absurd hd (by have := i_x_0.2; omega)
  | succ d ih =>
    intro G x_0 i_x_0 x_1 i_x_1 x_2 i_x_2 h4 g_h4 r_h4 a_h4 h5 g_h5 r_h5 a_h5 hd
    refine iv_head (by decide) (Nat.le_of_ble_eq_true rfl) ?_
    intro p e s m args below meth c ls X hr hlocks hname hB hl
    have X := X
    have hx := X.1.1
    have hb := X.1.2.1
    have hM : iv_Md [31] G G := iv_Md.rf
    have hl : lv_has ls 6 [(0, .int x_0), (1, .int x_1), (2, .int x_2), (3, .ref h4), (4, .ref h5)] := hl
    refine lv_iload_n hx hb dX4_seatFrom_0 rfl (lv_at hl 0 rfl) ?_
    refine lv_aload_n hx hb dX4_seatFrom_1 rfl (lv_at hl 3 rfl) ?_
    refine iv_geti X ft_X5 hB a_h4 sh_5 1 (by decide) rfl k_fl_X4_33 dX4_seatFrom_2 (fun x1 e_x1 i_x1 => ?_)
    refine lv_icmp_ge (tgt := 15) hx hb dX4_seatFrom_5 (by decide) (fun c2 => ?_) (fun c2 => ?_)
    · skip
      refine lv_iconst (v := 1) hx hb dX4_seatFrom_15 (by decide) ?_
      exact iv_zret X hr hlocks hB (q_1.wk (by decide)) ⟨hM, (q_1.wk (by decide)), fun h => absurd h (iv_nz q_1 (by decide))⟩ dX4_seatFrom_16
    · skip
      have i2_x_0 : iv_R 0 9 x_0 := (i_x_0.cutHi (n := 9) (iv_lt_r (iv_nle c2) i_x1 (by decide)))
      have i3_x1 : iv_R 1 10 x1 := (i_x1.cutLo (n := 1) (iv_lt_l (iv_nle c2) i_x_0 (by decide)))
      refine lv_iload_n hx hb dX4_seatFrom_8 rfl (lv_at hl 0 rfl) ?_
      refine lv_aload hx hb dX4_seatFrom_9 (lv_at hl 4 rfl) ?_
      refine iv_alen X hB a_h5 sh_31 (v := 10) (by decide) dX4_seatFrom_11 ?_
      refine lv_icmp_lt (tgt := 17) hx hb dX4_seatFrom_12 (by decide) (fun c5 => ?_) (fun c5 => ?_)
      · skip
        refine lv_aload hx hb dX4_seatFrom_17 (lv_at hl 4 rfl) ?_
        refine lv_iload_n hx hb dX4_seatFrom_19 rfl (lv_at hl 0 rfl) ?_
        refine lv_iconst (v := (-1)) hx hb dX4_seatFrom_20 (by decide) ?_
        refine iv_ast X hB a_h5 sh_31 (iv_in i2_x_0 (by decide)) (q_n1.wk (by decide)) dX4_seatFrom_21 (fun H locs hB => ?_)
        have hm := iv_Md.ast (j := x_0.toNatClampNeg) (x := (-1)) a_h5 rfl (by decide)
        have h9 := iv_up_eq (G := G) (a := h5) (k := (31, upd g_h5 x_0.toNatClampNeg (-1), r_h5))
        generalize iv_up G h5 _ = G6 at hB hm h9
        have hM := hM.stp hm (by decide)
        generalize hgn_g7 : upd g_h5 _ _ = g7 at h9
        have a_h4 := hm.at a_h4 (by decide)
        have a_h5 := h9
        refine lv_aload_n hx hb dX4_seatFrom_22 rfl (lv_at hl 3 rfl) ?_
        refine lv_iload_n hx hb dX4_seatFrom_23 rfl (lv_at hl 0 rfl) ?_
        refine iv_cVi X k_good k_mf_X5_isRung k_im_X5_isRung k_sel_X5_isRung k_ml_X4_39 ft_X5 hB a_h4 sh_5 (As := [.int x_0]) (c_X5_isRung l D tys base G6 h4 g_h4 r_h4 a_h4 x_0 (i2_x_0.wk (by decide))) ⟨rfl, rfl⟩ ⟨by dsimp only; omega, by dsimp only; omega⟩ ⟨Nat.le_of_ble_eq_true rfl, Nat.le_of_ble_eq_true rfl⟩ rfl rfl hl.1 (Nat.le_of_ble_eq_true rfl) dX4_seatFrom_24 (fun x8 G9 H locs hq hB => ?_)
        obtain ⟨rfl, i_x8, hp9⟩ := hq
        refine lv_if_ne (tgt := 42) hx hb dX4_seatFrom_27 (by decide) (fun c10 => ?_) (fun c10 => ?_)
        · skip
          have i10_x8 : iv_R 1 1 x8 := iv_ne_lo c10 i_x8 q_0 (by decide)
          refine lv_iconst (v := 0) hx hb dX4_seatFrom_42 (by decide) ?_
          refine lv_istore (lv' := [(5, .int 0), (0, .int x_0), (1, .int x_1), (2, .int x_2), (3, .ref h4), (4, .ref h5)]) hx hb dX4_seatFrom_43 hl (by decide) rfl (fun ls hl => ?_)
          have L_45 : ∀ (n_45 : Nat) (G15 : iv_G) (hM : iv_Md [31] G G15) (H : Heap) (locs : List Loc) (hB : iv_B iv_sh D classes tys base G15 s.heap H locs) (a_h4 : G15 h4 = some (5, g_h4, r_h4)) (g13 : Nat → Int32) (r14 : Nat → Nat) (a_h5 : G15 h5 = some (31, g13, r14)) (x12 : Int32) (i_x12 : iv_R 0 10 x12) (hn_45 : (11 - x12.toInt).toNat < n_45) (ls : Array Slot) (hl : lv_has ls 6 [(5, .int x12), (0, .int x_0), (1, .int x_1), (2, .int x_2), (3, .ref h4), (4, .ref h5)]), W p l e ({ frames := 3 + (d + 1), cells := 0, slots := 0, locals := 59 + 25 * (d + 1) } : Room) s m args below meth c H locs 0 0 (MQ below (iv_Qi iv_sh D classes tys base (fun v G' => iv_Md [31] G G' ∧ iv_R 0 1 v ∧ (v = 0 → iv_R 0 9 x_0))) args s 0 0 (iv_A base)) (F0 m 45 ls []) := by
            intro n_45
            induction n_45 with
            | zero => intro G15 hM H locs hB a_h4 g13 r14 a_h5 x12 i_x12 hn_45 ls hl; exact absurd hn_45 (Nat.not_lt_zero _)
            | succ n_45 ih_45 =>
              intro G15 hM H locs hB a_h4 g13 r14 a_h5 x12 i_x12 hn_45 ls hl
              refine lv_iload hx hb dX4_seatFrom_45 (lv_at hl 0 rfl) ?_
              refine lv_iload_n hx hb dX4_seatFrom_47 rfl (lv_at hl 2 rfl) ?_
              refine lv_icmp_gt (tgt := 104) hx hb dX4_seatFrom_48 (by decide) (fun c16 => ?_) (fun c16 => ?_)
              · skip
                have i16_x_1 : iv_R 0 9 x_1 := (i_x_1.cutHi (n := 9) (iv_lt_r c16 i_x12 (by decide)))
                have i17_x12 : iv_R 1 10 x12 := (i_x12.cutLo (n := 1) (iv_lt_l c16 i_x_1 (by decide)))
                refine lv_iconst (v := 0) hx hb dX4_seatFrom_104 (by decide) ?_
                exact iv_zret X hr hlocks hB (q_0.wk (by decide)) ⟨hM, (q_0.wk (by decide)), fun _ => i2_x_0⟩ dX4_seatFrom_105
              · skip
                refine lv_iload hx hb dX4_seatFrom_51 (lv_at hl 0 rfl) ?_
                refine lv_iload_n hx hb dX4_seatFrom_53 rfl (lv_at hl 3 rfl) ?_
                refine lv_icmp_ge (tgt := 104) hx hb dX4_seatFrom_54 (by decide) (fun c19 => ?_) (fun c19 => ?_)
                · skip
                  refine lv_iconst (v := 0) hx hb dX4_seatFrom_104 (by decide) ?_
                  exact iv_zret X hr hlocks hB (q_0.wk (by decide)) ⟨hM, (q_0.wk (by decide)), fun _ => i2_x_0⟩ dX4_seatFrom_105
                · skip
                  have i19_x12 : iv_R 0 9 x12 := (i_x12.cutHi (n := 9) (iv_lt_r (iv_nle c19) i_x_2 (by decide)))
                  have i20_x_2 : iv_R 1 10 x_2 := (i_x_2.cutLo (n := 1) (iv_lt_l (iv_nle c19) i_x12 (by decide)))
                  refine lv_iload_n hx hb dX4_seatFrom_57 rfl (lv_at hl 1 rfl) ?_
                  refine lv_iload hx hb dX4_seatFrom_58 (lv_at hl 0 rfl) ?_
                  refine lv_aload_n hx hb dX4_seatFrom_60 rfl (lv_at hl 4 rfl) ?_
                  refine lv_aload hx hb dX4_seatFrom_61 (lv_at hl 5 rfl) ?_
                  refine iv_cSi X k_good k_mf_X4_canSit k_st_X4_canSit k_ml_X4_43 hB (As := [.int x_0, .int x12, .ref h4, .ref h5]) (c_X4_canSit l D tys base G15 x_0 i2_x_0 x12 i19_x12 h4 g_h4 r_h4 a_h4 h5 g13 r14 a_h5) ⟨rfl, rfl⟩ ⟨by dsimp only; omega, by dsimp only; omega⟩ ⟨Nat.le_of_ble_eq_true rfl, Nat.le_of_ble_eq_true rfl⟩ rfl rfl hl.1 (Nat.le_of_ble_eq_true rfl) dX4_seatFrom_63 (fun x22 G9 H locs hq hB => ?_)
                  obtain ⟨rfl, i_x22, hp23⟩ := hq
                  refine lv_if_eq (tgt := 98) hx hb dX4_seatFrom_66 (by decide) (fun c24 => ?_) (fun c24 => ?_)
                  · skip
                    have i24_x22 : iv_R 0 0 x22 := (i_x22.cutHi (n := 0) (iv_eq_r c24 q_0).2)
                    have i25_x_0 : iv_R 1 9 x_0 := (i2_x_0.cutLo (n := 1) (hp23 c24).1)
                    refine iv_iinc hx hb i19_x12 (lo := 1) (hi := 10) (by decide) dX4_seatFrom_98 hl (k := 0) rfl (by decide) (fun x27 ls e_x27 i_x27 hl => ?_)
                    have hl : lv_has ls 6 [(5, .int x27), (0, .int x_0), (1, .int x_1), (2, .int x_2), (3, .ref h4), (4, .ref h5)] := hl
                    refine lv_goto (tgt := 45) hx hb dX4_seatFrom_101 (by decide) ?_
                    exact ih_45 G15 hM _ _ hB a_h4 g13 r14 a_h5 x27 (i_x27.wk (by decide)) (iv_mup (c := 1) i_x12 (by decide) (by decide) (by omega) hn_45) _ (lv_sub hl [0, 1, 2, 3, 4, 5] rfl)
                  · skip
                    have i27_x22 : iv_R 1 1 x22 := iv_ne_lo c24 i_x22 q_0 (by decide)
                    refine lv_aload hx hb dX4_seatFrom_69 (lv_at hl 5 rfl) ?_
                    refine lv_iload_n hx hb dX4_seatFrom_71 rfl (lv_at hl 1 rfl) ?_
                    refine lv_iload hx hb dX4_seatFrom_72 (lv_at hl 0 rfl) ?_
                    refine iv_ast X hB a_h5 sh_31 (iv_in i2_x_0 (by decide)) (i19_x12.wk (by decide)) dX4_seatFrom_74 (fun H locs hB => ?_)
                    have hm := iv_Md.ast (j := x_0.toNatClampNeg) (x := x12) a_h5 rfl (by decide)
                    have h9 := iv_up_eq (G := G15) (a := h5) (k := (31, upd g13 x_0.toNatClampNeg x12, r14))
                    generalize iv_up G15 h5 _ = G29 at hB hm h9
                    have hM := hM.stp hm (by decide)
                    generalize hgn_g30 : upd g13 _ _ = g30 at h9
                    have a_h4 := hm.at a_h4 (by decide)
                    have a_h5 := h9
                    refine lv_iload_n hx hb dX4_seatFrom_75 rfl (lv_at hl 1 rfl) ?_
                    refine lv_iconst (v := 1) hx hb dX4_seatFrom_76 (by decide) ?_
                    refine iv_iadd hx hb i2_x_0 q_1 (lo := 1) (hi := 10) (by decide) dX4_seatFrom_77 (fun x31 e_x31 i_x31 => ?_)
                    refine lv_iload_n hx hb dX4_seatFrom_78 rfl (lv_at hl 2 rfl) ?_
                    refine lv_iload hx hb dX4_seatFrom_79 (lv_at hl 0 rfl) ?_
                    refine lv_iconst (v := 1) hx hb dX4_seatFrom_81 (by decide) ?_
                    refine iv_iadd hx hb i19_x12 q_1 (lo := 1) (hi := 10) (by decide) dX4_seatFrom_82 (fun x32 e_x32 i_x32 => ?_)
                    refine iv_mmax X hl.1 k_mm_X4_47 ⟨Nat.le_of_ble_eq_true rfl, Nat.le_of_ble_eq_true rfl⟩ ⟨Nat.le_of_ble_eq_true rfl, Nat.le_of_ble_eq_true rfl⟩ i_x_1 i_x32 (lo := 1) (hi := 10) (by decide) dX4_seatFrom_83 (fun x33 e_x33 i_x33 => ?_)
                    refine lv_iload_n hx hb dX4_seatFrom_86 rfl (lv_at hl 3 rfl) ?_
                    refine lv_aload_n hx hb dX4_seatFrom_87 rfl (lv_at hl 4 rfl) ?_
                    refine lv_aload hx hb dX4_seatFrom_88 (lv_at hl 5 rfl) ?_
                    refine iv_cSi X k_good k_mf_X4_seatFrom k_st_X4_seatFrom k_ml_X4_25 hB (As := [.int x31, .int x33, .int x_2, .ref h4, .ref h5]) (ih G29 x31 (i_x31.wk (by decide)) x33 (i_x33.wk (by decide)) x_2 (i20_x_2.wk (by decide)) h4 g_h4 r_h4 a_h4 h5 g30 r14 a_h5 (by have e9 : x31.toInt = x_0.toInt + 1 := e_x31; have e8 := i_x_0.2; omega)) ⟨rfl, rfl⟩ ⟨by dsimp only; omega, by dsimp only; omega⟩ ⟨Nat.le_of_ble_eq_true rfl, Nat.le_of_ble_eq_true rfl⟩ rfl rfl hl.1 (Nat.le_of_ble_eq_true rfl) dX4_seatFrom_90 (fun x34 G9 H locs hq hB => ?_)
                    obtain ⟨hm, i_x34, hp35⟩ := hq
                    obtain ⟨G36, hG9⟩ : ∃ g, g = G9 := ⟨_, rfl⟩
                    rw [← hG9] at hm hB
                    have hM := hM.stp hm (by decide)
                    have a_h4 := hm.at a_h4 (by decide)
                    obtain ⟨g37, r38, a_h5, f_g37⟩ := hm.ex a_h5
                    refine lv_if_eq (tgt := 98) hx hb dX4_seatFrom_93 (by decide) (fun c39 => ?_) (fun c39 => ?_)
                    · skip
                      have i39_x34 : iv_R 0 0 x34 := (i_x34.cutHi (n := 0) (iv_eq_r c39 q_0).2)
                      have i40_x31 : iv_R 1 9 x31 := (i_x31.cutHi (n := 9) (hp35 c39).2)
                      refine iv_iinc hx hb i19_x12 (lo := 1) (hi := 10) (by decide) dX4_seatFrom_98 hl (k := 0) rfl (by decide) (fun x42 ls e_x42 i_x42 hl => ?_)
                      have hl : lv_has ls 6 [(5, .int x42), (0, .int x_0), (1, .int x_1), (2, .int x_2), (3, .ref h4), (4, .ref h5)] := hl
                      refine lv_goto (tgt := 45) hx hb dX4_seatFrom_101 (by decide) ?_
                      exact ih_45 G36 hM _ _ hB a_h4 g37 r38 a_h5 x42 (i_x42.wk (by decide)) (iv_mup (c := 1) i_x12 (by decide) (by decide) (by omega) hn_45) _ (lv_sub hl [0, 1, 2, 3, 4, 5] rfl)
                    · skip
                      have i42_x34 : iv_R 1 1 x34 := iv_ne_lo c39 i_x34 q_0 (by decide)
                      refine lv_iconst (v := 1) hx hb dX4_seatFrom_96 (by decide) ?_
                      exact iv_zret X hr hlocks hB (q_1.wk (by decide)) ⟨hM, (q_1.wk (by decide)), fun _ => i2_x_0⟩ dX4_seatFrom_97
          exact L_45 _ G6 hM _ _ hB a_h4 g7 r_h5 a_h5 0 (q_0.wk (by decide)) (Nat.lt_succ_self _) _ (lv_sub hl [0, 1, 2, 3, 4, 5] rfl)
        · skip
          have i43_x8 : iv_R 0 0 x8 := (i_x8.cutHi (n := 0) (iv_eq_r c10 q_0).2)
          refine lv_iload_n hx hb dX4_seatFrom_30 rfl (lv_at hl 0 rfl) ?_
          refine lv_iconst (v := 1) hx hb dX4_seatFrom_31 (by decide) ?_
          refine iv_iadd hx hb i2_x_0 q_1 (lo := 1) (hi := 10) (by decide) dX4_seatFrom_32 (fun x45 e_x45 i_x45 => ?_)
          refine lv_iload_n hx hb dX4_seatFrom_33 rfl (lv_at hl 1 rfl) ?_
          refine lv_iload_n hx hb dX4_seatFrom_34 rfl (lv_at hl 2 rfl) ?_
          refine lv_aload_n hx hb dX4_seatFrom_35 rfl (lv_at hl 3 rfl) ?_
          refine lv_aload hx hb dX4_seatFrom_36 (lv_at hl 4 rfl) ?_
          refine iv_cSi X k_good k_mf_X4_seatFrom k_st_X4_seatFrom k_ml_X4_25 hB (As := [.int x45, .int x_1, .int x_2, .ref h4, .ref h5]) (ih G6 x45 (i_x45.wk (by decide)) x_1 i_x_1 x_2 i_x_2 h4 g_h4 r_h4 a_h4 h5 g7 r_h5 a_h5 (by have e9 : x45.toInt = x_0.toInt + 1 := e_x45; have e8 := i_x_0.2; omega)) ⟨rfl, rfl⟩ ⟨by dsimp only; omega, by dsimp only; omega⟩ ⟨Nat.le_of_ble_eq_true rfl, Nat.le_of_ble_eq_true rfl⟩ rfl rfl hl.1 (Nat.le_of_ble_eq_true rfl) dX4_seatFrom_38 (fun x46 G9 H locs hq hB => ?_)
          obtain ⟨hm, i_x46, hp47⟩ := hq
          obtain ⟨G48, hG9⟩ : ∃ g, g = G9 := ⟨_, rfl⟩
          rw [← hG9] at hm hB
          have hM := hM.stp hm (by decide)
          have a_h4 := hm.at a_h4 (by decide)
          obtain ⟨g49, r50, a_h5, f_g49⟩ := hm.ex a_h5
          exact iv_zret X hr hlocks hB i_x46 ⟨hM, i_x46, fun _ => i2_x_0⟩ dX4_seatFrom_41
      · skip
        exact (q_10.cutHi (n := 9) (iv_le_r (iv_nlt c5) i2_x_0)).no (by decide)
theorem c_X4_seatFrom (l : Launch) (D : va_G) (tys : List (ClassId × FieldType)) (base : Nat) (G : iv_G) (x_0 : Int32) (i_x_0 : iv_R 0 10 x_0) (x_1 : Int32) (i_x_1 : iv_R 0 10 x_1) (x_2 : Int32) (i_x_2 : iv_R 0 10 x_2) (h4 : Nat) (g_h4 : Nat → Int32) (r_h4 : Nat → Nat) (a_h4 : G h4 = some (5, g_h4, r_h4)) (h5 : Nat) (g_h5 : Nat → Int32) (r_h5 : Nat → Nat) (a_h5 : G h5 = some (31, g_h5, r_h5)) : Met l yX4_seatFrom (Cond.code yX4_seatFrom cX4_seatFrom 6 (some .boolean) :: iv_W0) ({ frames := 14, cells := 0, slots := 0, locals := 334 }) (iv_Pc iv_sh D classes tys base G [.int x_0, .int x_1, .int x_2, .ref h4, .ref h5]) (iv_Qi iv_sh D classes tys base (fun v G' => iv_Md [31] G G' ∧ iv_R 0 1 v ∧ (v = 0 → iv_R 0 9 x_0))) 0 0 (iv_A base) := c_X4_seatFrom_rec l D tys base 11 G x_0 i_x_0 x_1 i_x_1 x_2 i_x_2 h4 g_h4 r_h4 a_h4 h5 g_h5 r_h5 a_h5 (by have := i_x_0.1; omega)
theorem dX4_seatAll_0 : decode cX4_seatAll 0 = .ok (.iconst 0, 1) := by decide +kernel
theorem dX4_seatAll_1 : decode cX4_seatAll 1 = .ok (.istore_n 1, 1) := by decide +kernel
theorem dX4_seatAll_2 : decode cX4_seatAll 2 = .ok (.iconst 0, 1) := by decide +kernel
theorem dX4_seatAll_3 : decode cX4_seatAll 3 = .ok (.iconst 0, 1) := by decide +kernel
theorem dX4_seatAll_4 : decode cX4_seatAll 4 = .ok (.iload_n 1, 1) := by decide +kernel
theorem dX4_seatAll_5 : decode cX4_seatAll 5 = .ok (.aload_n 0, 1) := by decide +kernel
theorem dX4_seatAll_6 : decode cX4_seatAll 6 = .ok (.getfield 21, 3) := by decide +kernel
theorem dX4_seatAll_9 : decode cX4_seatAll 9 = .ok (.aload_n 0, 1) := by decide +kernel
theorem dX4_seatAll_10 : decode cX4_seatAll 10 = .ok (.getfield 9, 3) := by decide +kernel
theorem dX4_seatAll_13 : decode cX4_seatAll 13 = .ok (.invokestatic 25, 3) := by decide +kernel
theorem dX4_seatAll_16 : decode cX4_seatAll 16 = .ok (.ifCond .ne 15, 3) := by decide +kernel
theorem dX4_seatAll_19 : decode cX4_seatAll 19 = .ok (.iload_n 1, 1) := by decide +kernel
theorem dX4_seatAll_20 : decode cX4_seatAll 20 = .ok (.bipush 10, 2) := by decide +kernel
theorem dX4_seatAll_22 : decode cX4_seatAll 22 = .ok (.if_icmp .ge 9, 3) := by decide +kernel
theorem dX4_seatAll_25 : decode cX4_seatAll 25 = .ok (.iinc 1 1, 3) := by decide +kernel
theorem dX4_seatAll_28 : decode cX4_seatAll 28 = .ok (.goto (-26), 3) := by decide +kernel
theorem dX4_seatAll_31 : decode cX4_seatAll 31 = .ok (.iload_n 1, 1) := by decide +kernel
theorem dX4_seatAll_32 : decode cX4_seatAll 32 = .ok (.ireturn, 1) := by decide +kernel
set_option maxHeartbeats 4000000 in
set_option maxRecDepth 100000 in
theorem c_X4_seatAll (l : Launch) (D : va_G) (tys : List (ClassId × FieldType)) (base : Nat) (G : iv_G) (h0 : Nat) (g_h0 : Nat → Int32) (r_h0 : Nat → Nat) (a_h0 : G h0 = some (4, g_h0, r_h0)) : Met l yX4_seatAll (Cond.code yX4_seatAll cX4_seatAll 2 (some .int) :: iv_W0) ({ frames := 15, cells := 0, slots := 0, locals := 359 }) (iv_Pc iv_sh D classes tys base G [.ref h0]) (iv_Qi iv_sh D classes tys base (fun v G' => iv_Md [31] G G' ∧ iv_R 0 10 v)) 0 0 (iv_A base) := by
  refine iv_head (by decide) (Nat.le_of_ble_eq_true rfl) ?_
  intro p e s m args below meth c ls X hr hlocks hname hB hl
  have X := X
  have hx := X.1.1
  have hb := X.1.2.1
  have hM : iv_Md [31] G G := iv_Md.rf
  have hl : lv_has ls 2 [(0, .ref h0)] := hl
  refine lv_iconst (v := 0) hx hb dX4_seatAll_0 (by decide) ?_
  refine lv_istore_n (lv' := [(1, .int 0), (0, .ref h0)]) hx hb dX4_seatAll_1 rfl hl (by decide) rfl (fun ls hl => ?_)
  have L_2 : ∀ (n_2 : Nat) (G2 : iv_G) (hM : iv_Md [31] G G2) (H : Heap) (locs : List Loc) (hB : iv_B iv_sh D classes tys base G2 s.heap H locs) (a_h0 : G2 h0 = some (4, g_h0, r_h0)) (x1 : Int32) (i_x1 : iv_R 0 10 x1) (hn_2 : (11 - x1.toInt).toNat < n_2) (ls : Array Slot) (hl : lv_has ls 2 [(1, .int x1), (0, .ref h0)]), W p l e ({ frames := 15, cells := 0, slots := 0, locals := 359 } : Room) s m args below meth c H locs 0 0 (MQ below (iv_Qi iv_sh D classes tys base (fun v G' => iv_Md [31] G G' ∧ iv_R 0 10 v)) args s 0 0 (iv_A base)) (F0 m 2 ls []) := by
    intro n_2
    induction n_2 with
    | zero => intro G2 hM H locs hB a_h0 x1 i_x1 hn_2 ls hl; exact absurd hn_2 (Nat.not_lt_zero _)
    | succ n_2 ih_2 =>
      intro G2 hM H locs hB a_h0 x1 i_x1 hn_2 ls hl
      refine lv_iconst (v := 0) hx hb dX4_seatAll_2 (by decide) ?_
      refine lv_iconst (v := 0) hx hb dX4_seatAll_3 (by decide) ?_
      refine lv_iload_n hx hb dX4_seatAll_4 rfl (lv_at hl 0 rfl) ?_
      refine lv_aload_n hx hb dX4_seatAll_5 rfl (lv_at hl 1 rfl) ?_
      refine iv_getr X ft_X4 hB a_h0 sh_4 0 (by decide) rfl k_fl_X4_21 dX4_seatAll_6 (fun b3 g_b3 r_b3 e_b3 a_b3 => ?_)
      refine lv_aload_n hx hb dX4_seatAll_9 rfl (lv_at hl 1 rfl) ?_
      refine iv_getr X ft_X4 hB a_h0 sh_4 1 (by decide) rfl k_fl_X4_9 dX4_seatAll_10 (fun b4 g_b4 r_b4 e_b4 a_b4 => ?_)
      refine iv_cSi X k_good k_mf_X4_seatFrom k_st_X4_seatFrom k_ml_X4_25 hB (As := [.int 0, .int 0, .int x1, .ref b3, .ref b4]) (c_X4_seatFrom l D tys base G2 0 (q_0.wk (by decide)) 0 (q_0.wk (by decide)) x1 i_x1 b3 g_b3 r_b3 a_b3 b4 g_b4 r_b4 a_b4) ⟨rfl, rfl⟩ ⟨Nat.le_of_ble_eq_true rfl, Nat.le_of_ble_eq_true rfl⟩ ⟨Nat.le_of_ble_eq_true rfl, Nat.le_of_ble_eq_true rfl⟩ rfl rfl hl.1 (Nat.le_of_ble_eq_true rfl) dX4_seatAll_13 (fun x5 G9 H locs hq hB => ?_)
      obtain ⟨hm, i_x5, hp6⟩ := hq
      obtain ⟨G7, hG9⟩ : ∃ g, g = G9 := ⟨_, rfl⟩
      rw [← hG9] at hm hB
      have hM := hM.stp hm (by decide)
      have a_h0 := hm.at a_h0 (by decide)
      refine lv_if_ne (tgt := 31) hx hb dX4_seatAll_16 (by decide) (fun c8 => ?_) (fun c8 => ?_)
      · skip
        have i8_x5 : iv_R 1 1 x5 := iv_ne_lo c8 i_x5 q_0 (by decide)
        refine lv_iload_n hx hb dX4_seatAll_31 rfl (lv_at hl 0 rfl) ?_
        exact iv_iret X hr hlocks hB ⟨hM, i_x1⟩ dX4_seatAll_32
      · skip
        have i9_x5 : iv_R 0 0 x5 := (i_x5.cutHi (n := 0) (iv_eq_r c8 q_0).2)
        refine lv_iload_n hx hb dX4_seatAll_19 rfl (lv_at hl 0 rfl) ?_
        refine lv_bipush (v := 10) hx hb dX4_seatAll_20 (by decide) ?_
        refine lv_icmp_ge (tgt := 31) hx hb dX4_seatAll_22 (by decide) (fun c11 => ?_) (fun c11 => ?_)
        · skip
          have i11_x1 : iv_R 10 10 x1 := (i_x1.cutLo (n := 10) (iv_le_l c11 q_10))
          refine lv_iload_n hx hb dX4_seatAll_31 rfl (lv_at hl 0 rfl) ?_
          exact iv_iret X hr hlocks hB ⟨hM, (i11_x1.wk (by decide))⟩ dX4_seatAll_32
        · skip
          have i12_x1 : iv_R 0 9 x1 := (i_x1.cutHi (n := 9) (iv_lt_r (iv_nle c11) q_10 (by decide)))
          refine iv_iinc hx hb i12_x1 (lo := 1) (hi := 10) (by decide) dX4_seatAll_25 hl (k := 0) rfl (by decide) (fun x14 ls e_x14 i_x14 hl => ?_)
          have hl : lv_has ls 2 [(1, .int x14), (0, .ref h0)] := hl
          refine lv_goto (tgt := 2) hx hb dX4_seatAll_28 (by decide) ?_
          exact ih_2 G7 hM _ _ hB a_h0 x14 (i_x14.wk (by decide)) (iv_mup (c := 1) i_x1 (by decide) (by decide) (by omega) hn_2) _ (lv_sub hl [0, 1] rfl)
  exact L_2 _ G hM _ _ hB a_h0 0 (q_0.wk (by decide)) (Nat.lt_succ_self _) _ (lv_sub hl [0, 1] rfl)
theorem dX11_rows_0 : decode cX11_rows 0 = .ok (.iload_n 1, 1) := by decide +kernel
theorem dX11_rows_1 : decode cX11_rows 1 = .ok (.iconst 1, 1) := by decide +kernel
theorem dX11_rows_2 : decode cX11_rows 2 = .ok (.bipush 10, 2) := by decide +kernel
theorem dX11_rows_4 : decode cX11_rows 4 = .ok (.invokestatic 83, 3) := by decide +kernel
theorem dX11_rows_7 : decode cX11_rows 7 = .ok (.ifCond .eq 21, 3) := by decide +kernel
theorem dX11_rows_10 : decode cX11_rows 10 = .ok (.iload_n 2, 1) := by decide +kernel
theorem dX11_rows_11 : decode cX11_rows 11 = .ok (.ifCond .eq 19, 3) := by decide +kernel
theorem dX11_rows_14 : decode cX11_rows 14 = .ok (.aload_n 0, 1) := by decide +kernel
theorem dX11_rows_15 : decode cX11_rows 15 = .ok (.getfield 12, 3) := by decide +kernel
theorem dX11_rows_18 : decode cX11_rows 18 = .ok (.iload_n 2, 1) := by decide +kernel
theorem dX11_rows_19 : decode cX11_rows 19 = .ok (.bipush 10, 2) := by decide +kernel
theorem dX11_rows_21 : decode cX11_rows 21 = .ok (.isub, 1) := by decide +kernel
theorem dX11_rows_22 : decode cX11_rows 22 = .ok (.invokevirtual 119, 3) := by decide +kernel
theorem dX11_rows_25 : decode cX11_rows 25 = .ok (.ifCond .ne 5, 3) := by decide +kernel
theorem dX11_rows_28 : decode cX11_rows 28 = .ok (.iconst (-1), 1) := by decide +kernel
theorem dX11_rows_29 : decode cX11_rows 29 = .ok (.ireturn, 1) := by decide +kernel
theorem dX11_rows_30 : decode cX11_rows 30 = .ok (.aload_n 0, 1) := by decide +kernel
theorem dX11_rows_31 : decode cX11_rows 31 = .ok (.getfield 65, 3) := by decide +kernel
theorem dX11_rows_34 : decode cX11_rows 34 = .ok (.invokevirtual 306, 3) := by decide +kernel
theorem dX11_rows_37 : decode cX11_rows 37 = .ok (.istore_n 3, 1) := by decide +kernel
theorem dX11_rows_38 : decode cX11_rows 38 = .ok (.iload_n 3, 1) := by decide +kernel
theorem dX11_rows_39 : decode cX11_rows 39 = .ok (.iload_n 1, 1) := by decide +kernel
theorem dX11_rows_40 : decode cX11_rows 40 = .ok (.if_icmp .le 5, 3) := by decide +kernel
theorem dX11_rows_43 : decode cX11_rows 43 = .ok (.iconst (-1), 1) := by decide +kernel
theorem dX11_rows_44 : decode cX11_rows 44 = .ok (.ireturn, 1) := by decide +kernel
theorem dX11_rows_45 : decode cX11_rows 45 = .ok (.iload_n 2, 1) := by decide +kernel
theorem dX11_rows_46 : decode cX11_rows 46 = .ok (.ifCond .ne 7, 3) := by decide +kernel
theorem dX11_rows_49 : decode cX11_rows 49 = .ok (.iload_n 3, 1) := by decide +kernel
theorem dX11_rows_50 : decode cX11_rows 50 = .ok (.goto 14, 3) := by decide +kernel
theorem dX11_rows_53 : decode cX11_rows 53 = .ok (.aload_n 0, 1) := by decide +kernel
theorem dX11_rows_54 : decode cX11_rows 54 = .ok (.getfield 65, 3) := by decide +kernel
theorem dX11_rows_57 : decode cX11_rows 57 = .ok (.iload_n 2, 1) := by decide +kernel
theorem dX11_rows_58 : decode cX11_rows 58 = .ok (.bipush 10, 2) := by decide +kernel
theorem dX11_rows_60 : decode cX11_rows 60 = .ok (.isub, 1) := by decide +kernel
theorem dX11_rows_61 : decode cX11_rows 61 = .ok (.invokevirtual 310, 3) := by decide +kernel
theorem dX11_rows_64 : decode cX11_rows 64 = .ok (.ireturn, 1) := by decide +kernel
set_option maxHeartbeats 4000000 in
set_option maxRecDepth 100000 in
theorem c_X11_rows (l : Launch) (D : va_G) (tys : List (ClassId × FieldType)) (base : Nat) (G : iv_G) (h0 : Nat) (g_h0 : Nat → Int32) (r_h0 : Nat → Nat) (a_h0 : G h0 = some (11, g_h0, r_h0)) (x_0 : Int32) (i_x_0 : iv_R (-2147483648) 2147483647 x_0) (x_1 : Int32) (i_x_1 : iv_R (-2147483648) 2147483647 x_1) : Met l yX11_rows (Cond.code yX11_rows cX11_rows 4 (some .int) :: iv_W0) ({ frames := 16, cells := 0, slots := 0, locals := 380 }) (iv_Pc iv_sh D classes tys base G [.ref h0, .int x_0, .int x_1]) (iv_Qi iv_sh D classes tys base (fun v G' => iv_Md [31] G G' ∧ iv_R (-2147483648) 2147483647 v)) 0 0 (iv_A base) := by
  refine iv_head (by decide) (Nat.le_of_ble_eq_true rfl) ?_
  intro p e s m args below meth c ls X hr hlocks hname hB hl
  have X := X
  have hx := X.1.1
  have hb := X.1.2.1
  have hM : iv_Md [31] G G := iv_Md.rf
  have hl : lv_has ls 4 [(0, .ref h0), (1, .int x_0), (2, .int x_1)] := hl
  refine lv_iload_n hx hb dX11_rows_0 rfl (lv_at hl 1 rfl) ?_
  refine lv_iconst (v := 1) hx hb dX11_rows_1 (by decide) ?_
  refine lv_bipush (v := 10) hx hb dX11_rows_2 (by decide) ?_
  refine iv_cSi X k_good k_mf_X11_isWithin k_st_X11_isWithin k_ml_X11_83 hB (As := [.int x_0, .int 1, .int 10]) (c_X11_isWithin l D tys base G x_0 i_x_0 1 (q_1.wk (by decide)) 10 (q_10.wk (by decide))) ⟨rfl, rfl⟩ ⟨Nat.le_of_ble_eq_true rfl, Nat.le_of_ble_eq_true rfl⟩ ⟨Nat.le_of_ble_eq_true rfl, Nat.le_of_ble_eq_true rfl⟩ rfl rfl hl.1 (Nat.le_of_ble_eq_true rfl) dX11_rows_4 (fun x1 G9 H locs hq hB => ?_)
  obtain ⟨rfl, i_x1, hp2⟩ := hq
  have k3 : ¬ x1 = 0 → iv_R 1 10 x_0 := fun h => ⟨iv_max i_x_0.1 (Int.le_trans q_1.1 (hp2.1 h).1) (by decide), iv_min i_x_0.2 (Int.le_trans (hp2.1 h).2 q_10.2) (by decide)⟩
  refine lv_if_eq (tgt := 28) hx hb dX11_rows_7 (by decide) (fun c4 => ?_) (fun c4 => ?_)
  · skip
    have i4_x1 : iv_R 0 0 x1 := (i_x1.cutHi (n := 0) (iv_eq_r c4 q_0).2)
    refine lv_iconst (v := (-1)) hx hb dX11_rows_28 (by decide) ?_
    exact iv_iret X hr hlocks hB ⟨hM, (q_n1.wk (by decide))⟩ dX11_rows_29
  · skip
    have i5_x1 : iv_R 1 1 x1 := iv_ne_lo c4 i_x1 q_0 (by decide)
    have i6_x_0 : iv_R 1 10 x_0 := ((i_x_0.cutLo (n := 1) (k3 c4).1).cutHi (n := 10) (k3 c4).2)
    refine lv_iload_n hx hb dX11_rows_10 rfl (lv_at hl 2 rfl) ?_
    refine lv_if_eq (tgt := 30) hx hb dX11_rows_11 (by decide) (fun c8 => ?_) (fun c8 => ?_)
    · skip
      have i8_x_1 : iv_R 0 0 x_1 := ((i_x_1.cutLo (n := 0) (iv_eq_r c8 q_0).1).cutHi (n := 0) (iv_eq_r c8 q_0).2)
      refine lv_aload_n hx hb dX11_rows_30 rfl (lv_at hl 0 rfl) ?_
      refine iv_getr X ft_X11 hB a_h0 sh_11 10 (by decide) rfl k_fl_X11_65 dX11_rows_31 (fun b10 g_b10 r_b10 e_b10 a_b10 => ?_)
      refine iv_cVi X k_good k_mf_X4_seatAll k_im_X4_seatAll k_sel_X4_seatAll k_ml_X11_306 ft_X4 hB a_b10 sh_4 (As := []) (c_X4_seatAll l D tys base G b10 g_b10 r_b10 a_b10) ⟨rfl, rfl⟩ ⟨Nat.le_of_ble_eq_true rfl, Nat.le_of_ble_eq_true rfl⟩ ⟨Nat.le_of_ble_eq_true rfl, Nat.le_of_ble_eq_true rfl⟩ rfl rfl hl.1 (Nat.le_of_ble_eq_true rfl) dX11_rows_34 (fun x11 G9 H locs hq hB => ?_)
      obtain ⟨hm, i_x11⟩ := hq
      obtain ⟨G12, hG9⟩ : ∃ g, g = G9 := ⟨_, rfl⟩
      rw [← hG9] at hm hB
      have hM := hM.stp hm (by decide)
      have a_h0 := hm.at a_h0 (by decide)
      refine lv_istore_n (lv' := [(3, .int x11), (0, .ref h0), (1, .int x_0), (2, .int x_1)]) hx hb dX11_rows_37 rfl hl (by decide) rfl (fun ls hl => ?_)
      refine lv_iload_n hx hb dX11_rows_38 rfl (lv_at hl 0 rfl) ?_
      refine lv_iload_n hx hb dX11_rows_39 rfl (lv_at hl 2 rfl) ?_
      refine lv_icmp_le (tgt := 45) hx hb dX11_rows_40 (by decide) (fun c13 => ?_) (fun c13 => ?_)
      · skip
        refine lv_iload_n hx hb dX11_rows_45 rfl (lv_at hl 3 rfl) ?_
        refine lv_if_ne (tgt := 53) hx hb dX11_rows_46 (by decide) (fun c14 => ?_) (fun c14 => ?_)
        · skip
          exact (iv_ne_lo c14 i8_x_1 q_0 (a' := 1) (by decide)).no (by decide)
        · skip
          refine lv_iload_n hx hb dX11_rows_49 rfl (lv_at hl 0 rfl) ?_
          refine lv_goto (tgt := 64) hx hb dX11_rows_50 (by decide) ?_
          exact iv_iret X hr hlocks hB ⟨hM, (i_x11.wk (by decide))⟩ dX11_rows_64
      · skip
        have i14_x_0 : iv_R 1 9 x_0 := (i6_x_0.cutHi (n := 9) (iv_lt_r (iv_nle c13) i_x11 (by decide)))
        have i15_x11 : iv_R 2 10 x11 := (i_x11.cutLo (n := 2) (iv_lt_l (iv_nle c13) i6_x_0 (by decide)))
        refine lv_iconst (v := (-1)) hx hb dX11_rows_43 (by decide) ?_
        exact iv_iret X hr hlocks hB ⟨hM, (q_n1.wk (by decide))⟩ dX11_rows_44
    · skip
      refine lv_aload_n hx hb dX11_rows_14 rfl (lv_at hl 0 rfl) ?_
      refine iv_getr X ft_X11 hB a_h0 sh_11 0 (by decide) rfl k_fl_X11_12 dX11_rows_15 (fun b17 g_b17 r_b17 e_b17 a_b17 => ?_)
      refine lv_iload_n hx hb dX11_rows_18 rfl (lv_at hl 2 rfl) ?_
      refine lv_bipush (v := 10) hx hb dX11_rows_19 (by decide) ?_
      refine lv_isub hx hb dX11_rows_21 ?_
      refine lv_topi (fun x18 e_x18 => ?_)
      have i_x18 := iv_R.all x18
      refine iv_cVi X k_good k_mf_X5_hasBell k_im_X5_hasBell k_sel_X5_hasBell k_ml_X11_119 ft_X5 hB a_b17 sh_5 (As := [.int x18]) (c_X5_hasBell l D tys base G b17 g_b17 r_b17 a_b17 x18 i_x18) ⟨rfl, rfl⟩ ⟨Nat.le_of_ble_eq_true rfl, Nat.le_of_ble_eq_true rfl⟩ ⟨Nat.le_of_ble_eq_true rfl, Nat.le_of_ble_eq_true rfl⟩ rfl rfl hl.1 (Nat.le_of_ble_eq_true rfl) dX11_rows_22 (fun x19 G9 H locs hq hB => ?_)
      obtain ⟨rfl, i_x19, hp20⟩ := hq
      refine lv_if_ne (tgt := 30) hx hb dX11_rows_25 (by decide) (fun c21 => ?_) (fun c21 => ?_)
      · skip
        have i21_x19 : iv_R 1 1 x19 := iv_ne_lo c21 i_x19 q_0 (by decide)
        have i22_x18 : iv_R 0 9 x18 := ((i_x18.cutLo (n := 0) (hp20 c21).1).cutHi (n := 9) (hp20 c21).2)
        refine lv_aload_n hx hb dX11_rows_30 rfl (lv_at hl 0 rfl) ?_
        refine iv_getr X ft_X11 hB a_h0 sh_11 10 (by decide) rfl k_fl_X11_65 dX11_rows_31 (fun b24 g_b24 r_b24 e_b24 a_b24 => ?_)
        refine iv_cVi X k_good k_mf_X4_seatAll k_im_X4_seatAll k_sel_X4_seatAll k_ml_X11_306 ft_X4 hB a_b24 sh_4 (As := []) (c_X4_seatAll l D tys base G b24 g_b24 r_b24 a_b24) ⟨rfl, rfl⟩ ⟨Nat.le_of_ble_eq_true rfl, Nat.le_of_ble_eq_true rfl⟩ ⟨Nat.le_of_ble_eq_true rfl, Nat.le_of_ble_eq_true rfl⟩ rfl rfl hl.1 (Nat.le_of_ble_eq_true rfl) dX11_rows_34 (fun x25 G9 H locs hq hB => ?_)
        obtain ⟨hm, i_x25⟩ := hq
        obtain ⟨G26, hG9⟩ : ∃ g, g = G9 := ⟨_, rfl⟩
        rw [← hG9] at hm hB
        have hM := hM.stp hm (by decide)
        have a_h0 := hm.at a_h0 (by decide)
        refine lv_istore_n (lv' := [(3, .int x25), (0, .ref h0), (1, .int x_0), (2, .int x_1)]) hx hb dX11_rows_37 rfl hl (by decide) rfl (fun ls hl => ?_)
        refine lv_iload_n hx hb dX11_rows_38 rfl (lv_at hl 0 rfl) ?_
        refine lv_iload_n hx hb dX11_rows_39 rfl (lv_at hl 2 rfl) ?_
        refine lv_icmp_le (tgt := 45) hx hb dX11_rows_40 (by decide) (fun c27 => ?_) (fun c27 => ?_)
        · skip
          refine lv_iload_n hx hb dX11_rows_45 rfl (lv_at hl 3 rfl) ?_
          refine lv_if_ne (tgt := 53) hx hb dX11_rows_46 (by decide) (fun c28 => ?_) (fun c28 => ?_)
          · skip
            refine lv_aload_n hx hb dX11_rows_53 rfl (lv_at hl 1 rfl) ?_
            refine iv_getr X ft_X11 hB a_h0 sh_11 10 (by decide) rfl k_fl_X11_65 dX11_rows_54 (fun b29 g_b29 r_b29 e_b29 a_b29 => ?_)
            refine lv_iload_n hx hb dX11_rows_57 rfl (lv_at hl 3 rfl) ?_
            refine lv_bipush (v := 10) hx hb dX11_rows_58 (by decide) ?_
            refine lv_isub hx hb dX11_rows_60 ?_
            refine lv_topi (fun x30 e_x30 => ?_)
            have i_x30 := iv_R.all x30
            refine iv_cVi X k_good k_mf_X4_hourOf k_im_X4_hourOf k_sel_X4_hourOf k_ml_X11_310 ft_X4 hB a_b29 sh_4 (As := [.int x30]) (c_X4_hourOf l D tys base G26 b29 g_b29 r_b29 a_b29 x30 i_x30) ⟨rfl, rfl⟩ ⟨Nat.le_of_ble_eq_true rfl, Nat.le_of_ble_eq_true rfl⟩ ⟨Nat.le_of_ble_eq_true rfl, Nat.le_of_ble_eq_true rfl⟩ rfl rfl hl.1 (Nat.le_of_ble_eq_true rfl) dX11_rows_61 (fun x31 G9 H locs hq hB => ?_)
            obtain ⟨rfl, i_x31⟩ := hq
            exact iv_iret X hr hlocks hB ⟨hM, i_x31⟩ dX11_rows_64
          · skip
            exact absurd c28 c8
        · skip
          have i31_x_0 : iv_R 1 9 x_0 := (i6_x_0.cutHi (n := 9) (iv_lt_r (iv_nle c27) i_x25 (by decide)))
          have i32_x25 : iv_R 2 10 x25 := (i_x25.cutLo (n := 2) (iv_lt_l (iv_nle c27) i6_x_0 (by decide)))
          refine lv_iconst (v := (-1)) hx hb dX11_rows_43 (by decide) ?_
          exact iv_iret X hr hlocks hB ⟨hM, (q_n1.wk (by decide))⟩ dX11_rows_44
      · skip
        have i33_x19 : iv_R 0 0 x19 := (i_x19.cutHi (n := 0) (iv_eq_r c21 q_0).2)
        refine lv_iconst (v := (-1)) hx hb dX11_rows_28 (by decide) ?_
        exact iv_iret X hr hlocks hB ⟨hM, (q_n1.wk (by decide))⟩ dX11_rows_29
theorem dX11_set_0 : decode cX11_set 0 = .ok (.iload_n 1, 1) := by decide +kernel
theorem dX11_set_1 : decode cX11_set 1 = .ok (.iconst 3, 1) := by decide +kernel
theorem dX11_set_2 : decode cX11_set 2 = .ok (.if_icmp .lt 13, 3) := by decide +kernel
theorem dX11_set_5 : decode cX11_set 5 = .ok (.aload_n 0, 1) := by decide +kernel
theorem dX11_set_6 : decode cX11_set 6 = .ok (.iload_n 1, 1) := by decide +kernel
theorem dX11_set_7 : decode cX11_set 7 = .ok (.iload_n 2, 1) := by decide +kernel
theorem dX11_set_8 : decode cX11_set 8 = .ok (.iload_n 3, 1) := by decide +kernel
theorem dX11_set_9 : decode cX11_set 9 = .ok (.invokevirtual 103, 3) := by decide +kernel
theorem dX11_set_12 : decode cX11_set 12 = .ok (.goto 9, 3) := by decide +kernel
theorem dX11_set_15 : decode cX11_set 15 = .ok (.aload_n 0, 1) := by decide +kernel
theorem dX11_set_16 : decode cX11_set 16 = .ok (.iload_n 1, 1) := by decide +kernel
theorem dX11_set_17 : decode cX11_set 17 = .ok (.iload_n 3, 1) := by decide +kernel
theorem dX11_set_18 : decode cX11_set 18 = .ok (.invokevirtual 106, 3) := by decide +kernel
theorem dX11_set_21 : decode cX11_set 21 = .ok (.istore 4, 2) := by decide +kernel
theorem dX11_set_23 : decode cX11_set 23 = .ok (.iload 4, 2) := by decide +kernel
theorem dX11_set_25 : decode cX11_set 25 = .ok (.ifCond .eq 10, 3) := by decide +kernel
theorem dX11_set_28 : decode cX11_set 28 = .ok (.aload_n 0, 1) := by decide +kernel
theorem dX11_set_29 : decode cX11_set 29 = .ok (.getfield 22, 3) := by decide +kernel
theorem dX11_set_32 : decode cX11_set 32 = .ok (.invokevirtual 76, 3) := by decide +kernel
theorem dX11_set_35 : decode cX11_set 35 = .ok (.iload 4, 2) := by decide +kernel
theorem dX11_set_37 : decode cX11_set 37 = .ok (.ireturn, 1) := by decide +kernel
set_option maxHeartbeats 4000000 in
set_option maxRecDepth 100000 in
theorem c_X11_set (l : Launch) (D : va_G) (tys : List (ClassId × FieldType)) (base : Nat) (G : iv_G) (h0 : Nat) (g_h0 : Nat → Int32) (r_h0 : Nat → Nat) (a_h0 : G h0 = some (11, g_h0, r_h0)) (x_0 : Int32) (i_x_0 : iv_R (-2147483648) 2147483647 x_0) (x_1 : Int32) (i_x_1 : iv_R (-2147483648) 2147483647 x_1) (x_2 : Int32) (i_x_2 : iv_R (-2147483648) 2147483647 x_2) : Met l yX11_set (Cond.code yX11_set cX11_set 5 (some .boolean) :: iv_W0) ({ frames := 2, cells := 0, slots := 0, locals := 46 }) (iv_Pc iv_sh D classes tys base G [.ref h0, .int x_0, .int x_1, .int x_2]) (iv_Qi iv_sh D classes tys base (fun v G' => iv_Md [1, 5, 6] G G' ∧ iv_R 0 1 v ∧ ((¬ v = 0 → iv_R 0 5 x_0) ∧ (¬ v = 0 → iv_R 0 1000 x_2)))) 0 0 (iv_A base) := by
  refine iv_head (by decide) (Nat.le_of_ble_eq_true rfl) ?_
  intro p e s m args below meth c ls X hr hlocks hname hB hl
  have X := X
  have hx := X.1.1
  have hb := X.1.2.1
  have hM : iv_Md [1, 5, 6] G G := iv_Md.rf
  have hl : lv_has ls 5 [(0, .ref h0), (1, .int x_0), (2, .int x_1), (3, .int x_2)] := hl
  refine lv_iload_n hx hb dX11_set_0 rfl (lv_at hl 1 rfl) ?_
  refine lv_iconst (v := 3) hx hb dX11_set_1 (by decide) ?_
  refine lv_icmp_lt (tgt := 15) hx hb dX11_set_2 (by decide) (fun c1 => ?_) (fun c1 => ?_)
  · skip
    have i1_x_0 : iv_R (-2147483648) 2 x_0 := (i_x_0.cutHi (n := 2) (iv_lt_r c1 q_3 (by decide)))
    refine lv_aload_n hx hb dX11_set_15 rfl (lv_at hl 0 rfl) ?_
    refine lv_iload_n hx hb dX11_set_16 rfl (lv_at hl 1 rfl) ?_
    refine lv_iload_n hx hb dX11_set_17 rfl (lv_at hl 3 rfl) ?_
    refine iv_cVi X k_good k_mf_X11_isSetForAll k_im_X11_isSetForAll k_sel_X11_isSetForAll k_ml_X11_106 ft_X11 hB a_h0 sh_11 (As := [.int x_0, .int x_2]) (c_X11_isSetForAll l D tys base G h0 g_h0 r_h0 a_h0 x_0 i1_x_0 x_2 i_x_2) ⟨rfl, rfl⟩ ⟨Nat.le_of_ble_eq_true rfl, Nat.le_of_ble_eq_true rfl⟩ ⟨Nat.le_of_ble_eq_true rfl, Nat.le_of_ble_eq_true rfl⟩ rfl rfl hl.1 (Nat.le_of_ble_eq_true rfl) dX11_set_18 (fun x3 G9 H locs hq hB => ?_)
    obtain ⟨hm, i_x3, hp4⟩ := hq
    obtain ⟨G5, hG9⟩ : ∃ g, g = G9 := ⟨_, rfl⟩
    rw [← hG9] at hm hB
    have hM := hM.stp hm (by decide)
    have a_h0 := hm.at a_h0 (by decide)
    refine lv_istore (lv' := [(4, .int x3), (0, .ref h0), (1, .int x_0), (2, .int x_1), (3, .int x_2)]) hx hb dX11_set_21 hl (by decide) rfl (fun ls hl => ?_)
    refine lv_iload hx hb dX11_set_23 (lv_at hl 0 rfl) ?_
    refine lv_if_eq (tgt := 35) hx hb dX11_set_25 (by decide) (fun c6 => ?_) (fun c6 => ?_)
    · skip
      have i6_x3 : iv_R 0 0 x3 := (i_x3.cutHi (n := 0) (iv_eq_r c6 q_0).2)
      refine lv_iload hx hb dX11_set_35 (lv_at hl 0 rfl) ?_
      exact iv_zret X hr hlocks hB (i6_x3.wk (by decide)) ⟨hM, (i6_x3.wk (by decide)), ⟨fun h => absurd (iv_z i6_x3) h, fun h => absurd (iv_z i6_x3) h⟩⟩ dX11_set_37
    · skip
      have i7_x3 : iv_R 1 1 x3 := iv_ne_lo c6 i_x3 q_0 (by decide)
      have i8_x_0 : iv_R 0 2 x_0 := (i1_x_0.cutLo (n := 0) (hp4.1 c6).1)
      have i9_x_2 : iv_R 0 1000 x_2 := ((i_x_2.cutLo (n := 0) (hp4.2 c6).1).cutHi (n := 1000) (hp4.2 c6).2)
      refine lv_aload_n hx hb dX11_set_28 rfl (lv_at hl 1 rfl) ?_
      refine iv_getr X ft_X11 hB a_h0 sh_11 3 (by decide) rfl k_fl_X11_22 dX11_set_29 (fun b11 g_b11 r_b11 e_b11 a_b11 => ?_)
      refine iv_cVv X k_good k_mf_X6_forget k_im_X6_forget k_sel_X6_forget k_ml_X11_76 ft_X6 hB a_b11 sh_6 (As := []) (c_X6_forget l D tys base G5 b11 g_b11 r_b11 a_b11) ⟨rfl, rfl⟩ ⟨Nat.le_of_ble_eq_true rfl, Nat.le_of_ble_eq_true rfl⟩ ⟨Nat.le_of_ble_eq_true rfl, Nat.le_of_ble_eq_true rfl⟩ rfl rfl hl.1 (Nat.le_of_ble_eq_true rfl) dX11_set_32 (fun G9 H locs hq hB => ?_)
      have hm := hq
      obtain ⟨G12, hG9⟩ : ∃ g, g = G9 := ⟨_, rfl⟩
      rw [← hG9] at hm hB
      have hM := hM.stp hm (by decide)
      have a_h0 := hm.at a_h0 (by decide)
      refine lv_iload hx hb dX11_set_35 (lv_at hl 0 rfl) ?_
      exact iv_zret X hr hlocks hB (i7_x3.wk (by decide)) ⟨hM, (i7_x3.wk (by decide)), ⟨fun _ => (i8_x_0.wk (by decide)), fun _ => i9_x_2⟩⟩ dX11_set_37
  · skip
    have i12_x_0 : iv_R 3 2147483647 x_0 := (i_x_0.cutLo (n := 3) (iv_le_l (iv_nlt c1) q_3))
    refine lv_aload_n hx hb dX11_set_5 rfl (lv_at hl 0 rfl) ?_
    refine lv_iload_n hx hb dX11_set_6 rfl (lv_at hl 1 rfl) ?_
    refine lv_iload_n hx hb dX11_set_7 rfl (lv_at hl 2 rfl) ?_
    refine lv_iload_n hx hb dX11_set_8 rfl (lv_at hl 3 rfl) ?_
    refine iv_cVi X k_good k_mf_X11_isSetForBell k_im_X11_isSetForBell k_sel_X11_isSetForBell k_ml_X11_103 ft_X11 hB a_h0 sh_11 (As := [.int x_0, .int x_1, .int x_2]) (c_X11_isSetForBell l D tys base G h0 g_h0 r_h0 a_h0 x_0 i12_x_0 x_1 i_x_1 x_2 i_x_2) ⟨rfl, rfl⟩ ⟨Nat.le_of_ble_eq_true rfl, Nat.le_of_ble_eq_true rfl⟩ ⟨Nat.le_of_ble_eq_true rfl, Nat.le_of_ble_eq_true rfl⟩ rfl rfl hl.1 (Nat.le_of_ble_eq_true rfl) dX11_set_9 (fun x14 G9 H locs hq hB => ?_)
    obtain ⟨hm, i_x14, hp15⟩ := hq
    obtain ⟨G16, hG9⟩ : ∃ g, g = G9 := ⟨_, rfl⟩
    rw [← hG9] at hm hB
    have hM := hM.stp hm (by decide)
    have a_h0 := hm.at a_h0 (by decide)
    refine lv_goto (tgt := 21) hx hb dX11_set_12 (by decide) ?_
    refine lv_istore (lv' := [(4, .int x14), (0, .ref h0), (1, .int x_0), (2, .int x_1), (3, .int x_2)]) hx hb dX11_set_21 hl (by decide) rfl (fun ls hl => ?_)
    refine lv_iload hx hb dX11_set_23 (lv_at hl 0 rfl) ?_
    refine lv_if_eq (tgt := 35) hx hb dX11_set_25 (by decide) (fun c17 => ?_) (fun c17 => ?_)
    · skip
      have i17_x14 : iv_R 0 0 x14 := (i_x14.cutHi (n := 0) (iv_eq_r c17 q_0).2)
      refine lv_iload hx hb dX11_set_35 (lv_at hl 0 rfl) ?_
      exact iv_zret X hr hlocks hB (i17_x14.wk (by decide)) ⟨hM, (i17_x14.wk (by decide)), ⟨fun h => absurd (iv_z i17_x14) h, fun h => absurd (iv_z i17_x14) h⟩⟩ dX11_set_37
    · skip
      have i18_x14 : iv_R 1 1 x14 := iv_ne_lo c17 i_x14 q_0 (by decide)
      have i19_x_0 : iv_R 3 5 x_0 := (i12_x_0.cutHi (n := 5) (hp15.1 c17).2)
      have i20_x_1 : iv_R 0 9 x_1 := ((i_x_1.cutLo (n := 0) (hp15.2.1 c17).1).cutHi (n := 9) (hp15.2.1 c17).2)
      have i21_x_2 : iv_R 0 99 x_2 := ((i_x_2.cutLo (n := 0) (hp15.2.2 c17).1).cutHi (n := 99) (hp15.2.2 c17).2)
      refine lv_aload_n hx hb dX11_set_28 rfl (lv_at hl 1 rfl) ?_
      refine iv_getr X ft_X11 hB a_h0 sh_11 3 (by decide) rfl k_fl_X11_22 dX11_set_29 (fun b23 g_b23 r_b23 e_b23 a_b23 => ?_)
      refine iv_cVv X k_good k_mf_X6_forget k_im_X6_forget k_sel_X6_forget k_ml_X11_76 ft_X6 hB a_b23 sh_6 (As := []) (c_X6_forget l D tys base G16 b23 g_b23 r_b23 a_b23) ⟨rfl, rfl⟩ ⟨Nat.le_of_ble_eq_true rfl, Nat.le_of_ble_eq_true rfl⟩ ⟨Nat.le_of_ble_eq_true rfl, Nat.le_of_ble_eq_true rfl⟩ rfl rfl hl.1 (Nat.le_of_ble_eq_true rfl) dX11_set_32 (fun G9 H locs hq hB => ?_)
      have hm := hq
      obtain ⟨G24, hG9⟩ : ∃ g, g = G9 := ⟨_, rfl⟩
      rw [← hG9] at hm hB
      have hM := hM.stp hm (by decide)
      have a_h0 := hm.at a_h0 (by decide)
      refine lv_iload hx hb dX11_set_35 (lv_at hl 0 rfl) ?_
      exact iv_zret X hr hlocks hB (i18_x14.wk (by decide)) ⟨hM, (i18_x14.wk (by decide)), ⟨fun _ => (i19_x_0.wk (by decide)), fun _ => (i21_x_2.wk (by decide))⟩⟩ dX11_set_37
theorem dX9_isPitchThere_0 : decode cX9_isPitchThere 0 = .ok (.iconst 0, 1) := by decide +kernel
theorem dX9_isPitchThere_1 : decode cX9_isPitchThere 1 = .ok (.istore_n 2, 1) := by decide +kernel
theorem dX9_isPitchThere_2 : decode cX9_isPitchThere 2 = .ok (.iload_n 2, 1) := by decide +kernel
theorem dX9_isPitchThere_3 : decode cX9_isPitchThere 3 = .ok (.aload_n 0, 1) := by decide +kernel
theorem dX9_isPitchThere_4 : decode cX9_isPitchThere 4 = .ok (.getfield 15, 3) := by decide +kernel
theorem dX9_isPitchThere_7 : decode cX9_isPitchThere 7 = .ok (.getfield 19, 3) := by decide +kernel
theorem dX9_isPitchThere_10 : decode cX9_isPitchThere 10 = .ok (.if_icmp .ge 43, 3) := by decide +kernel
theorem dX9_isPitchThere_13 : decode cX9_isPitchThere 13 = .ok (.aload_n 0, 1) := by decide +kernel
theorem dX9_isPitchThere_14 : decode cX9_isPitchThere 14 = .ok (.getfield 15, 3) := by decide +kernel
theorem dX9_isPitchThere_17 : decode cX9_isPitchThere 17 = .ok (.getfield 45, 3) := by decide +kernel
theorem dX9_isPitchThere_20 : decode cX9_isPitchThere 20 = .ok (.iload_n 2, 1) := by decide +kernel
theorem dX9_isPitchThere_21 : decode cX9_isPitchThere 21 = .ok (.aaload, 1) := by decide +kernel
theorem dX9_isPitchThere_22 : decode cX9_isPitchThere 22 = .ok (.getfield 49, 3) := by decide +kernel
theorem dX9_isPitchThere_25 : decode cX9_isPitchThere 25 = .ok (.iconst 2, 1) := by decide +kernel
theorem dX9_isPitchThere_26 : decode cX9_isPitchThere 26 = .ok (.if_icmp .eq 21, 3) := by decide +kernel
theorem dX9_isPitchThere_29 : decode cX9_isPitchThere 29 = .ok (.aload_n 0, 1) := by decide +kernel
theorem dX9_isPitchThere_30 : decode cX9_isPitchThere 30 = .ok (.getfield 15, 3) := by decide +kernel
theorem dX9_isPitchThere_33 : decode cX9_isPitchThere 33 = .ok (.getfield 45, 3) := by decide +kernel
theorem dX9_isPitchThere_36 : decode cX9_isPitchThere 36 = .ok (.iload_n 2, 1) := by decide +kernel
theorem dX9_isPitchThere_37 : decode cX9_isPitchThere 37 = .ok (.aaload, 1) := by decide +kernel
theorem dX9_isPitchThere_38 : decode cX9_isPitchThere 38 = .ok (.getfield 63, 3) := by decide +kernel
theorem dX9_isPitchThere_41 : decode cX9_isPitchThere 41 = .ok (.iload_n 1, 1) := by decide +kernel
theorem dX9_isPitchThere_42 : decode cX9_isPitchThere 42 = .ok (.if_icmp .ne 5, 3) := by decide +kernel
theorem dX9_isPitchThere_45 : decode cX9_isPitchThere 45 = .ok (.iconst 1, 1) := by decide +kernel
theorem dX9_isPitchThere_46 : decode cX9_isPitchThere 46 = .ok (.ireturn, 1) := by decide +kernel
theorem dX9_isPitchThere_47 : decode cX9_isPitchThere 47 = .ok (.iinc 2 1, 3) := by decide +kernel
theorem dX9_isPitchThere_50 : decode cX9_isPitchThere 50 = .ok (.goto (-48), 3) := by decide +kernel
theorem dX9_isPitchThere_53 : decode cX9_isPitchThere 53 = .ok (.iconst 0, 1) := by decide +kernel
theorem dX9_isPitchThere_54 : decode cX9_isPitchThere 54 = .ok (.ireturn, 1) := by decide +kernel
set_option maxHeartbeats 4000000 in
set_option maxRecDepth 100000 in
theorem c_X9_isPitchThere (l : Launch) (D : va_G) (tys : List (ClassId × FieldType)) (base : Nat) (G : iv_G) (h0 : Nat) (g_h0 : Nat → Int32) (r_h0 : Nat → Nat) (a_h0 : G h0 = some (9, g_h0, r_h0)) (x_0 : Int32) (i_x_0 : iv_R 0 1175 x_0) : Met l yX9_isPitchThere (Cond.code yX9_isPitchThere cX9_isPitchThere 3 (some .boolean) :: iv_W0) ({ frames := 0, cells := 0, slots := 0, locals := 0 }) (iv_Pc iv_sh D classes tys base G [.ref h0, .int x_0]) (iv_Qi iv_sh D classes tys base (fun v G' => G = G' ∧ iv_R 0 1 v)) 0 0 (iv_A base) := by
  refine iv_head (by decide) (Nat.le_of_ble_eq_true rfl) ?_
  intro p e s m args below meth c ls X hr hlocks hname hB hl
  have X := X
  have hx := X.1.1
  have hb := X.1.2.1
  have hl : lv_has ls 3 [(0, .ref h0), (1, .int x_0)] := hl
  refine lv_iconst (v := 0) hx hb dX9_isPitchThere_0 (by decide) ?_
  refine lv_istore_n (lv' := [(2, .int 0), (0, .ref h0), (1, .int x_0)]) hx hb dX9_isPitchThere_1 rfl hl (by decide) rfl (fun ls hl => ?_)
  have L_2 : ∀ (n_2 : Nat) (H : Heap) (locs : List Loc) (hB : iv_B iv_sh D classes tys base G s.heap H locs) (x1 : Int32) (i_x1 : iv_R 0 10 x1) (hn_2 : (11 - x1.toInt).toNat < n_2) (ls : Array Slot) (hl : lv_has ls 3 [(2, .int x1), (0, .ref h0), (1, .int x_0)]), W p l e ({ frames := 0, cells := 0, slots := 0, locals := 0 } : Room) s m args below meth c H locs 0 0 (MQ below (iv_Qi iv_sh D classes tys base (fun v G' => G = G' ∧ iv_R 0 1 v)) args s 0 0 (iv_A base)) (F0 m 2 ls []) := by
    intro n_2
    induction n_2 with
    | zero => intro H locs hB x1 i_x1 hn_2 ls hl; exact absurd hn_2 (Nat.not_lt_zero _)
    | succ n_2 ih_2 =>
      intro H locs hB x1 i_x1 hn_2 ls hl
      refine lv_iload_n hx hb dX9_isPitchThere_2 rfl (lv_at hl 0 rfl) ?_
      refine lv_aload_n hx hb dX9_isPitchThere_3 rfl (lv_at hl 1 rfl) ?_
      refine iv_getr X ft_X9 hB a_h0 sh_9 0 (by decide) rfl k_fl_X9_15 dX9_isPitchThere_4 (fun b2 g_b2 r_b2 e_b2 a_b2 => ?_)
      refine iv_geti X ft_X5 hB a_b2 sh_5 1 (by decide) rfl k_fl_X9_19 dX9_isPitchThere_7 (fun x3 e_x3 i_x3 => ?_)
      refine lv_icmp_ge (tgt := 53) hx hb dX9_isPitchThere_10 (by decide) (fun c4 => ?_) (fun c4 => ?_)
      · skip
        refine lv_iconst (v := 0) hx hb dX9_isPitchThere_53 (by decide) ?_
        exact iv_zret X hr hlocks hB (q_0.wk (by decide)) ⟨rfl, (q_0.wk (by decide))⟩ dX9_isPitchThere_54
      · skip
        have i4_x1 : iv_R 0 9 x1 := (i_x1.cutHi (n := 9) (iv_lt_r (iv_nle c4) i_x3 (by decide)))
        have i5_x3 : iv_R 1 10 x3 := (i_x3.cutLo (n := 1) (iv_lt_l (iv_nle c4) i_x1 (by decide)))
        refine lv_aload_n hx hb dX9_isPitchThere_13 rfl (lv_at hl 1 rfl) ?_
        refine iv_getr0 X ft_X9 hB a_h0 sh_9 0 (by decide) rfl k_fl_X9_15 dX9_isPitchThere_14 e_b2 ?_
        refine iv_getr X ft_X5 hB a_b2 sh_5 0 (by decide) rfl k_fl_X9_45 dX9_isPitchThere_17 (fun b7 g_b7 r_b7 e_b7 a_b7 => ?_)
        refine lv_iload_n hx hb dX9_isPitchThere_20 rfl (lv_at hl 0 rfl) ?_
        refine iv_aald X hB a_b7 sh_40 (iv_in i4_x1 (by decide)) dX9_isPitchThere_21 (fun b8 g_b8 r_b8 e_b8 a_b8 => ?_)
        refine iv_geti X ft_X1 hB a_b8 sh_1 6 (by decide) rfl k_fl_X9_49 dX9_isPitchThere_22 (fun x9 e_x9 i_x9 => ?_)
        refine lv_iconst (v := 2) hx hb dX9_isPitchThere_25 (by decide) ?_
        refine lv_icmp_eq (tgt := 47) hx hb dX9_isPitchThere_26 (by decide) (fun c10 => ?_) (fun c10 => ?_)
        · skip
          have i10_x9 : iv_R 2 2 x9 := ((i_x9.cutLo (n := 2) (iv_eq_r c10 q_2).1).cutHi (n := 2) (iv_eq_r c10 q_2).2)
          refine iv_iinc hx hb i4_x1 (lo := 1) (hi := 10) (by decide) dX9_isPitchThere_47 hl (k := 0) rfl (by decide) (fun x12 ls e_x12 i_x12 hl => ?_)
          have hl : lv_has ls 3 [(2, .int x12), (0, .ref h0), (1, .int x_0)] := hl
          refine lv_goto (tgt := 2) hx hb dX9_isPitchThere_50 (by decide) ?_
          exact ih_2 _ _ hB x12 (i_x12.wk (by decide)) (iv_mup (c := 1) i_x1 (by decide) (by decide) (by omega) hn_2) _ (lv_sub hl [0, 1, 2] rfl)
        · skip
          refine lv_aload_n hx hb dX9_isPitchThere_29 rfl (lv_at hl 1 rfl) ?_
          refine iv_getr0 X ft_X9 hB a_h0 sh_9 0 (by decide) rfl k_fl_X9_15 dX9_isPitchThere_30 e_b2 ?_
          refine iv_getr0 X ft_X5 hB a_b2 sh_5 0 (by decide) rfl k_fl_X9_45 dX9_isPitchThere_33 e_b7 ?_
          refine lv_iload_n hx hb dX9_isPitchThere_36 rfl (lv_at hl 0 rfl) ?_
          refine iv_aald X hB a_b7 sh_40 (iv_in i4_x1 (by decide)) dX9_isPitchThere_37 (fun b13 g_b13 r_b13 e_b13 a_b13 => ?_)
          refine iv_geti X ft_X1 hB a_b13 sh_1 1 (by decide) rfl k_fl_X9_63 dX9_isPitchThere_38 (fun x14 e_x14 i_x14 => ?_)
          refine lv_iload_n hx hb dX9_isPitchThere_41 rfl (lv_at hl 2 rfl) ?_
          refine lv_icmp_ne (tgt := 47) hx hb dX9_isPitchThere_42 (by decide) (fun c15 => ?_) (fun c15 => ?_)
          · skip
            refine iv_iinc hx hb i4_x1 (lo := 1) (hi := 10) (by decide) dX9_isPitchThere_47 hl (k := 0) rfl (by decide) (fun x16 ls e_x16 i_x16 hl => ?_)
            have hl : lv_has ls 3 [(2, .int x16), (0, .ref h0), (1, .int x_0)] := hl
            refine lv_goto (tgt := 2) hx hb dX9_isPitchThere_50 (by decide) ?_
            exact ih_2 _ _ hB x16 (i_x16.wk (by decide)) (iv_mup (c := 1) i_x1 (by decide) (by decide) (by omega) hn_2) _ (lv_sub hl [0, 1, 2] rfl)
          · skip
            have i16_x14 : iv_R 0 1175 x14 := ((i_x14.cutLo (n := 0) (iv_eq_r c15 i_x_0).1).cutHi (n := 1175) (iv_eq_r c15 i_x_0).2)
            refine lv_iconst (v := 1) hx hb dX9_isPitchThere_45 (by decide) ?_
            exact iv_zret X hr hlocks hB (q_1.wk (by decide)) ⟨rfl, (q_1.wk (by decide))⟩ dX9_isPitchThere_46
  exact L_2 _ _ _ hB 0 (q_0.wk (by decide)) (Nat.lt_succ_self _) _ (lv_sub hl [0, 1, 2] rfl)
theorem dX9_rowFrom_0 : decode cX9_rowFrom 0 = .ok (.iconst 0, 1) := by decide +kernel
theorem dX9_rowFrom_1 : decode cX9_rowFrom 1 = .ok (.istore_n 3, 1) := by decide +kernel
theorem dX9_rowFrom_2 : decode cX9_rowFrom 2 = .ok (.iload_n 3, 1) := by decide +kernel
theorem dX9_rowFrom_3 : decode cX9_rowFrom 3 = .ok (.bipush 47, 2) := by decide +kernel
theorem dX9_rowFrom_5 : decode cX9_rowFrom 5 = .ok (.if_icmp .gt 21, 3) := by decide +kernel
theorem dX9_rowFrom_8 : decode cX9_rowFrom 8 = .ok (.aload_n 0, 1) := by decide +kernel
theorem dX9_rowFrom_9 : decode cX9_rowFrom 9 = .ok (.iload_n 1, 1) := by decide +kernel
theorem dX9_rowFrom_10 : decode cX9_rowFrom 10 = .ok (.iload_n 3, 1) := by decide +kernel
theorem dX9_rowFrom_11 : decode cX9_rowFrom 11 = .ok (.iload_n 2, 1) := by decide +kernel
theorem dX9_rowFrom_12 : decode cX9_rowFrom 12 = .ok (.imul, 1) := by decide +kernel
theorem dX9_rowFrom_13 : decode cX9_rowFrom 13 = .ok (.iadd, 1) := by decide +kernel
theorem dX9_rowFrom_14 : decode cX9_rowFrom 14 = .ok (.invokevirtual 60, 3) := by decide +kernel
theorem dX9_rowFrom_17 : decode cX9_rowFrom 17 = .ok (.ifCond .eq 9, 3) := by decide +kernel
theorem dX9_rowFrom_20 : decode cX9_rowFrom 20 = .ok (.iinc 3 1, 3) := by decide +kernel
theorem dX9_rowFrom_23 : decode cX9_rowFrom 23 = .ok (.goto (-21), 3) := by decide +kernel
theorem dX9_rowFrom_26 : decode cX9_rowFrom 26 = .ok (.iload_n 3, 1) := by decide +kernel
theorem dX9_rowFrom_27 : decode cX9_rowFrom 27 = .ok (.ireturn, 1) := by decide +kernel
set_option maxHeartbeats 4000000 in
set_option maxRecDepth 100000 in
theorem c_X9_rowFrom (l : Launch) (D : va_G) (tys : List (ClassId × FieldType)) (base : Nat) (G : iv_G) (h0 : Nat) (g_h0 : Nat → Int32) (r_h0 : Nat → Nat) (a_h0 : G h0 = some (9, g_h0, r_h0)) (x_0 : Int32) (i_x_0 : iv_R 0 47 x_0) (x_1 : Int32) (i_x_1 : iv_R 1 24 x_1) : Met l yX9_rowFrom (Cond.code yX9_rowFrom cX9_rowFrom 4 (some .int) :: iv_W0) ({ frames := 1, cells := 0, slots := 0, locals := 22 }) (iv_Pc iv_sh D classes tys base G [.ref h0, .int x_0, .int x_1]) (iv_Qi iv_sh D classes tys base (fun v G' => G = G' ∧ iv_R 0 48 v)) 0 0 (iv_A base) := by
  refine iv_head (by decide) (Nat.le_of_ble_eq_true rfl) ?_
  intro p e s m args below meth c ls X hr hlocks hname hB hl
  have X := X
  have hx := X.1.1
  have hb := X.1.2.1
  have hl : lv_has ls 4 [(0, .ref h0), (1, .int x_0), (2, .int x_1)] := hl
  refine lv_iconst (v := 0) hx hb dX9_rowFrom_0 (by decide) ?_
  refine lv_istore_n (lv' := [(3, .int 0), (0, .ref h0), (1, .int x_0), (2, .int x_1)]) hx hb dX9_rowFrom_1 rfl hl (by decide) rfl (fun ls hl => ?_)
  have L_2 : ∀ (n_2 : Nat) (H : Heap) (locs : List Loc) (hB : iv_B iv_sh D classes tys base G s.heap H locs) (x1 : Int32) (i_x1 : iv_R 0 48 x1) (hn_2 : (49 - x1.toInt).toNat < n_2) (ls : Array Slot) (hl : lv_has ls 4 [(3, .int x1), (0, .ref h0), (1, .int x_0), (2, .int x_1)]), W p l e ({ frames := 1, cells := 0, slots := 0, locals := 22 } : Room) s m args below meth c H locs 0 0 (MQ below (iv_Qi iv_sh D classes tys base (fun v G' => G = G' ∧ iv_R 0 48 v)) args s 0 0 (iv_A base)) (F0 m 2 ls []) := by
    intro n_2
    induction n_2 with
    | zero => intro H locs hB x1 i_x1 hn_2 ls hl; exact absurd hn_2 (Nat.not_lt_zero _)
    | succ n_2 ih_2 =>
      intro H locs hB x1 i_x1 hn_2 ls hl
      refine lv_iload_n hx hb dX9_rowFrom_2 rfl (lv_at hl 0 rfl) ?_
      refine lv_bipush (v := 47) hx hb dX9_rowFrom_3 (by decide) ?_
      refine lv_icmp_gt (tgt := 26) hx hb dX9_rowFrom_5 (by decide) (fun c2 => ?_) (fun c2 => ?_)
      · skip
        have i2_x1 : iv_R 48 48 x1 := (i_x1.cutLo (n := 48) (iv_lt_l c2 q_47 (by decide)))
        refine lv_iload_n hx hb dX9_rowFrom_26 rfl (lv_at hl 0 rfl) ?_
        exact iv_iret X hr hlocks hB ⟨rfl, (i2_x1.wk (by decide))⟩ dX9_rowFrom_27
      · skip
        have i3_x1 : iv_R 0 47 x1 := (i_x1.cutHi (n := 47) (iv_le_r (iv_nlt c2) q_47))
        refine lv_aload_n hx hb dX9_rowFrom_8 rfl (lv_at hl 1 rfl) ?_
        refine lv_iload_n hx hb dX9_rowFrom_9 rfl (lv_at hl 2 rfl) ?_
        refine lv_iload_n hx hb dX9_rowFrom_10 rfl (lv_at hl 0 rfl) ?_
        refine lv_iload_n hx hb dX9_rowFrom_11 rfl (lv_at hl 3 rfl) ?_
        refine iv_imul hx hb i3_x1 i_x_1 (lo := 0) (hi := 1128) (by decide) dX9_rowFrom_12 (fun x5 e_x5 i_x5 => ?_)
        refine iv_iadd hx hb i_x_0 i_x5 (lo := 0) (hi := 1175) (by decide) dX9_rowFrom_13 (fun x6 e_x6 i_x6 => ?_)
        refine iv_cVi X k_good k_mf_X9_isPitchThere k_im_X9_isPitchThere k_sel_X9_isPitchThere k_ml_X9_60 ft_X9 hB a_h0 sh_9 (As := [.int x6]) (c_X9_isPitchThere l D tys base G h0 g_h0 r_h0 a_h0 x6 i_x6) ⟨rfl, rfl⟩ ⟨Nat.le_of_ble_eq_true rfl, Nat.le_of_ble_eq_true rfl⟩ ⟨Nat.le_of_ble_eq_true rfl, Nat.le_of_ble_eq_true rfl⟩ rfl rfl hl.1 (Nat.le_of_ble_eq_true rfl) dX9_rowFrom_14 (fun x7 G9 H locs hq hB => ?_)
        obtain ⟨rfl, i_x7⟩ := hq
        refine lv_if_eq (tgt := 26) hx hb dX9_rowFrom_17 (by decide) (fun c8 => ?_) (fun c8 => ?_)
        · skip
          have i8_x7 : iv_R 0 0 x7 := (i_x7.cutHi (n := 0) (iv_eq_r c8 q_0).2)
          refine lv_iload_n hx hb dX9_rowFrom_26 rfl (lv_at hl 0 rfl) ?_
          exact iv_iret X hr hlocks hB ⟨rfl, (i3_x1.wk (by decide))⟩ dX9_rowFrom_27
        · skip
          have i9_x7 : iv_R 1 1 x7 := iv_ne_lo c8 i_x7 q_0 (by decide)
          refine iv_iinc hx hb i3_x1 (lo := 1) (hi := 48) (by decide) dX9_rowFrom_20 hl (k := 0) rfl (by decide) (fun x11 ls e_x11 i_x11 hl => ?_)
          have hl : lv_has ls 4 [(3, .int x11), (0, .ref h0), (1, .int x_0), (2, .int x_1)] := hl
          refine lv_goto (tgt := 2) hx hb dX9_rowFrom_23 (by decide) ?_
          exact ih_2 _ _ hB x11 (i_x11.wk (by decide)) (iv_mup (c := 1) i_x1 (by decide) (by decide) (by omega) hn_2) _ (lv_sub hl [0, 1, 2, 3] rfl)
  exact L_2 _ _ _ hB 0 (q_0.wk (by decide)) (Nat.lt_succ_self _) _ (lv_sub hl [0, 1, 2, 3] rfl)
theorem dX11_siblings_0 : decode cX11_siblings 0 = .ok (.iload_n 1, 1) := by decide +kernel
theorem dX11_siblings_1 : decode cX11_siblings 1 = .ok (.iconst 1, 1) := by decide +kernel
theorem dX11_siblings_2 : decode cX11_siblings 2 = .ok (.bipush 24, 2) := by decide +kernel
theorem dX11_siblings_4 : decode cX11_siblings 4 = .ok (.invokestatic 83, 3) := by decide +kernel
theorem dX11_siblings_7 : decode cX11_siblings 7 = .ok (.ifCond .ne 5, 3) := by decide +kernel
theorem dX11_siblings_10 : decode cX11_siblings 10 = .ok (.iconst (-1), 1) := by decide +kernel
theorem dX11_siblings_11 : decode cX11_siblings 11 = .ok (.ireturn, 1) := by decide +kernel
theorem dX11_siblings_12 : decode cX11_siblings 12 = .ok (.iconst 0, 1) := by decide +kernel
theorem dX11_siblings_13 : decode cX11_siblings 13 = .ok (.istore_n 3, 1) := by decide +kernel
theorem dX11_siblings_14 : decode cX11_siblings 14 = .ok (.iconst (-1), 1) := by decide +kernel
theorem dX11_siblings_15 : decode cX11_siblings 15 = .ok (.istore 4, 2) := by decide +kernel
theorem dX11_siblings_17 : decode cX11_siblings 17 = .ok (.iconst 0, 1) := by decide +kernel
theorem dX11_siblings_18 : decode cX11_siblings 18 = .ok (.istore 5, 2) := by decide +kernel
theorem dX11_siblings_20 : decode cX11_siblings 20 = .ok (.iload 5, 2) := by decide +kernel
theorem dX11_siblings_22 : decode cX11_siblings 22 = .ok (.bipush 47, 2) := by decide +kernel
theorem dX11_siblings_24 : decode cX11_siblings 24 = .ok (.if_icmp .gt 34, 3) := by decide +kernel
theorem dX11_siblings_27 : decode cX11_siblings 27 = .ok (.aload_n 0, 1) := by decide +kernel
theorem dX11_siblings_28 : decode cX11_siblings 28 = .ok (.getfield 58, 3) := by decide +kernel
theorem dX11_siblings_31 : decode cX11_siblings 31 = .ok (.iload 5, 2) := by decide +kernel
theorem dX11_siblings_33 : decode cX11_siblings 33 = .ok (.iload_n 1, 1) := by decide +kernel
theorem dX11_siblings_34 : decode cX11_siblings 34 = .ok (.invokevirtual 319, 3) := by decide +kernel
theorem dX11_siblings_37 : decode cX11_siblings 37 = .ok (.istore 6, 2) := by decide +kernel
theorem dX11_siblings_39 : decode cX11_siblings 39 = .ok (.iload 6, 2) := by decide +kernel
theorem dX11_siblings_41 : decode cX11_siblings 41 = .ok (.iload_n 3, 1) := by decide +kernel
theorem dX11_siblings_42 : decode cX11_siblings 42 = .ok (.if_icmp .le 10, 3) := by decide +kernel
theorem dX11_siblings_45 : decode cX11_siblings 45 = .ok (.iload 6, 2) := by decide +kernel
theorem dX11_siblings_47 : decode cX11_siblings 47 = .ok (.istore_n 3, 1) := by decide +kernel
theorem dX11_siblings_48 : decode cX11_siblings 48 = .ok (.iload 5, 2) := by decide +kernel
theorem dX11_siblings_50 : decode cX11_siblings 50 = .ok (.istore 4, 2) := by decide +kernel
theorem dX11_siblings_52 : decode cX11_siblings 52 = .ok (.iinc 5 1, 3) := by decide +kernel
theorem dX11_siblings_55 : decode cX11_siblings 55 = .ok (.goto (-35), 3) := by decide +kernel
theorem dX11_siblings_58 : decode cX11_siblings 58 = .ok (.iload_n 2, 1) := by decide +kernel
theorem dX11_siblings_59 : decode cX11_siblings 59 = .ok (.iload_n 3, 1) := by decide +kernel
theorem dX11_siblings_60 : decode cX11_siblings 60 = .ok (.iload 4, 2) := by decide +kernel
theorem dX11_siblings_62 : decode cX11_siblings 62 = .ok (.invokestatic 282, 3) := by decide +kernel
theorem dX11_siblings_65 : decode cX11_siblings 65 = .ok (.ireturn, 1) := by decide +kernel
set_option maxHeartbeats 4000000 in
set_option maxRecDepth 100000 in
theorem c_X11_siblings (l : Launch) (D : va_G) (tys : List (ClassId × FieldType)) (base : Nat) (G : iv_G) (h0 : Nat) (g_h0 : Nat → Int32) (r_h0 : Nat → Nat) (a_h0 : G h0 = some (11, g_h0, r_h0)) (x_0 : Int32) (i_x_0 : iv_R (-2147483648) 2147483647 x_0) (x_1 : Int32) (i_x_1 : iv_R (-2147483648) 2147483647 x_1) : Met l yX11_siblings (Cond.code yX11_siblings cX11_siblings 7 (some .int) :: iv_W0) ({ frames := 2, cells := 0, slots := 0, locals := 45 }) (iv_Pc iv_sh D classes tys base G [.ref h0, .int x_0, .int x_1]) (iv_Qi iv_sh D classes tys base (fun v G' => G = G' ∧ iv_R (-2147483648) 2147483647 v)) 0 0 (iv_A base) := by
  refine iv_head (by decide) (Nat.le_of_ble_eq_true rfl) ?_
  intro p e s m args below meth c ls X hr hlocks hname hB hl
  have X := X
  have hx := X.1.1
  have hb := X.1.2.1
  have hl : lv_has ls 7 [(0, .ref h0), (1, .int x_0), (2, .int x_1)] := hl
  refine lv_iload_n hx hb dX11_siblings_0 rfl (lv_at hl 1 rfl) ?_
  refine lv_iconst (v := 1) hx hb dX11_siblings_1 (by decide) ?_
  refine lv_bipush (v := 24) hx hb dX11_siblings_2 (by decide) ?_
  refine iv_cSi X k_good k_mf_X11_isWithin k_st_X11_isWithin k_ml_X11_83 hB (As := [.int x_0, .int 1, .int 24]) (c_X11_isWithin l D tys base G x_0 i_x_0 1 (q_1.wk (by decide)) 24 (q_24.wk (by decide))) ⟨rfl, rfl⟩ ⟨Nat.le_of_ble_eq_true rfl, Nat.le_of_ble_eq_true rfl⟩ ⟨Nat.le_of_ble_eq_true rfl, Nat.le_of_ble_eq_true rfl⟩ rfl rfl hl.1 (Nat.le_of_ble_eq_true rfl) dX11_siblings_4 (fun x1 G9 H locs hq hB => ?_)
  obtain ⟨rfl, i_x1, hp2⟩ := hq
  have k3 : ¬ x1 = 0 → iv_R 1 24 x_0 := fun h => ⟨iv_max i_x_0.1 (Int.le_trans q_1.1 (hp2.1 h).1) (by decide), iv_min i_x_0.2 (Int.le_trans (hp2.1 h).2 q_24.2) (by decide)⟩
  refine lv_if_ne (tgt := 12) hx hb dX11_siblings_7 (by decide) (fun c4 => ?_) (fun c4 => ?_)
  · skip
    have i4_x1 : iv_R 1 1 x1 := iv_ne_lo c4 i_x1 q_0 (by decide)
    have i5_x_0 : iv_R 1 24 x_0 := ((i_x_0.cutLo (n := 1) (k3 c4).1).cutHi (n := 24) (k3 c4).2)
    refine lv_iconst (v := 0) hx hb dX11_siblings_12 (by decide) ?_
    refine lv_istore_n (lv' := [(3, .int 0), (0, .ref h0), (1, .int x_0), (2, .int x_1)]) hx hb dX11_siblings_13 rfl hl (by decide) rfl (fun ls hl => ?_)
    refine lv_iconst (v := (-1)) hx hb dX11_siblings_14 (by decide) ?_
    refine lv_istore (lv' := [(4, .int (-1)), (3, .int 0), (0, .ref h0), (1, .int x_0), (2, .int x_1)]) hx hb dX11_siblings_15 hl (by decide) rfl (fun ls hl => ?_)
    refine lv_iconst (v := 0) hx hb dX11_siblings_17 (by decide) ?_
    refine lv_istore (lv' := [(5, .int 0), (4, .int (-1)), (3, .int 0), (0, .ref h0), (1, .int x_0), (2, .int x_1)]) hx hb dX11_siblings_18 hl (by decide) rfl (fun ls hl => ?_)
    have L_20 : ∀ (n_20 : Nat) (H : Heap) (locs : List Loc) (hB : iv_B iv_sh D classes tys base G s.heap H locs) (x7 : Int32) (i_x7 : iv_R 0 48 x7) (x8 : Int32) (i_x8 : iv_R (-1) 47 x8) (x9 : Int32) (i_x9 : iv_R 0 48 x9) (hn_20 : (49 - x9.toInt).toNat < n_20) (ls : Array Slot) (hl : lv_has ls 7 [(5, .int x9), (4, .int x8), (3, .int x7), (0, .ref h0), (1, .int x_0), (2, .int x_1)]), W p l e ({ frames := 2, cells := 0, slots := 0, locals := 45 } : Room) s m args below meth c H locs 0 0 (MQ below (iv_Qi iv_sh D classes tys base (fun v G' => G = G' ∧ iv_R (-2147483648) 2147483647 v)) args s 0 0 (iv_A base)) (F0 m 20 ls []) := by
      intro n_20
      induction n_20 with
      | zero => intro H locs hB x7 i_x7 x8 i_x8 x9 i_x9 hn_20 ls hl; exact absurd hn_20 (Nat.not_lt_zero _)
      | succ n_20 ih_20 =>
        intro H locs hB x7 i_x7 x8 i_x8 x9 i_x9 hn_20 ls hl
        refine lv_iload hx hb dX11_siblings_20 (lv_at hl 0 rfl) ?_
        refine lv_bipush (v := 47) hx hb dX11_siblings_22 (by decide) ?_
        refine lv_icmp_gt (tgt := 58) hx hb dX11_siblings_24 (by decide) (fun c10 => ?_) (fun c10 => ?_)
        · skip
          have i10_x9 : iv_R 48 48 x9 := (i_x9.cutLo (n := 48) (iv_lt_l c10 q_47 (by decide)))
          refine lv_iload_n hx hb dX11_siblings_58 rfl (lv_at hl 5 rfl) ?_
          refine lv_iload_n hx hb dX11_siblings_59 rfl (lv_at hl 2 rfl) ?_
          refine lv_iload hx hb dX11_siblings_60 (lv_at hl 1 rfl) ?_
          refine iv_cSi X k_good k_mf_X11_chosen k_st_X11_chosen k_ml_X11_282 hB (As := [.int x_1, .int x7, .int x8]) (c_X11_chosen l D tys base G x_1 i_x_1 x7 (i_x7.wk (by decide)) x8 (i_x8.wk (by decide))) ⟨rfl, rfl⟩ ⟨Nat.le_of_ble_eq_true rfl, Nat.le_of_ble_eq_true rfl⟩ ⟨Nat.le_of_ble_eq_true rfl, Nat.le_of_ble_eq_true rfl⟩ rfl rfl hl.1 (Nat.le_of_ble_eq_true rfl) dX11_siblings_62 (fun x12 G9 H locs hq hB => ?_)
          obtain ⟨rfl, i_x12⟩ := hq
          exact iv_iret X hr hlocks hB ⟨rfl, i_x12⟩ dX11_siblings_65
        · skip
          have i12_x9 : iv_R 0 47 x9 := (i_x9.cutHi (n := 47) (iv_le_r (iv_nlt c10) q_47))
          refine lv_aload_n hx hb dX11_siblings_27 rfl (lv_at hl 3 rfl) ?_
          refine iv_getr X ft_X11 hB a_h0 sh_11 9 (by decide) rfl k_fl_X11_58 dX11_siblings_28 (fun b14 g_b14 r_b14 e_b14 a_b14 => ?_)
          refine lv_iload hx hb dX11_siblings_31 (lv_at hl 0 rfl) ?_
          refine lv_iload_n hx hb dX11_siblings_33 rfl (lv_at hl 4 rfl) ?_
          refine iv_cVi X k_good k_mf_X9_rowFrom k_im_X9_rowFrom k_sel_X9_rowFrom k_ml_X11_319 ft_X9 hB a_b14 sh_9 (As := [.int x9, .int x_0]) (c_X9_rowFrom l D tys base G b14 g_b14 r_b14 a_b14 x9 i12_x9 x_0 i5_x_0) ⟨rfl, rfl⟩ ⟨Nat.le_of_ble_eq_true rfl, Nat.le_of_ble_eq_true rfl⟩ ⟨Nat.le_of_ble_eq_true rfl, Nat.le_of_ble_eq_true rfl⟩ rfl rfl hl.1 (Nat.le_of_ble_eq_true rfl) dX11_siblings_34 (fun x15 G9 H locs hq hB => ?_)
          obtain ⟨rfl, i_x15⟩ := hq
          refine lv_istore (lv' := [(6, .int x15), (5, .int x9), (4, .int x8), (3, .int x7), (0, .ref h0), (1, .int x_0), (2, .int x_1)]) hx hb dX11_siblings_37 hl (by decide) rfl (fun ls hl => ?_)
          refine lv_iload hx hb dX11_siblings_39 (lv_at hl 0 rfl) ?_
          refine lv_iload_n hx hb dX11_siblings_41 rfl (lv_at hl 3 rfl) ?_
          refine lv_icmp_le (tgt := 52) hx hb dX11_siblings_42 (by decide) (fun c16 => ?_) (fun c16 => ?_)
          · skip
            refine iv_iinc hx hb i12_x9 (lo := 1) (hi := 48) (by decide) dX11_siblings_52 hl (k := 1) rfl (by decide) (fun x17 ls e_x17 i_x17 hl => ?_)
            have hl : lv_has ls 7 [(5, .int x17), (6, .int x15), (4, .int x8), (3, .int x7), (0, .ref h0), (1, .int x_0), (2, .int x_1)] := hl
            refine lv_goto (tgt := 20) hx hb dX11_siblings_55 (by decide) ?_
            exact ih_20 _ _ hB x7 i_x7 x8 i_x8 x17 (i_x17.wk (by decide)) (iv_mup (c := 1) i_x9 (by decide) (by decide) (by omega) hn_20) _ (lv_sub hl [0, 2, 3, 4, 5, 6] rfl)
          · skip
            have i17_x7 : iv_R 0 47 x7 := (i_x7.cutHi (n := 47) (iv_lt_r (iv_nle c16) i_x15 (by decide)))
            have i18_x15 : iv_R 1 48 x15 := (i_x15.cutLo (n := 1) (iv_lt_l (iv_nle c16) i_x7 (by decide)))
            refine lv_iload hx hb dX11_siblings_45 (lv_at hl 0 rfl) ?_
            refine lv_istore_n (lv' := [(3, .int x15), (6, .int x15), (5, .int x9), (4, .int x8), (0, .ref h0), (1, .int x_0), (2, .int x_1)]) hx hb dX11_siblings_47 rfl hl (by decide) rfl (fun ls hl => ?_)
            refine lv_iload hx hb dX11_siblings_48 (lv_at hl 2 rfl) ?_
            refine lv_istore (lv' := [(4, .int x9), (3, .int x15), (6, .int x15), (5, .int x9), (0, .ref h0), (1, .int x_0), (2, .int x_1)]) hx hb dX11_siblings_50 hl (by decide) rfl (fun ls hl => ?_)
            refine iv_iinc hx hb i12_x9 (lo := 1) (hi := 48) (by decide) dX11_siblings_52 hl (k := 3) rfl (by decide) (fun x20 ls e_x20 i_x20 hl => ?_)
            have hl : lv_has ls 7 [(5, .int x20), (4, .int x9), (3, .int x15), (6, .int x15), (0, .ref h0), (1, .int x_0), (2, .int x_1)] := hl
            refine lv_goto (tgt := 20) hx hb dX11_siblings_55 (by decide) ?_
            exact ih_20 _ _ hB x15 (i18_x15.wk (by decide)) x9 (i12_x9.wk (by decide)) x20 (i_x20.wk (by decide)) (iv_mup (c := 1) i_x9 (by decide) (by decide) (by omega) hn_20) _ (lv_sub hl [0, 1, 2, 4, 5, 6] rfl)
    exact L_20 _ _ _ hB 0 (q_0.wk (by decide)) (-1) (q_n1.wk (by decide)) 0 (q_0.wk (by decide)) (Nat.lt_succ_self _) _ (lv_sub hl [0, 1, 2, 3, 4, 5] rfl)
  · skip
    have i20_x1 : iv_R 0 0 x1 := (i_x1.cutHi (n := 0) (iv_eq_r c4 q_0).2)
    refine lv_iconst (v := (-1)) hx hb dX11_siblings_10 (by decide) ?_
    exact iv_iret X hr hlocks hB ⟨rfl, (q_n1.wk (by decide))⟩ dX11_siblings_11
theorem dX5_silentFrom_0 : decode cX5_silentFrom 0 = .ok (.iconst 0, 1) := by decide +kernel
theorem dX5_silentFrom_1 : decode cX5_silentFrom 1 = .ok (.istore_n 2, 1) := by decide +kernel
theorem dX5_silentFrom_2 : decode cX5_silentFrom 2 = .ok (.iload_n 2, 1) := by decide +kernel
theorem dX5_silentFrom_3 : decode cX5_silentFrom 3 = .ok (.bipush 24, 2) := by decide +kernel
theorem dX5_silentFrom_5 : decode cX5_silentFrom 5 = .ok (.if_icmp .ge 22, 3) := by decide +kernel
theorem dX5_silentFrom_8 : decode cX5_silentFrom 8 = .ok (.aload_n 0, 1) := by decide +kernel
theorem dX5_silentFrom_9 : decode cX5_silentFrom 9 = .ok (.iload_n 1, 1) := by decide +kernel
theorem dX5_silentFrom_10 : decode cX5_silentFrom 10 = .ok (.iload_n 2, 1) := by decide +kernel
theorem dX5_silentFrom_11 : decode cX5_silentFrom 11 = .ok (.iadd, 1) := by decide +kernel
theorem dX5_silentFrom_12 : decode cX5_silentFrom 12 = .ok (.bipush 24, 2) := by decide +kernel
theorem dX5_silentFrom_14 : decode cX5_silentFrom 14 = .ok (.irem, 1) := by decide +kernel
theorem dX5_silentFrom_15 : decode cX5_silentFrom 15 = .ok (.invokevirtual 103, 3) := by decide +kernel
theorem dX5_silentFrom_18 : decode cX5_silentFrom 18 = .ok (.ifCond .ne 9, 3) := by decide +kernel
theorem dX5_silentFrom_21 : decode cX5_silentFrom 21 = .ok (.iinc 2 1, 3) := by decide +kernel
theorem dX5_silentFrom_24 : decode cX5_silentFrom 24 = .ok (.goto (-22), 3) := by decide +kernel
theorem dX5_silentFrom_27 : decode cX5_silentFrom 27 = .ok (.iload_n 2, 1) := by decide +kernel
theorem dX5_silentFrom_28 : decode cX5_silentFrom 28 = .ok (.ireturn, 1) := by decide +kernel
set_option maxHeartbeats 4000000 in
set_option maxRecDepth 100000 in
theorem c_X5_silentFrom (l : Launch) (D : va_G) (tys : List (ClassId × FieldType)) (base : Nat) (G : iv_G) (h0 : Nat) (g_h0 : Nat → Int32) (r_h0 : Nat → Nat) (a_h0 : G h0 = some (5, g_h0, r_h0)) (x_0 : Int32) (i_x_0 : iv_R 0 23 x_0) : Met l yX5_silentFrom (Cond.code yX5_silentFrom cX5_silentFrom 3 (some .int) :: iv_W0) ({ frames := 4, cells := 0, slots := 0, locals := 87 }) (iv_Pc iv_sh D classes tys base G [.ref h0, .int x_0]) (iv_Qi iv_sh D classes tys base (fun v G' => G = G' ∧ iv_R 0 24 v)) 0 0 (iv_A base) := by
  refine iv_head (by decide) (Nat.le_of_ble_eq_true rfl) ?_
  intro p e s m args below meth c ls X hr hlocks hname hB hl
  have X := X
  have hx := X.1.1
  have hb := X.1.2.1
  have hl : lv_has ls 3 [(0, .ref h0), (1, .int x_0)] := hl
  refine lv_iconst (v := 0) hx hb dX5_silentFrom_0 (by decide) ?_
  refine lv_istore_n (lv' := [(2, .int 0), (0, .ref h0), (1, .int x_0)]) hx hb dX5_silentFrom_1 rfl hl (by decide) rfl (fun ls hl => ?_)
  have L_2 : ∀ (n_2 : Nat) (H : Heap) (locs : List Loc) (hB : iv_B iv_sh D classes tys base G s.heap H locs) (x1 : Int32) (i_x1 : iv_R 0 24 x1) (hn_2 : (25 - x1.toInt).toNat < n_2) (ls : Array Slot) (hl : lv_has ls 3 [(2, .int x1), (0, .ref h0), (1, .int x_0)]), W p l e ({ frames := 4, cells := 0, slots := 0, locals := 87 } : Room) s m args below meth c H locs 0 0 (MQ below (iv_Qi iv_sh D classes tys base (fun v G' => G = G' ∧ iv_R 0 24 v)) args s 0 0 (iv_A base)) (F0 m 2 ls []) := by
    intro n_2
    induction n_2 with
    | zero => intro H locs hB x1 i_x1 hn_2 ls hl; exact absurd hn_2 (Nat.not_lt_zero _)
    | succ n_2 ih_2 =>
      intro H locs hB x1 i_x1 hn_2 ls hl
      refine lv_iload_n hx hb dX5_silentFrom_2 rfl (lv_at hl 0 rfl) ?_
      refine lv_bipush (v := 24) hx hb dX5_silentFrom_3 (by decide) ?_
      refine lv_icmp_ge (tgt := 27) hx hb dX5_silentFrom_5 (by decide) (fun c2 => ?_) (fun c2 => ?_)
      · skip
        have i2_x1 : iv_R 24 24 x1 := (i_x1.cutLo (n := 24) (iv_le_l c2 q_24))
        refine lv_iload_n hx hb dX5_silentFrom_27 rfl (lv_at hl 0 rfl) ?_
        exact iv_iret X hr hlocks hB ⟨rfl, (i2_x1.wk (by decide))⟩ dX5_silentFrom_28
      · skip
        have i3_x1 : iv_R 0 23 x1 := (i_x1.cutHi (n := 23) (iv_lt_r (iv_nle c2) q_24 (by decide)))
        refine lv_aload_n hx hb dX5_silentFrom_8 rfl (lv_at hl 1 rfl) ?_
        refine lv_iload_n hx hb dX5_silentFrom_9 rfl (lv_at hl 2 rfl) ?_
        refine lv_iload_n hx hb dX5_silentFrom_10 rfl (lv_at hl 0 rfl) ?_
        refine iv_iadd hx hb i_x_0 i3_x1 (lo := 0) (hi := 46) (by decide) dX5_silentFrom_11 (fun x5 e_x5 i_x5 => ?_)
        refine lv_bipush (v := 24) hx hb dX5_silentFrom_12 (by decide) ?_
        refine iv_iremp hx hb i_x5 q_24 (lo := 0) (hi := 23) (by decide) dX5_silentFrom_14 (fun x6 e_x6 i_x6 => ?_)
        refine iv_cVi X k_good k_mf_X5_howManySound k_im_X5_howManySound k_sel_X5_howManySound k_ml_X5_103 ft_X5 hB a_h0 sh_5 (As := [.int x6]) (c_X5_howManySound l D tys base G h0 g_h0 r_h0 a_h0 x6 i_x6) ⟨rfl, rfl⟩ ⟨Nat.le_of_ble_eq_true rfl, Nat.le_of_ble_eq_true rfl⟩ ⟨Nat.le_of_ble_eq_true rfl, Nat.le_of_ble_eq_true rfl⟩ rfl rfl hl.1 (Nat.le_of_ble_eq_true rfl) dX5_silentFrom_15 (fun x7 G9 H locs hq hB => ?_)
        obtain ⟨rfl, i_x7⟩ := hq
        refine lv_if_ne (tgt := 27) hx hb dX5_silentFrom_18 (by decide) (fun c8 => ?_) (fun c8 => ?_)
        · skip
          refine lv_iload_n hx hb dX5_silentFrom_27 rfl (lv_at hl 0 rfl) ?_
          exact iv_iret X hr hlocks hB ⟨rfl, (i3_x1.wk (by decide))⟩ dX5_silentFrom_28
        · skip
          have i8_x7 : iv_R 0 0 x7 := ((i_x7.cutLo (n := 0) (iv_eq_r c8 q_0).1).cutHi (n := 0) (iv_eq_r c8 q_0).2)
          refine iv_iinc hx hb i3_x1 (lo := 1) (hi := 24) (by decide) dX5_silentFrom_21 hl (k := 0) rfl (by decide) (fun x10 ls e_x10 i_x10 hl => ?_)
          have hl : lv_has ls 3 [(2, .int x10), (0, .ref h0), (1, .int x_0)] := hl
          refine lv_goto (tgt := 2) hx hb dX5_silentFrom_24 (by decide) ?_
          exact ih_2 _ _ hB x10 (i_x10.wk (by decide)) (iv_mup (c := 1) i_x1 (by decide) (by decide) (by omega) hn_2) _ (lv_sub hl [0, 1, 2] rfl)
  exact L_2 _ _ _ hB 0 (q_0.wk (by decide)) (Nat.lt_succ_self _) _ (lv_sub hl [0, 1, 2] rfl)
theorem dX11_silence_0 : decode cX11_silence 0 = .ok (.iconst 0, 1) := by decide +kernel
theorem dX11_silence_1 : decode cX11_silence 1 = .ok (.istore_n 2, 1) := by decide +kernel
theorem dX11_silence_2 : decode cX11_silence 2 = .ok (.iconst (-1), 1) := by decide +kernel
theorem dX11_silence_3 : decode cX11_silence 3 = .ok (.istore_n 3, 1) := by decide +kernel
theorem dX11_silence_4 : decode cX11_silence 4 = .ok (.iconst 0, 1) := by decide +kernel
theorem dX11_silence_5 : decode cX11_silence 5 = .ok (.istore 4, 2) := by decide +kernel
theorem dX11_silence_7 : decode cX11_silence 7 = .ok (.iload 4, 2) := by decide +kernel
theorem dX11_silence_9 : decode cX11_silence 9 = .ok (.bipush 24, 2) := by decide +kernel
theorem dX11_silence_11 : decode cX11_silence 11 = .ok (.if_icmp .ge 32, 3) := by decide +kernel
theorem dX11_silence_14 : decode cX11_silence 14 = .ok (.aload_n 0, 1) := by decide +kernel
theorem dX11_silence_15 : decode cX11_silence 15 = .ok (.getfield 12, 3) := by decide +kernel
theorem dX11_silence_18 : decode cX11_silence 18 = .ok (.iload 4, 2) := by decide +kernel
theorem dX11_silence_20 : decode cX11_silence 20 = .ok (.invokevirtual 279, 3) := by decide +kernel
theorem dX11_silence_23 : decode cX11_silence 23 = .ok (.istore 5, 2) := by decide +kernel
theorem dX11_silence_25 : decode cX11_silence 25 = .ok (.iload 5, 2) := by decide +kernel
theorem dX11_silence_27 : decode cX11_silence 27 = .ok (.iload_n 2, 1) := by decide +kernel
theorem dX11_silence_28 : decode cX11_silence 28 = .ok (.if_icmp .le 9, 3) := by decide +kernel
theorem dX11_silence_31 : decode cX11_silence 31 = .ok (.iload 5, 2) := by decide +kernel
theorem dX11_silence_33 : decode cX11_silence 33 = .ok (.istore_n 2, 1) := by decide +kernel
theorem dX11_silence_34 : decode cX11_silence 34 = .ok (.iload 4, 2) := by decide +kernel
theorem dX11_silence_36 : decode cX11_silence 36 = .ok (.istore_n 3, 1) := by decide +kernel
theorem dX11_silence_37 : decode cX11_silence 37 = .ok (.iinc 4 1, 3) := by decide +kernel
theorem dX11_silence_40 : decode cX11_silence 40 = .ok (.goto (-33), 3) := by decide +kernel
theorem dX11_silence_43 : decode cX11_silence 43 = .ok (.iload_n 1, 1) := by decide +kernel
theorem dX11_silence_44 : decode cX11_silence 44 = .ok (.iload_n 2, 1) := by decide +kernel
theorem dX11_silence_45 : decode cX11_silence 45 = .ok (.iload_n 3, 1) := by decide +kernel
theorem dX11_silence_46 : decode cX11_silence 46 = .ok (.invokestatic 282, 3) := by decide +kernel
theorem dX11_silence_49 : decode cX11_silence 49 = .ok (.ireturn, 1) := by decide +kernel
set_option maxHeartbeats 4000000 in
set_option maxRecDepth 100000 in
theorem c_X11_silence (l : Launch) (D : va_G) (tys : List (ClassId × FieldType)) (base : Nat) (G : iv_G) (h0 : Nat) (g_h0 : Nat → Int32) (r_h0 : Nat → Nat) (a_h0 : G h0 = some (11, g_h0, r_h0)) (x_0 : Int32) (i_x_0 : iv_R (-2147483648) 2147483647 x_0) : Met l yX11_silence (Cond.code yX11_silence cX11_silence 6 (some .int) :: iv_W0) ({ frames := 5, cells := 0, slots := 0, locals := 109 }) (iv_Pc iv_sh D classes tys base G [.ref h0, .int x_0]) (iv_Qi iv_sh D classes tys base (fun v G' => G = G' ∧ iv_R (-2147483648) 2147483647 v)) 0 0 (iv_A base) := by
  refine iv_head (by decide) (Nat.le_of_ble_eq_true rfl) ?_
  intro p e s m args below meth c ls X hr hlocks hname hB hl
  have X := X
  have hx := X.1.1
  have hb := X.1.2.1
  have hl : lv_has ls 6 [(0, .ref h0), (1, .int x_0)] := hl
  refine lv_iconst (v := 0) hx hb dX11_silence_0 (by decide) ?_
  refine lv_istore_n (lv' := [(2, .int 0), (0, .ref h0), (1, .int x_0)]) hx hb dX11_silence_1 rfl hl (by decide) rfl (fun ls hl => ?_)
  refine lv_iconst (v := (-1)) hx hb dX11_silence_2 (by decide) ?_
  refine lv_istore_n (lv' := [(3, .int (-1)), (2, .int 0), (0, .ref h0), (1, .int x_0)]) hx hb dX11_silence_3 rfl hl (by decide) rfl (fun ls hl => ?_)
  refine lv_iconst (v := 0) hx hb dX11_silence_4 (by decide) ?_
  refine lv_istore (lv' := [(4, .int 0), (3, .int (-1)), (2, .int 0), (0, .ref h0), (1, .int x_0)]) hx hb dX11_silence_5 hl (by decide) rfl (fun ls hl => ?_)
  have L_7 : ∀ (n_7 : Nat) (H : Heap) (locs : List Loc) (hB : iv_B iv_sh D classes tys base G s.heap H locs) (x1 : Int32) (i_x1 : iv_R 0 24 x1) (x2 : Int32) (i_x2 : iv_R (-1) 23 x2) (x3 : Int32) (i_x3 : iv_R 0 24 x3) (hn_7 : (25 - x3.toInt).toNat < n_7) (ls : Array Slot) (hl : lv_has ls 6 [(4, .int x3), (3, .int x2), (2, .int x1), (0, .ref h0), (1, .int x_0)]), W p l e ({ frames := 5, cells := 0, slots := 0, locals := 109 } : Room) s m args below meth c H locs 0 0 (MQ below (iv_Qi iv_sh D classes tys base (fun v G' => G = G' ∧ iv_R (-2147483648) 2147483647 v)) args s 0 0 (iv_A base)) (F0 m 7 ls []) := by
    intro n_7
    induction n_7 with
    | zero => intro H locs hB x1 i_x1 x2 i_x2 x3 i_x3 hn_7 ls hl; exact absurd hn_7 (Nat.not_lt_zero _)
    | succ n_7 ih_7 =>
      intro H locs hB x1 i_x1 x2 i_x2 x3 i_x3 hn_7 ls hl
      refine lv_iload hx hb dX11_silence_7 (lv_at hl 0 rfl) ?_
      refine lv_bipush (v := 24) hx hb dX11_silence_9 (by decide) ?_
      refine lv_icmp_ge (tgt := 43) hx hb dX11_silence_11 (by decide) (fun c4 => ?_) (fun c4 => ?_)
      · skip
        have i4_x3 : iv_R 24 24 x3 := (i_x3.cutLo (n := 24) (iv_le_l c4 q_24))
        refine lv_iload_n hx hb dX11_silence_43 rfl (lv_at hl 4 rfl) ?_
        refine lv_iload_n hx hb dX11_silence_44 rfl (lv_at hl 2 rfl) ?_
        refine lv_iload_n hx hb dX11_silence_45 rfl (lv_at hl 1 rfl) ?_
        refine iv_cSi X k_good k_mf_X11_chosen k_st_X11_chosen k_ml_X11_282 hB (As := [.int x_0, .int x1, .int x2]) (c_X11_chosen l D tys base G x_0 i_x_0 x1 (i_x1.wk (by decide)) x2 (i_x2.wk (by decide))) ⟨rfl, rfl⟩ ⟨Nat.le_of_ble_eq_true rfl, Nat.le_of_ble_eq_true rfl⟩ ⟨Nat.le_of_ble_eq_true rfl, Nat.le_of_ble_eq_true rfl⟩ rfl rfl hl.1 (Nat.le_of_ble_eq_true rfl) dX11_silence_46 (fun x6 G9 H locs hq hB => ?_)
        obtain ⟨rfl, i_x6⟩ := hq
        exact iv_iret X hr hlocks hB ⟨rfl, i_x6⟩ dX11_silence_49
      · skip
        have i6_x3 : iv_R 0 23 x3 := (i_x3.cutHi (n := 23) (iv_lt_r (iv_nle c4) q_24 (by decide)))
        refine lv_aload_n hx hb dX11_silence_14 rfl (lv_at hl 3 rfl) ?_
        refine iv_getr X ft_X11 hB a_h0 sh_11 0 (by decide) rfl k_fl_X11_12 dX11_silence_15 (fun b8 g_b8 r_b8 e_b8 a_b8 => ?_)
        refine lv_iload hx hb dX11_silence_18 (lv_at hl 0 rfl) ?_
        refine iv_cVi X k_good k_mf_X5_silentFrom k_im_X5_silentFrom k_sel_X5_silentFrom k_ml_X11_279 ft_X5 hB a_b8 sh_5 (As := [.int x3]) (c_X5_silentFrom l D tys base G b8 g_b8 r_b8 a_b8 x3 i6_x3) ⟨rfl, rfl⟩ ⟨Nat.le_of_ble_eq_true rfl, Nat.le_of_ble_eq_true rfl⟩ ⟨Nat.le_of_ble_eq_true rfl, Nat.le_of_ble_eq_true rfl⟩ rfl rfl hl.1 (Nat.le_of_ble_eq_true rfl) dX11_silence_20 (fun x9 G9 H locs hq hB => ?_)
        obtain ⟨rfl, i_x9⟩ := hq
        refine lv_istore (lv' := [(5, .int x9), (4, .int x3), (3, .int x2), (2, .int x1), (0, .ref h0), (1, .int x_0)]) hx hb dX11_silence_23 hl (by decide) rfl (fun ls hl => ?_)
        refine lv_iload hx hb dX11_silence_25 (lv_at hl 0 rfl) ?_
        refine lv_iload_n hx hb dX11_silence_27 rfl (lv_at hl 3 rfl) ?_
        refine lv_icmp_le (tgt := 37) hx hb dX11_silence_28 (by decide) (fun c10 => ?_) (fun c10 => ?_)
        · skip
          refine iv_iinc hx hb i6_x3 (lo := 1) (hi := 24) (by decide) dX11_silence_37 hl (k := 1) rfl (by decide) (fun x11 ls e_x11 i_x11 hl => ?_)
          have hl : lv_has ls 6 [(4, .int x11), (5, .int x9), (3, .int x2), (2, .int x1), (0, .ref h0), (1, .int x_0)] := hl
          refine lv_goto (tgt := 7) hx hb dX11_silence_40 (by decide) ?_
          exact ih_7 _ _ hB x1 i_x1 x2 i_x2 x11 (i_x11.wk (by decide)) (iv_mup (c := 1) i_x3 (by decide) (by decide) (by omega) hn_7) _ (lv_sub hl [0, 2, 3, 4, 5] rfl)
        · skip
          have i11_x1 : iv_R 0 23 x1 := (i_x1.cutHi (n := 23) (iv_lt_r (iv_nle c10) i_x9 (by decide)))
          have i12_x9 : iv_R 1 24 x9 := (i_x9.cutLo (n := 1) (iv_lt_l (iv_nle c10) i_x1 (by decide)))
          refine lv_iload hx hb dX11_silence_31 (lv_at hl 0 rfl) ?_
          refine lv_istore_n (lv' := [(2, .int x9), (5, .int x9), (4, .int x3), (3, .int x2), (0, .ref h0), (1, .int x_0)]) hx hb dX11_silence_33 rfl hl (by decide) rfl (fun ls hl => ?_)
          refine lv_iload hx hb dX11_silence_34 (lv_at hl 2 rfl) ?_
          refine lv_istore_n (lv' := [(3, .int x3), (2, .int x9), (5, .int x9), (4, .int x3), (0, .ref h0), (1, .int x_0)]) hx hb dX11_silence_36 rfl hl (by decide) rfl (fun ls hl => ?_)
          refine iv_iinc hx hb i6_x3 (lo := 1) (hi := 24) (by decide) dX11_silence_37 hl (k := 3) rfl (by decide) (fun x14 ls e_x14 i_x14 hl => ?_)
          have hl : lv_has ls 6 [(4, .int x14), (3, .int x3), (2, .int x9), (5, .int x9), (0, .ref h0), (1, .int x_0)] := hl
          refine lv_goto (tgt := 7) hx hb dX11_silence_40 (by decide) ?_
          exact ih_7 _ _ hB x9 (i12_x9.wk (by decide)) x3 (i6_x3.wk (by decide)) x14 (i_x14.wk (by decide)) (iv_mup (c := 1) i_x3 (by decide) (by decide) (by omega) hn_7) _ (lv_sub hl [0, 1, 2, 4, 5] rfl)
  exact L_7 _ _ _ hB 0 (q_0.wk (by decide)) (-1) (q_n1.wk (by decide)) 0 (q_0.wk (by decide)) (Nat.lt_succ_self _) _ (lv_sub hl [0, 1, 2, 3, 4] rfl)
theorem dX11_state_0 : decode cX11_state 0 = .ok (.aload_n 0, 1) := by decide +kernel
theorem dX11_state_1 : decode cX11_state 1 = .ok (.getfield 12, 3) := by decide +kernel
theorem dX11_state_4 : decode cX11_state 4 = .ok (.getfield 72, 3) := by decide +kernel
theorem dX11_state_7 : decode cX11_state 7 = .ok (.istore_n 2, 1) := by decide +kernel
theorem dX11_state_8 : decode cX11_state 8 = .ok (.aload_n 0, 1) := by decide +kernel
theorem dX11_state_9 : decode cX11_state 9 = .ok (.getfield 12, 3) := by decide +kernel
theorem dX11_state_12 : decode cX11_state 12 = .ok (.iload_n 1, 1) := by decide +kernel
theorem dX11_state_13 : decode cX11_state 13 = .ok (.putfield 72, 3) := by decide +kernel
theorem dX11_state_16 : decode cX11_state 16 = .ok (.aload_n 0, 1) := by decide +kernel
theorem dX11_state_17 : decode cX11_state 17 = .ok (.getfield 22, 3) := by decide +kernel
theorem dX11_state_20 : decode cX11_state 20 = .ok (.invokevirtual 76, 3) := by decide +kernel
theorem dX11_state_23 : decode cX11_state 23 = .ok (.iload_n 2, 1) := by decide +kernel
theorem dX11_state_24 : decode cX11_state 24 = .ok (.ireturn, 1) := by decide +kernel
set_option maxHeartbeats 4000000 in
set_option maxRecDepth 100000 in
theorem c_X11_state (l : Launch) (D : va_G) (tys : List (ClassId × FieldType)) (base : Nat) (G : iv_G) (h0 : Nat) (g_h0 : Nat → Int32) (r_h0 : Nat → Nat) (a_h0 : G h0 = some (11, g_h0, r_h0)) (x_0 : Int32) (i_x_0 : iv_R (-2147483648) 2147483647 x_0) : Met l yX11_state (Cond.code yX11_state cX11_state 3 (some .int) :: iv_W0) ({ frames := 1, cells := 0, slots := 0, locals := 20 }) (iv_Pc iv_sh D classes tys base G [.ref h0, .int x_0]) (iv_Qi iv_sh D classes tys base (fun v G' => iv_Md [5, 6] G G' ∧ iv_R (-2147483648) 2147483647 v)) 0 0 (iv_A base) := by
  refine iv_head (by decide) (Nat.le_of_ble_eq_true rfl) ?_
  intro p e s m args below meth c ls X hr hlocks hname hB hl
  have X := X
  have hx := X.1.1
  have hb := X.1.2.1
  have hM : iv_Md [5, 6] G G := iv_Md.rf
  have hl : lv_has ls 3 [(0, .ref h0), (1, .int x_0)] := hl
  refine lv_aload_n hx hb dX11_state_0 rfl (lv_at hl 0 rfl) ?_
  refine iv_getr X ft_X11 hB a_h0 sh_11 0 (by decide) rfl k_fl_X11_12 dX11_state_1 (fun b1 g_b1 r_b1 e_b1 a_b1 => ?_)
  refine iv_geti X ft_X5 hB a_b1 sh_5 7 (by decide) rfl k_fl_X11_72 dX11_state_4 (fun x2 e_x2 i_x2 => ?_)
  refine lv_istore_n (lv' := [(2, .int x2), (0, .ref h0), (1, .int x_0)]) hx hb dX11_state_7 rfl hl (by decide) rfl (fun ls hl => ?_)
  refine lv_aload_n hx hb dX11_state_8 rfl (lv_at hl 1 rfl) ?_
  refine iv_getr0 X ft_X11 hB a_h0 sh_11 0 (by decide) rfl k_fl_X11_12 dX11_state_9 e_b1 ?_
  refine lv_iload_n hx hb dX11_state_12 rfl (lv_at hl 2 rfl) ?_
  refine iv_puti X ft_X5 hB a_b1 sh_5 7 (by decide) rfl rfl k_fl_X11_72 rfl i_x_0 rfl rfl dX11_state_13 (fun H locs hB => ?_)
  have hm := iv_Md.put (x := x_0) a_b1 (j := 7) (by decide) (by decide)
  have h9 := iv_up_eq (G := G) (a := b1) (k := (5, upd g_b1 7 x_0, r_b1))
  generalize iv_up G b1 _ = G3 at hB hm h9
  have hM := hM.stp hm (by decide)
  have a_h0 := hm.at a_h0 (by decide)
  refine lv_aload_n hx hb dX11_state_16 rfl (lv_at hl 1 rfl) ?_
  refine iv_getr X ft_X11 hB a_h0 sh_11 3 (by decide) rfl k_fl_X11_22 dX11_state_17 (fun b5 g_b5 r_b5 e_b5 a_b5 => ?_)
  refine iv_cVv X k_good k_mf_X6_forget k_im_X6_forget k_sel_X6_forget k_ml_X11_76 ft_X6 hB a_b5 sh_6 (As := []) (c_X6_forget l D tys base G3 b5 g_b5 r_b5 a_b5) ⟨rfl, rfl⟩ ⟨Nat.le_of_ble_eq_true rfl, Nat.le_of_ble_eq_true rfl⟩ ⟨Nat.le_of_ble_eq_true rfl, Nat.le_of_ble_eq_true rfl⟩ rfl rfl hl.1 (Nat.le_of_ble_eq_true rfl) dX11_state_20 (fun G9 H locs hq hB => ?_)
  have hm := hq
  obtain ⟨G6, hG9⟩ : ∃ g, g = G9 := ⟨_, rfl⟩
  rw [← hG9] at hm hB
  have hM := hM.stp hm (by decide)
  have a_h0 := hm.at a_h0 (by decide)
  refine lv_iload_n hx hb dX11_state_23 rfl (lv_at hl 0 rfl) ?_
  exact iv_iret X hr hlocks hB ⟨hM, i_x2⟩ dX11_state_24
theorem dX11_stop_0 : decode cX11_stop 0 = .ok (.aload_n 0, 1) := by decide +kernel
theorem dX11_stop_1 : decode cX11_stop 1 = .ok (.getfield 12, 3) := by decide +kernel
theorem dX11_stop_4 : decode cX11_stop 4 = .ok (.iload_n 1, 1) := by decide +kernel
theorem dX11_stop_5 : decode cX11_stop 5 = .ok (.invokevirtual 119, 3) := by decide +kernel
theorem dX11_stop_8 : decode cX11_stop 8 = .ok (.ifCond .eq 13, 3) := by decide +kernel
theorem dX11_stop_11 : decode cX11_stop 11 = .ok (.iload_n 2, 1) := by decide +kernel
theorem dX11_stop_12 : decode cX11_stop 12 = .ok (.iconst 0, 1) := by decide +kernel
theorem dX11_stop_13 : decode cX11_stop 13 = .ok (.bipush 99, 2) := by decide +kernel
theorem dX11_stop_15 : decode cX11_stop 15 = .ok (.invokestatic 83, 3) := by decide +kernel
theorem dX11_stop_18 : decode cX11_stop 18 = .ok (.ifCond .ne 5, 3) := by decide +kernel
theorem dX11_stop_21 : decode cX11_stop 21 = .ok (.iconst (-1), 1) := by decide +kernel
theorem dX11_stop_22 : decode cX11_stop 22 = .ok (.ireturn, 1) := by decide +kernel
theorem dX11_stop_23 : decode cX11_stop 23 = .ok (.aload_n 0, 1) := by decide +kernel
theorem dX11_stop_24 : decode cX11_stop 24 = .ok (.getfield 42, 3) := by decide +kernel
theorem dX11_stop_27 : decode cX11_stop 27 = .ok (.iload_n 1, 1) := by decide +kernel
theorem dX11_stop_28 : decode cX11_stop 28 = .ok (.sipush 132, 3) := by decide +kernel
theorem dX11_stop_31 : decode cX11_stop 31 = .ok (.invokevirtual 261, 3) := by decide +kernel
theorem dX11_stop_34 : decode cX11_stop 34 = .ok (.istore_n 3, 1) := by decide +kernel
theorem dX11_stop_35 : decode cX11_stop 35 = .ok (.aload_n 0, 1) := by decide +kernel
theorem dX11_stop_36 : decode cX11_stop 36 = .ok (.getfield 42, 3) := by decide +kernel
theorem dX11_stop_39 : decode cX11_stop 39 = .ok (.iload_n 1, 1) := by decide +kernel
theorem dX11_stop_40 : decode cX11_stop 40 = .ok (.sipush 133, 3) := by decide +kernel
theorem dX11_stop_43 : decode cX11_stop 43 = .ok (.invokevirtual 261, 3) := by decide +kernel
theorem dX11_stop_46 : decode cX11_stop 46 = .ok (.istore 4, 2) := by decide +kernel
theorem dX11_stop_48 : decode cX11_stop 48 = .ok (.iconst 0, 1) := by decide +kernel
theorem dX11_stop_49 : decode cX11_stop 49 = .ok (.istore 5, 2) := by decide +kernel
theorem dX11_stop_51 : decode cX11_stop 51 = .ok (.iload 5, 2) := by decide +kernel
theorem dX11_stop_53 : decode cX11_stop 53 = .ok (.bipush 99, 2) := by decide +kernel
theorem dX11_stop_55 : decode cX11_stop 55 = .ok (.if_icmp .gt 48, 3) := by decide +kernel
theorem dX11_stop_58 : decode cX11_stop 58 = .ok (.iconst 0, 1) := by decide +kernel
theorem dX11_stop_59 : decode cX11_stop 59 = .ok (.aload_n 0, 1) := by decide +kernel
theorem dX11_stop_60 : decode cX11_stop 60 = .ok (.getfield 12, 3) := by decide +kernel
theorem dX11_stop_63 : decode cX11_stop 63 = .ok (.getfield 93, 3) := by decide +kernel
theorem dX11_stop_66 : decode cX11_stop 66 = .ok (.iload_n 1, 1) := by decide +kernel
theorem dX11_stop_67 : decode cX11_stop 67 = .ok (.aaload, 1) := by decide +kernel
theorem dX11_stop_68 : decode cX11_stop 68 = .ok (.getfield 122, 3) := by decide +kernel
theorem dX11_stop_71 : decode cX11_stop 71 = .ok (.iload 5, 2) := by decide +kernel
theorem dX11_stop_73 : decode cX11_stop 73 = .ok (.iload 4, 2) := by decide +kernel
theorem dX11_stop_75 : decode cX11_stop 75 = .ok (.imul, 1) := by decide +kernel
theorem dX11_stop_76 : decode cX11_stop 76 = .ok (.isub, 1) := by decide +kernel
theorem dX11_stop_77 : decode cX11_stop 77 = .ok (.invokestatic 300, 3) := by decide +kernel
theorem dX11_stop_80 : decode cX11_stop 80 = .ok (.istore 6, 2) := by decide +kernel
theorem dX11_stop_82 : decode cX11_stop 82 = .ok (.iload 6, 2) := by decide +kernel
theorem dX11_stop_84 : decode cX11_stop 84 = .ok (.iload_n 3, 1) := by decide +kernel
theorem dX11_stop_85 : decode cX11_stop 85 = .ok (.imul, 1) := by decide +kernel
theorem dX11_stop_86 : decode cX11_stop 86 = .ok (.sipush 1000, 3) := by decide +kernel
theorem dX11_stop_89 : decode cX11_stop 89 = .ok (.idiv, 1) := by decide +kernel
theorem dX11_stop_90 : decode cX11_stop 90 = .ok (.iload_n 2, 1) := by decide +kernel
theorem dX11_stop_91 : decode cX11_stop 91 = .ok (.if_icmp .ge 6, 3) := by decide +kernel
theorem dX11_stop_94 : decode cX11_stop 94 = .ok (.iload 5, 2) := by decide +kernel
theorem dX11_stop_96 : decode cX11_stop 96 = .ok (.ireturn, 1) := by decide +kernel
theorem dX11_stop_97 : decode cX11_stop 97 = .ok (.iinc 5 1, 3) := by decide +kernel
theorem dX11_stop_100 : decode cX11_stop 100 = .ok (.goto (-49), 3) := by decide +kernel
theorem dX11_stop_103 : decode cX11_stop 103 = .ok (.iconst (-1), 1) := by decide +kernel
theorem dX11_stop_104 : decode cX11_stop 104 = .ok (.ireturn, 1) := by decide +kernel
set_option maxHeartbeats 4000000 in
set_option maxRecDepth 100000 in
theorem c_X11_stop (l : Launch) (D : va_G) (tys : List (ClassId × FieldType)) (base : Nat) (G : iv_G) (h0 : Nat) (g_h0 : Nat → Int32) (r_h0 : Nat → Nat) (a_h0 : G h0 = some (11, g_h0, r_h0)) (x_0 : Int32) (i_x_0 : iv_R (-2147483648) 2147483647 x_0) (x_1 : Int32) (i_x_1 : iv_R (-2147483648) 2147483647 x_1) : Met l yX11_stop (Cond.code yX11_stop cX11_stop 7 (some .int) :: iv_W0) ({ frames := 6, cells := 0, slots := 0, locals := 155 }) (iv_Pc iv_sh D classes tys base G [.ref h0, .int x_0, .int x_1]) (iv_Qi iv_sh D classes tys base (fun v G' => iv_Md [28, 30] G G' ∧ iv_R (-1) 99 v)) 0 0 (iv_A base) := by
  refine iv_head (by decide) (Nat.le_of_ble_eq_true rfl) ?_
  intro p e s m args below meth c ls X hr hlocks hname hB hl
  have X := X
  have hx := X.1.1
  have hb := X.1.2.1
  have hM : iv_Md [28, 30] G G := iv_Md.rf
  have hl : lv_has ls 7 [(0, .ref h0), (1, .int x_0), (2, .int x_1)] := hl
  refine lv_aload_n hx hb dX11_stop_0 rfl (lv_at hl 0 rfl) ?_
  refine iv_getr X ft_X11 hB a_h0 sh_11 0 (by decide) rfl k_fl_X11_12 dX11_stop_1 (fun b1 g_b1 r_b1 e_b1 a_b1 => ?_)
  refine lv_iload_n hx hb dX11_stop_4 rfl (lv_at hl 1 rfl) ?_
  refine iv_cVi X k_good k_mf_X5_hasBell k_im_X5_hasBell k_sel_X5_hasBell k_ml_X11_119 ft_X5 hB a_b1 sh_5 (As := [.int x_0]) (c_X5_hasBell l D tys base G b1 g_b1 r_b1 a_b1 x_0 i_x_0) ⟨rfl, rfl⟩ ⟨Nat.le_of_ble_eq_true rfl, Nat.le_of_ble_eq_true rfl⟩ ⟨Nat.le_of_ble_eq_true rfl, Nat.le_of_ble_eq_true rfl⟩ rfl rfl hl.1 (Nat.le_of_ble_eq_true rfl) dX11_stop_5 (fun x2 G9 H locs hq hB => ?_)
  obtain ⟨rfl, i_x2, hp3⟩ := hq
  refine lv_if_eq (tgt := 21) hx hb dX11_stop_8 (by decide) (fun c4 => ?_) (fun c4 => ?_)
  · skip
    have i4_x2 : iv_R 0 0 x2 := (i_x2.cutHi (n := 0) (iv_eq_r c4 q_0).2)
    refine lv_iconst (v := (-1)) hx hb dX11_stop_21 (by decide) ?_
    exact iv_iret X hr hlocks hB ⟨hM, (q_n1.wk (by decide))⟩ dX11_stop_22
  · skip
    have i5_x2 : iv_R 1 1 x2 := iv_ne_lo c4 i_x2 q_0 (by decide)
    have i6_x_0 : iv_R 0 9 x_0 := ((i_x_0.cutLo (n := 0) (hp3 c4).1).cutHi (n := 9) (hp3 c4).2)
    refine lv_iload_n hx hb dX11_stop_11 rfl (lv_at hl 2 rfl) ?_
    refine lv_iconst (v := 0) hx hb dX11_stop_12 (by decide) ?_
    refine lv_bipush (v := 99) hx hb dX11_stop_13 (by decide) ?_
    refine iv_cSi X k_good k_mf_X11_isWithin k_st_X11_isWithin k_ml_X11_83 hB (As := [.int x_1, .int 0, .int 99]) (c_X11_isWithin l D tys base G x_1 i_x_1 0 (q_0.wk (by decide)) 99 (q_99.wk (by decide))) ⟨rfl, rfl⟩ ⟨Nat.le_of_ble_eq_true rfl, Nat.le_of_ble_eq_true rfl⟩ ⟨Nat.le_of_ble_eq_true rfl, Nat.le_of_ble_eq_true rfl⟩ rfl rfl hl.1 (Nat.le_of_ble_eq_true rfl) dX11_stop_15 (fun x8 G9 H locs hq hB => ?_)
    obtain ⟨rfl, i_x8, hp9⟩ := hq
    have k10 : ¬ x8 = 0 → iv_R 0 99 x_1 := fun h => ⟨iv_max i_x_1.1 (Int.le_trans q_0.1 (hp9.1 h).1) (by decide), iv_min i_x_1.2 (Int.le_trans (hp9.1 h).2 q_99.2) (by decide)⟩
    refine lv_if_ne (tgt := 23) hx hb dX11_stop_18 (by decide) (fun c11 => ?_) (fun c11 => ?_)
    · skip
      have i11_x8 : iv_R 1 1 x8 := iv_ne_lo c11 i_x8 q_0 (by decide)
      have i12_x_1 : iv_R 0 99 x_1 := ((i_x_1.cutLo (n := 0) (k10 c11).1).cutHi (n := 99) (k10 c11).2)
      refine lv_aload_n hx hb dX11_stop_23 rfl (lv_at hl 0 rfl) ?_
      refine iv_getr X ft_X11 hB a_h0 sh_11 7 (by decide) rfl k_fl_X11_42 dX11_stop_24 (fun b14 g_b14 r_b14 e_b14 a_b14 => ?_)
      refine lv_iload_n hx hb dX11_stop_27 rfl (lv_at hl 1 rfl) ?_
      refine lv_sipush (v := 132) hx hb dX11_stop_28 (by decide) ?_
      refine iv_cVi X k_good k_mf_X2_comingOf k_im_X2_comingOf k_sel_X2_comingOf k_ml_X11_261 ft_X2 hB a_b14 sh_2 (As := [.int x_0, .int 132]) (c_X2_comingOf l D tys base G b14 g_b14 r_b14 a_b14 x_0 i6_x_0 132 (q_132.wk (by decide))) ⟨rfl, rfl⟩ ⟨Nat.le_of_ble_eq_true rfl, Nat.le_of_ble_eq_true rfl⟩ ⟨Nat.le_of_ble_eq_true rfl, Nat.le_of_ble_eq_true rfl⟩ rfl rfl hl.1 (Nat.le_of_ble_eq_true rfl) dX11_stop_31 (fun x15 G9 H locs hq hB => ?_)
      obtain ⟨hm, i_x15⟩ := hq
      obtain ⟨G16, hG9⟩ : ∃ g, g = G9 := ⟨_, rfl⟩
      rw [← hG9] at hm hB
      have hM := hM.stp hm (by decide)
      have a_h0 := hm.at a_h0 (by decide)
      refine lv_istore_n (lv' := [(3, .int x15), (0, .ref h0), (1, .int x_0), (2, .int x_1)]) hx hb dX11_stop_34 rfl hl (by decide) rfl (fun ls hl => ?_)
      refine lv_aload_n hx hb dX11_stop_35 rfl (lv_at hl 1 rfl) ?_
      refine iv_getr X ft_X11 hB a_h0 sh_11 7 (by decide) rfl k_fl_X11_42 dX11_stop_36 (fun b17 g_b17 r_b17 e_b17 a_b17 => ?_)
      refine lv_iload_n hx hb dX11_stop_39 rfl (lv_at hl 2 rfl) ?_
      refine lv_sipush (v := 133) hx hb dX11_stop_40 (by decide) ?_
      refine iv_cVi X k_good k_mf_X2_comingOf k_im_X2_comingOf k_sel_X2_comingOf k_ml_X11_261 ft_X2 hB a_b17 sh_2 (As := [.int x_0, .int 133]) (c_X2_comingOf l D tys base G16 b17 g_b17 r_b17 a_b17 x_0 i6_x_0 133 (q_133.wk (by decide))) ⟨rfl, rfl⟩ ⟨Nat.le_of_ble_eq_true rfl, Nat.le_of_ble_eq_true rfl⟩ ⟨Nat.le_of_ble_eq_true rfl, Nat.le_of_ble_eq_true rfl⟩ rfl rfl hl.1 (Nat.le_of_ble_eq_true rfl) dX11_stop_43 (fun x18 G9 H locs hq hB => ?_)
      obtain ⟨hm, i_x18⟩ := hq
      obtain ⟨G19, hG9⟩ : ∃ g, g = G9 := ⟨_, rfl⟩
      rw [← hG9] at hm hB
      have hM := hM.stp hm (by decide)
      have a_h0 := hm.at a_h0 (by decide)
      refine lv_istore (lv' := [(4, .int x18), (3, .int x15), (0, .ref h0), (1, .int x_0), (2, .int x_1)]) hx hb dX11_stop_46 hl (by decide) rfl (fun ls hl => ?_)
      refine lv_iconst (v := 0) hx hb dX11_stop_48 (by decide) ?_
      refine lv_istore (lv' := [(5, .int 0), (4, .int x18), (3, .int x15), (0, .ref h0), (1, .int x_0), (2, .int x_1)]) hx hb dX11_stop_49 hl (by decide) rfl (fun ls hl => ?_)
      have L_51 : ∀ (n_51 : Nat) (G21 : iv_G) (hM : iv_Md [28, 30] G G21) (H : Heap) (locs : List Loc) (hB : iv_B iv_sh D classes tys base G21 s.heap H locs) (a_h0 : G21 h0 = some (11, g_h0, r_h0)) (x20 : Int32) (i_x20 : iv_R 0 100 x20) (hn_51 : (101 - x20.toInt).toNat < n_51) (ls : Array Slot) (hl : lv_has ls 7 [(5, .int x20), (4, .int x18), (3, .int x15), (0, .ref h0), (1, .int x_0), (2, .int x_1)]), W p l e ({ frames := 6, cells := 0, slots := 0, locals := 155 } : Room) s m args below meth c H locs 0 0 (MQ below (iv_Qi iv_sh D classes tys base (fun v G' => iv_Md [28, 30] G G' ∧ iv_R (-1) 99 v)) args s 0 0 (iv_A base)) (F0 m 51 ls []) := by
        intro n_51
        induction n_51 with
        | zero => intro G21 hM H locs hB a_h0 x20 i_x20 hn_51 ls hl; exact absurd hn_51 (Nat.not_lt_zero _)
        | succ n_51 ih_51 =>
          intro G21 hM H locs hB a_h0 x20 i_x20 hn_51 ls hl
          refine lv_iload hx hb dX11_stop_51 (lv_at hl 0 rfl) ?_
          refine lv_bipush (v := 99) hx hb dX11_stop_53 (by decide) ?_
          refine lv_icmp_gt (tgt := 103) hx hb dX11_stop_55 (by decide) (fun c22 => ?_) (fun c22 => ?_)
          · skip
            have i22_x20 : iv_R 100 100 x20 := (i_x20.cutLo (n := 100) (iv_lt_l c22 q_99 (by decide)))
            refine lv_iconst (v := (-1)) hx hb dX11_stop_103 (by decide) ?_
            exact iv_iret X hr hlocks hB ⟨hM, (q_n1.wk (by decide))⟩ dX11_stop_104
          · skip
            have i23_x20 : iv_R 0 99 x20 := (i_x20.cutHi (n := 99) (iv_le_r (iv_nlt c22) q_99))
            refine lv_iconst (v := 0) hx hb dX11_stop_58 (by decide) ?_
            refine lv_aload_n hx hb dX11_stop_59 rfl (lv_at hl 3 rfl) ?_
            refine iv_getr X ft_X11 hB a_h0 sh_11 0 (by decide) rfl k_fl_X11_12 dX11_stop_60 (fun b25 g_b25 r_b25 e_b25 a_b25 => ?_)
            refine iv_getr X ft_X5 hB a_b25 sh_5 0 (by decide) rfl k_fl_X11_93 dX11_stop_63 (fun b26 g_b26 r_b26 e_b26 a_b26 => ?_)
            refine lv_iload_n hx hb dX11_stop_66 rfl (lv_at hl 4 rfl) ?_
            refine iv_aald X hB a_b26 sh_40 (iv_in i6_x_0 (by decide)) dX11_stop_67 (fun b27 g_b27 r_b27 e_b27 a_b27 => ?_)
            refine iv_geti X ft_X1 hB a_b27 sh_1 3 (by decide) rfl k_fl_X11_122 dX11_stop_68 (fun x28 e_x28 i_x28 => ?_)
            refine lv_iload hx hb dX11_stop_71 (lv_at hl 0 rfl) ?_
            refine lv_iload hx hb dX11_stop_73 (lv_at hl 1 rfl) ?_
            refine iv_imul hx hb i23_x20 i_x18 (lo := 0) (hi := 99000) (by decide) dX11_stop_75 (fun x29 e_x29 i_x29 => ?_)
            refine lv_isub hx hb dX11_stop_76 ?_
            refine lv_topi (fun x30 e_x30 => ?_)
            have i_x30 := iv_R.all x30
            refine iv_mmax X hl.1 k_mm_X11_300 ⟨Nat.le_of_ble_eq_true rfl, Nat.le_of_ble_eq_true rfl⟩ ⟨Nat.le_of_ble_eq_true rfl, Nat.le_of_ble_eq_true rfl⟩ q_0 i_x30 (lo := 0) (hi := 2147483647) (by decide) dX11_stop_77 (fun x31 e_x31 i_x31 => ?_)
            refine lv_istore (lv' := [(6, .int x31), (5, .int x20), (4, .int x18), (3, .int x15), (0, .ref h0), (1, .int x_0), (2, .int x_1)]) hx hb dX11_stop_80 hl (by decide) rfl (fun ls hl => ?_)
            refine lv_iload hx hb dX11_stop_82 (lv_at hl 0 rfl) ?_
            refine lv_iload_n hx hb dX11_stop_84 rfl (lv_at hl 3 rfl) ?_
            refine lv_imul hx hb dX11_stop_85 ?_
            refine lv_topi (fun x32 e_x32 => ?_)
            have i_x32 := iv_R.all x32
            refine lv_sipush (v := 1000) hx hb dX11_stop_86 (by decide) ?_
            refine lv_idiv hx hb dX11_stop_89 (iv_nz q_1000 (by decide)) ?_
            refine lv_topi (fun x33 e_x33 => ?_)
            have i_x33 := iv_R.all x33
            refine lv_iload_n hx hb dX11_stop_90 rfl (lv_at hl 6 rfl) ?_
            refine lv_icmp_ge (tgt := 97) hx hb dX11_stop_91 (by decide) (fun c34 => ?_) (fun c34 => ?_)
            · skip
              have i34_x33 : iv_R 0 2147483647 x33 := (i_x33.cutLo (n := 0) (iv_le_l c34 i12_x_1))
              refine iv_iinc hx hb i23_x20 (lo := 1) (hi := 100) (by decide) dX11_stop_97 hl (k := 1) rfl (by decide) (fun x36 ls e_x36 i_x36 hl => ?_)
              have hl : lv_has ls 7 [(5, .int x36), (6, .int x31), (4, .int x18), (3, .int x15), (0, .ref h0), (1, .int x_0), (2, .int x_1)] := hl
              refine lv_goto (tgt := 51) hx hb dX11_stop_100 (by decide) ?_
              exact ih_51 G21 hM _ _ hB a_h0 x36 (i_x36.wk (by decide)) (iv_mup (c := 1) i_x20 (by decide) (by decide) (by omega) hn_51) _ (lv_sub hl [0, 2, 3, 4, 5, 6] rfl)
            · skip
              have i36_x33 : iv_R (-2147483648) 98 x33 := (i_x33.cutHi (n := 98) (iv_lt_r (iv_nle c34) i12_x_1 (by decide)))
              refine lv_iload hx hb dX11_stop_94 (lv_at hl 1 rfl) ?_
              exact iv_iret X hr hlocks hB ⟨hM, (i23_x20.wk (by decide))⟩ dX11_stop_96
      exact L_51 _ G19 hM _ _ hB a_h0 0 (q_0.wk (by decide)) (Nat.lt_succ_self _) _ (lv_sub hl [0, 1, 2, 3, 4, 5] rfl)
    · skip
      have i37_x8 : iv_R 0 0 x8 := (i_x8.cutHi (n := 0) (iv_eq_r c11 q_0).2)
      refine lv_iconst (v := (-1)) hx hb dX11_stop_21 (by decide) ?_
      exact iv_iret X hr hlocks hB ⟨hM, (q_n1.wk (by decide))⟩ dX11_stop_22
theorem dX11_swap_0 : decode cX11_swap 0 = .ok (.aload_n 0, 1) := by decide +kernel
theorem dX11_swap_1 : decode cX11_swap 1 = .ok (.getfield 12, 3) := by decide +kernel
theorem dX11_swap_4 : decode cX11_swap 4 = .ok (.getfield 152, 3) := by decide +kernel
theorem dX11_swap_7 : decode cX11_swap 7 = .ok (.iload_n 1, 1) := by decide +kernel
theorem dX11_swap_8 : decode cX11_swap 8 = .ok (.invokevirtual 155, 3) := by decide +kernel
theorem dX11_swap_11 : decode cX11_swap 11 = .ok (.ifCond .eq 22, 3) := by decide +kernel
theorem dX11_swap_14 : decode cX11_swap 14 = .ok (.aload_n 0, 1) := by decide +kernel
theorem dX11_swap_15 : decode cX11_swap 15 = .ok (.getfield 12, 3) := by decide +kernel
theorem dX11_swap_18 : decode cX11_swap 18 = .ok (.getfield 152, 3) := by decide +kernel
theorem dX11_swap_21 : decode cX11_swap 21 = .ok (.iload_n 2, 1) := by decide +kernel
theorem dX11_swap_22 : decode cX11_swap 22 = .ok (.invokevirtual 155, 3) := by decide +kernel
theorem dX11_swap_25 : decode cX11_swap 25 = .ok (.ifCond .eq 8, 3) := by decide +kernel
theorem dX11_swap_28 : decode cX11_swap 28 = .ok (.iload_n 1, 1) := by decide +kernel
theorem dX11_swap_29 : decode cX11_swap 29 = .ok (.iload_n 2, 1) := by decide +kernel
theorem dX11_swap_30 : decode cX11_swap 30 = .ok (.if_icmp .ne 5, 3) := by decide +kernel
theorem dX11_swap_33 : decode cX11_swap 33 = .ok (.iconst 0, 1) := by decide +kernel
theorem dX11_swap_34 : decode cX11_swap 34 = .ok (.ireturn, 1) := by decide +kernel
theorem dX11_swap_35 : decode cX11_swap 35 = .ok (.aload_n 0, 1) := by decide +kernel
theorem dX11_swap_36 : decode cX11_swap 36 = .ok (.getfield 22, 3) := by decide +kernel
theorem dX11_swap_39 : decode cX11_swap 39 = .ok (.aload_n 0, 1) := by decide +kernel
theorem dX11_swap_40 : decode cX11_swap 40 = .ok (.getfield 12, 3) := by decide +kernel
theorem dX11_swap_43 : decode cX11_swap 43 = .ok (.invokevirtual 134, 3) := by decide +kernel
theorem dX11_swap_46 : decode cX11_swap 46 = .ok (.aload_n 0, 1) := by decide +kernel
theorem dX11_swap_47 : decode cX11_swap 47 = .ok (.getfield 12, 3) := by decide +kernel
theorem dX11_swap_50 : decode cX11_swap 50 = .ok (.getfield 152, 3) := by decide +kernel
theorem dX11_swap_53 : decode cX11_swap 53 = .ok (.iload_n 1, 1) := by decide +kernel
theorem dX11_swap_54 : decode cX11_swap 54 = .ok (.iconst 1, 1) := by decide +kernel
theorem dX11_swap_55 : decode cX11_swap 55 = .ok (.invokevirtual 158, 3) := by decide +kernel
theorem dX11_swap_58 : decode cX11_swap 58 = .ok (.istore_n 3, 1) := by decide +kernel
theorem dX11_swap_59 : decode cX11_swap 59 = .ok (.aload_n 0, 1) := by decide +kernel
theorem dX11_swap_60 : decode cX11_swap 60 = .ok (.getfield 12, 3) := by decide +kernel
theorem dX11_swap_63 : decode cX11_swap 63 = .ok (.getfield 152, 3) := by decide +kernel
theorem dX11_swap_66 : decode cX11_swap 66 = .ok (.iload_n 1, 1) := by decide +kernel
theorem dX11_swap_67 : decode cX11_swap 67 = .ok (.iconst 1, 1) := by decide +kernel
theorem dX11_swap_68 : decode cX11_swap 68 = .ok (.aload_n 0, 1) := by decide +kernel
theorem dX11_swap_69 : decode cX11_swap 69 = .ok (.getfield 12, 3) := by decide +kernel
theorem dX11_swap_72 : decode cX11_swap 72 = .ok (.getfield 152, 3) := by decide +kernel
theorem dX11_swap_75 : decode cX11_swap 75 = .ok (.iload_n 2, 1) := by decide +kernel
theorem dX11_swap_76 : decode cX11_swap 76 = .ok (.iconst 1, 1) := by decide +kernel
theorem dX11_swap_77 : decode cX11_swap 77 = .ok (.invokevirtual 158, 3) := by decide +kernel
theorem dX11_swap_80 : decode cX11_swap 80 = .ok (.invokevirtual 162, 3) := by decide +kernel
theorem dX11_swap_83 : decode cX11_swap 83 = .ok (.aload_n 0, 1) := by decide +kernel
theorem dX11_swap_84 : decode cX11_swap 84 = .ok (.getfield 12, 3) := by decide +kernel
theorem dX11_swap_87 : decode cX11_swap 87 = .ok (.getfield 152, 3) := by decide +kernel
theorem dX11_swap_90 : decode cX11_swap 90 = .ok (.iload_n 2, 1) := by decide +kernel
theorem dX11_swap_91 : decode cX11_swap 91 = .ok (.iconst 1, 1) := by decide +kernel
theorem dX11_swap_92 : decode cX11_swap 92 = .ok (.iload_n 3, 1) := by decide +kernel
theorem dX11_swap_93 : decode cX11_swap 93 = .ok (.invokevirtual 162, 3) := by decide +kernel
theorem dX11_swap_96 : decode cX11_swap 96 = .ok (.aload_n 0, 1) := by decide +kernel
theorem dX11_swap_97 : decode cX11_swap 97 = .ok (.getfield 12, 3) := by decide +kernel
theorem dX11_swap_100 : decode cX11_swap 100 = .ok (.getfield 137, 3) := by decide +kernel
theorem dX11_swap_103 : decode cX11_swap 103 = .ok (.aload_n 0, 1) := by decide +kernel
theorem dX11_swap_104 : decode cX11_swap 104 = .ok (.getfield 12, 3) := by decide +kernel
theorem dX11_swap_107 : decode cX11_swap 107 = .ok (.getfield 141, 3) := by decide +kernel
theorem dX11_swap_110 : decode cX11_swap 110 = .ok (.iconst 2, 1) := by decide +kernel
theorem dX11_swap_111 : decode cX11_swap 111 = .ok (.iload_n 1, 1) := by decide +kernel
theorem dX11_swap_112 : decode cX11_swap 112 = .ok (.iload_n 2, 1) := by decide +kernel
theorem dX11_swap_113 : decode cX11_swap 113 = .ok (.invokevirtual 144, 3) := by decide +kernel
theorem dX11_swap_116 : decode cX11_swap 116 = .ok (.iconst 1, 1) := by decide +kernel
theorem dX11_swap_117 : decode cX11_swap 117 = .ok (.ireturn, 1) := by decide +kernel
set_option maxHeartbeats 4000000 in
set_option maxRecDepth 100000 in
theorem c_X11_swap (l : Launch) (D : va_G) (tys : List (ClassId × FieldType)) (base : Nat) (G : iv_G) (h0 : Nat) (g_h0 : Nat → Int32) (r_h0 : Nat → Nat) (a_h0 : G h0 = some (11, g_h0, r_h0)) (x_0 : Int32) (i_x_0 : iv_R (-2147483648) 2147483647 x_0) (x_1 : Int32) (i_x_1 : iv_R (-2147483648) 2147483647 x_1) : Met l yX11_swap (Cond.code yX11_swap cX11_swap 4 (some .boolean) :: iv_W0) ({ frames := 3, cells := 0, slots := 0, locals := 69 }) (iv_Pc iv_sh D classes tys base G [.ref h0, .int x_0, .int x_1]) (iv_Qi iv_sh D classes tys base (fun v G' => iv_Md [6, 13, 22, 23, 27] G G' ∧ iv_R 0 1 v ∧ ((¬ v = 0 → iv_R 0 19 x_0) ∧ (¬ v = 0 → iv_R 0 19 x_1)))) 0 0 (iv_A base) := by
  refine iv_head (by decide) (Nat.le_of_ble_eq_true rfl) ?_
  intro p e s m args below meth c ls X hr hlocks hname hB hl
  have X := X
  have hx := X.1.1
  have hb := X.1.2.1
  have hM : iv_Md [6, 13, 22, 23, 27] G G := iv_Md.rf
  have hl : lv_has ls 4 [(0, .ref h0), (1, .int x_0), (2, .int x_1)] := hl
  refine lv_aload_n hx hb dX11_swap_0 rfl (lv_at hl 0 rfl) ?_
  refine iv_getr X ft_X11 hB a_h0 sh_11 0 (by decide) rfl k_fl_X11_12 dX11_swap_1 (fun b1 g_b1 r_b1 e_b1 a_b1 => ?_)
  refine iv_getr X ft_X5 hB a_b1 sh_5 8 (by decide) rfl k_fl_X11_152 dX11_swap_4 (fun b2 g_b2 r_b2 e_b2 a_b2 => ?_)
  refine lv_iload_n hx hb dX11_swap_7 rfl (lv_at hl 1 rfl) ?_
  refine iv_cVi X k_good k_mf_X8_has k_im_X8_has k_sel_X8_has k_ml_X11_155 ft_X8 hB a_b2 sh_8 (As := [.int x_0]) (c_X8_has_8 l D tys base G b2 g_b2 r_b2 a_b2 x_0 i_x_0) ⟨rfl, rfl⟩ ⟨Nat.le_of_ble_eq_true rfl, Nat.le_of_ble_eq_true rfl⟩ ⟨Nat.le_of_ble_eq_true rfl, Nat.le_of_ble_eq_true rfl⟩ rfl rfl hl.1 (Nat.le_of_ble_eq_true rfl) dX11_swap_8 (fun x3 G9 H locs hq hB => ?_)
  obtain ⟨rfl, i_x3, hp4⟩ := hq
  refine lv_if_eq (tgt := 33) hx hb dX11_swap_11 (by decide) (fun c5 => ?_) (fun c5 => ?_)
  · skip
    have i5_x3 : iv_R 0 0 x3 := (i_x3.cutHi (n := 0) (iv_eq_r c5 q_0).2)
    refine lv_iconst (v := 0) hx hb dX11_swap_33 (by decide) ?_
    exact iv_zret X hr hlocks hB (q_0.wk (by decide)) ⟨hM, (q_0.wk (by decide)), ⟨fun h => absurd (iv_z q_0) h, fun h => absurd (iv_z q_0) h⟩⟩ dX11_swap_34
  · skip
    have i6_x3 : iv_R 1 1 x3 := iv_ne_lo c5 i_x3 q_0 (by decide)
    have i7_x_0 : iv_R 0 19 x_0 := ((i_x_0.cutLo (n := 0) (hp4 c5).1).cutHi (n := 19) (hp4 c5).2)
    refine lv_aload_n hx hb dX11_swap_14 rfl (lv_at hl 0 rfl) ?_
    refine iv_getr0 X ft_X11 hB a_h0 sh_11 0 (by decide) rfl k_fl_X11_12 dX11_swap_15 e_b1 ?_
    refine iv_getr0 X ft_X5 hB a_b1 sh_5 8 (by decide) rfl k_fl_X11_152 dX11_swap_18 e_b2 ?_
    refine lv_iload_n hx hb dX11_swap_21 rfl (lv_at hl 2 rfl) ?_
    refine iv_cVi X k_good k_mf_X8_has k_im_X8_has k_sel_X8_has k_ml_X11_155 ft_X8 hB a_b2 sh_8 (As := [.int x_1]) (c_X8_has_8 l D tys base G b2 g_b2 r_b2 a_b2 x_1 i_x_1) ⟨rfl, rfl⟩ ⟨Nat.le_of_ble_eq_true rfl, Nat.le_of_ble_eq_true rfl⟩ ⟨Nat.le_of_ble_eq_true rfl, Nat.le_of_ble_eq_true rfl⟩ rfl rfl hl.1 (Nat.le_of_ble_eq_true rfl) dX11_swap_22 (fun x9 G9 H locs hq hB => ?_)
    obtain ⟨rfl, i_x9, hp10⟩ := hq
    refine lv_if_eq (tgt := 33) hx hb dX11_swap_25 (by decide) (fun c11 => ?_) (fun c11 => ?_)
    · skip
      have i11_x9 : iv_R 0 0 x9 := (i_x9.cutHi (n := 0) (iv_eq_r c11 q_0).2)
      refine lv_iconst (v := 0) hx hb dX11_swap_33 (by decide) ?_
      exact iv_zret X hr hlocks hB (q_0.wk (by decide)) ⟨hM, (q_0.wk (by decide)), ⟨fun _ => i7_x_0, fun h => absurd (iv_z q_0) h⟩⟩ dX11_swap_34
    · skip
      have i12_x9 : iv_R 1 1 x9 := iv_ne_lo c11 i_x9 q_0 (by decide)
      have i13_x_1 : iv_R 0 19 x_1 := ((i_x_1.cutLo (n := 0) (hp10 c11).1).cutHi (n := 19) (hp10 c11).2)
      refine lv_iload_n hx hb dX11_swap_28 rfl (lv_at hl 1 rfl) ?_
      refine lv_iload_n hx hb dX11_swap_29 rfl (lv_at hl 2 rfl) ?_
      refine lv_icmp_ne (tgt := 35) hx hb dX11_swap_30 (by decide) (fun c15 => ?_) (fun c15 => ?_)
      · skip
        refine lv_aload_n hx hb dX11_swap_35 rfl (lv_at hl 0 rfl) ?_
        refine iv_getr X ft_X11 hB a_h0 sh_11 3 (by decide) rfl k_fl_X11_22 dX11_swap_36 (fun b16 g_b16 r_b16 e_b16 a_b16 => ?_)
        refine lv_aload_n hx hb dX11_swap_39 rfl (lv_at hl 0 rfl) ?_
        refine iv_getr0 X ft_X11 hB a_h0 sh_11 0 (by decide) rfl k_fl_X11_12 dX11_swap_40 e_b1 ?_
        refine iv_cVv X k_good k_mf_X6_keep k_im_X6_keep k_sel_X6_keep k_ml_X11_134 ft_X6 hB a_b16 sh_6 (As := [.ref b1]) (c_X6_keep l D tys base G b16 g_b16 r_b16 a_b16 b1 g_b1 r_b1 a_b1) ⟨rfl, rfl⟩ ⟨Nat.le_of_ble_eq_true rfl, Nat.le_of_ble_eq_true rfl⟩ ⟨Nat.le_of_ble_eq_true rfl, Nat.le_of_ble_eq_true rfl⟩ rfl rfl hl.1 (Nat.le_of_ble_eq_true rfl) dX11_swap_43 (fun G9 H locs hq hB => ?_)
        have hm := hq
        obtain ⟨G17, hG9⟩ : ∃ g, g = G9 := ⟨_, rfl⟩
        rw [← hG9] at hm hB
        have hM := hM.stp hm (by decide)
        have a_h0 := hm.at a_h0 (by decide)
        refine lv_aload_n hx hb dX11_swap_46 rfl (lv_at hl 0 rfl) ?_
        refine iv_getr X ft_X11 hB a_h0 sh_11 0 (by decide) rfl k_fl_X11_12 dX11_swap_47 (fun b18 g_b18 r_b18 e_b18 a_b18 => ?_)
        refine iv_getr X ft_X5 hB a_b18 sh_5 8 (by decide) rfl k_fl_X11_152 dX11_swap_50 (fun b19 g_b19 r_b19 e_b19 a_b19 => ?_)
        refine lv_iload_n hx hb dX11_swap_53 rfl (lv_at hl 1 rfl) ?_
        refine lv_iconst (v := 1) hx hb dX11_swap_54 (by decide) ?_
        refine iv_cVi X k_good k_mf_X8_at k_im_X8_at k_sel_X8_at k_ml_X11_158 ft_X8 hB a_b19 sh_8 (As := [.int x_0, .int 1]) (c_X8_at_8 l D tys base G17 b19 g_b19 r_b19 a_b19 x_0 i7_x_0 1 (q_1.wk (by decide))) ⟨rfl, rfl⟩ ⟨Nat.le_of_ble_eq_true rfl, Nat.le_of_ble_eq_true rfl⟩ ⟨Nat.le_of_ble_eq_true rfl, Nat.le_of_ble_eq_true rfl⟩ rfl rfl hl.1 (Nat.le_of_ble_eq_true rfl) dX11_swap_55 (fun x20 G9 H locs hq hB => ?_)
        obtain ⟨rfl, i_x20⟩ := hq
        refine lv_istore_n (lv' := [(3, .int x20), (0, .ref h0), (1, .int x_0), (2, .int x_1)]) hx hb dX11_swap_58 rfl hl (by decide) rfl (fun ls hl => ?_)
        refine lv_aload_n hx hb dX11_swap_59 rfl (lv_at hl 1 rfl) ?_
        refine iv_getr0 X ft_X11 hB a_h0 sh_11 0 (by decide) rfl k_fl_X11_12 dX11_swap_60 e_b18 ?_
        refine iv_getr0 X ft_X5 hB a_b18 sh_5 8 (by decide) rfl k_fl_X11_152 dX11_swap_63 e_b19 ?_
        refine lv_iload_n hx hb dX11_swap_66 rfl (lv_at hl 2 rfl) ?_
        refine lv_iconst (v := 1) hx hb dX11_swap_67 (by decide) ?_
        refine lv_aload_n hx hb dX11_swap_68 rfl (lv_at hl 1 rfl) ?_
        refine iv_getr0 X ft_X11 hB a_h0 sh_11 0 (by decide) rfl k_fl_X11_12 dX11_swap_69 e_b18 ?_
        refine iv_getr0 X ft_X5 hB a_b18 sh_5 8 (by decide) rfl k_fl_X11_152 dX11_swap_72 e_b19 ?_
        refine lv_iload_n hx hb dX11_swap_75 rfl (lv_at hl 3 rfl) ?_
        refine lv_iconst (v := 1) hx hb dX11_swap_76 (by decide) ?_
        refine iv_cVi X k_good k_mf_X8_at k_im_X8_at k_sel_X8_at k_ml_X11_158 ft_X8 hB a_b19 sh_8 (As := [.int x_1, .int 1]) (c_X8_at_8 l D tys base G17 b19 g_b19 r_b19 a_b19 x_1 i13_x_1 1 (q_1.wk (by decide))) ⟨rfl, rfl⟩ ⟨Nat.le_of_ble_eq_true rfl, Nat.le_of_ble_eq_true rfl⟩ ⟨Nat.le_of_ble_eq_true rfl, Nat.le_of_ble_eq_true rfl⟩ rfl rfl hl.1 (Nat.le_of_ble_eq_true rfl) dX11_swap_77 (fun x21 G9 H locs hq hB => ?_)
        obtain ⟨rfl, i_x21⟩ := hq
        refine iv_cVv X k_good k_mf_X8_change k_im_X8_change k_sel_X8_change k_ml_X11_162 ft_X8 hB a_b19 sh_8 (As := [.int x_0, .int 1, .int x21]) (c_X8_change_8 l D tys base G17 b19 g_b19 r_b19 a_b19 x_0 i7_x_0 1 (q_1.wk (by decide)) x21 i_x21) ⟨rfl, rfl⟩ ⟨Nat.le_of_ble_eq_true rfl, Nat.le_of_ble_eq_true rfl⟩ ⟨Nat.le_of_ble_eq_true rfl, Nat.le_of_ble_eq_true rfl⟩ rfl rfl hl.1 (Nat.le_of_ble_eq_true rfl) dX11_swap_80 (fun G9 H locs hq hB => ?_)
        have hm := hq
        obtain ⟨G22, hG9⟩ : ∃ g, g = G9 := ⟨_, rfl⟩
        rw [← hG9] at hm hB
        have hM := hM.stp hm (by decide)
        have a_h0 := hm.at a_h0 (by decide)
        refine lv_aload_n hx hb dX11_swap_83 rfl (lv_at hl 1 rfl) ?_
        refine iv_getr X ft_X11 hB a_h0 sh_11 0 (by decide) rfl k_fl_X11_12 dX11_swap_84 (fun b23 g_b23 r_b23 e_b23 a_b23 => ?_)
        refine iv_getr X ft_X5 hB a_b23 sh_5 8 (by decide) rfl k_fl_X11_152 dX11_swap_87 (fun b24 g_b24 r_b24 e_b24 a_b24 => ?_)
        refine lv_iload_n hx hb dX11_swap_90 rfl (lv_at hl 3 rfl) ?_
        refine lv_iconst (v := 1) hx hb dX11_swap_91 (by decide) ?_
        refine lv_iload_n hx hb dX11_swap_92 rfl (lv_at hl 0 rfl) ?_
        refine iv_cVv X k_good k_mf_X8_change k_im_X8_change k_sel_X8_change k_ml_X11_162 ft_X8 hB a_b24 sh_8 (As := [.int x_1, .int 1, .int x20]) (c_X8_change_8 l D tys base G22 b24 g_b24 r_b24 a_b24 x_1 i13_x_1 1 (q_1.wk (by decide)) x20 i_x20) ⟨rfl, rfl⟩ ⟨Nat.le_of_ble_eq_true rfl, Nat.le_of_ble_eq_true rfl⟩ ⟨Nat.le_of_ble_eq_true rfl, Nat.le_of_ble_eq_true rfl⟩ rfl rfl hl.1 (Nat.le_of_ble_eq_true rfl) dX11_swap_93 (fun G9 H locs hq hB => ?_)
        have hm := hq
        obtain ⟨G25, hG9⟩ : ∃ g, g = G9 := ⟨_, rfl⟩
        rw [← hG9] at hm hB
        have hM := hM.stp hm (by decide)
        have a_h0 := hm.at a_h0 (by decide)
        refine lv_aload_n hx hb dX11_swap_96 rfl (lv_at hl 1 rfl) ?_
        refine iv_getr X ft_X11 hB a_h0 sh_11 0 (by decide) rfl k_fl_X11_12 dX11_swap_97 (fun b26 g_b26 r_b26 e_b26 a_b26 => ?_)
        refine iv_getr X ft_X5 hB a_b26 sh_5 9 (by decide) rfl k_fl_X11_137 dX11_swap_100 (fun b27 g_b27 r_b27 e_b27 a_b27 => ?_)
        refine lv_aload_n hx hb dX11_swap_103 rfl (lv_at hl 1 rfl) ?_
        refine iv_getr0 X ft_X11 hB a_h0 sh_11 0 (by decide) rfl k_fl_X11_12 dX11_swap_104 e_b26 ?_
        refine iv_geti X ft_X5 hB a_b26 sh_5 6 (by decide) rfl k_fl_X11_141 dX11_swap_107 (fun x28 e_x28 i_x28 => ?_)
        refine lv_iconst (v := 2) hx hb dX11_swap_110 (by decide) ?_
        refine lv_iload_n hx hb dX11_swap_111 rfl (lv_at hl 2 rfl) ?_
        refine lv_iload_n hx hb dX11_swap_112 rfl (lv_at hl 3 rfl) ?_
        refine iv_cVv X k_good k_mf_X8_add k_im_X8_add k_sel_X8_add k_ml_X11_144 ft_X8 hB a_b27 sh_13 (As := [.int x28, .int 2, .int x_0, .int x_1]) (c_X8_add_13 l D tys base G25 b27 g_b27 r_b27 a_b27 x28 i_x28 2 (q_2.wk (by decide)) x_0 i7_x_0 x_1 (i13_x_1.wk (by decide))) ⟨rfl, rfl⟩ ⟨Nat.le_of_ble_eq_true rfl, Nat.le_of_ble_eq_true rfl⟩ ⟨Nat.le_of_ble_eq_true rfl, Nat.le_of_ble_eq_true rfl⟩ rfl rfl hl.1 (Nat.le_of_ble_eq_true rfl) dX11_swap_113 (fun G9 H locs hq hB => ?_)
        have hm := hq
        obtain ⟨G29, hG9⟩ : ∃ g, g = G9 := ⟨_, rfl⟩
        rw [← hG9] at hm hB
        have hM := hM.stp hm (by decide)
        have a_h0 := hm.at a_h0 (by decide)
        refine lv_iconst (v := 1) hx hb dX11_swap_116 (by decide) ?_
        exact iv_zret X hr hlocks hB (q_1.wk (by decide)) ⟨hM, (q_1.wk (by decide)), ⟨fun _ => i7_x_0, fun _ => i13_x_1⟩⟩ dX11_swap_117
      · skip
        refine lv_iconst (v := 0) hx hb dX11_swap_33 (by decide) ?_
        exact iv_zret X hr hlocks hB (q_0.wk (by decide)) ⟨hM, (q_0.wk (by decide)), ⟨fun _ => i7_x_0, fun _ => i13_x_1⟩⟩ dX11_swap_34
set_option maxHeartbeats 4000000 in
set_option maxRecDepth 100000 in
theorem c_X8_change_14 (l : Launch) (D : va_G) (tys : List (ClassId × FieldType)) (base : Nat) (G : iv_G) (h0 : Nat) (g_h0 : Nat → Int32) (r_h0 : Nat → Nat) (a_h0 : G h0 = some (14, g_h0, r_h0)) (x_0 : Int32) (i_x_0 : iv_R 0 11 x_0) (x_1 : Int32) (i_x_1 : iv_R 0 3 x_1) (x_2 : Int32) (i_x_2 : iv_R (-1) 23 x_2) : Met l yX8_change (Cond.code yX8_change cX8_change 4 none :: iv_W0) ({ frames := 1, cells := 0, slots := 0, locals := 22 }) (iv_Pc iv_sh D classes tys base G [.ref h0, .int x_0, .int x_1, .int x_2]) (iv_Qv iv_sh D classes tys base (fun G' => iv_Md [24] G G')) 0 0 (iv_A base) := by
  refine iv_head (by decide) (Nat.le_of_ble_eq_true rfl) ?_
  intro p e s m args below meth c ls X hr hlocks hname hB hl
  have X := X
  have hx := X.1.1
  have hb := X.1.2.1
  have hM : iv_Md [24] G G := iv_Md.rf
  have hl : lv_has ls 4 [(0, .ref h0), (1, .int x_0), (2, .int x_1), (3, .int x_2)] := hl
  refine lv_aload_n hx hb dX8_change_0 rfl (lv_at hl 0 rfl) ?_
  refine lv_iload_n hx hb dX8_change_1 rfl (lv_at hl 1 rfl) ?_
  refine iv_cVi X k_good k_mf_X8_has k_im_X8_has k_sel_X8_has k_ml_X8_22 ft_X8 hB a_h0 sh_14 (As := [.int x_0]) (c_X8_has_14 l D tys base G h0 g_h0 r_h0 a_h0 x_0 i_x_0) ⟨rfl, rfl⟩ ⟨Nat.le_of_ble_eq_true rfl, Nat.le_of_ble_eq_true rfl⟩ ⟨Nat.le_of_ble_eq_true rfl, Nat.le_of_ble_eq_true rfl⟩ rfl rfl hl.1 (Nat.le_of_ble_eq_true rfl) dX8_change_2 (fun x1 G9 H locs hq hB => ?_)
  obtain ⟨rfl, i_x1⟩ := hq
  refine lv_if_eq (tgt := 36) hx hb dX8_change_5 (by decide) (fun c2 => ?_) (fun c2 => ?_)
  · skip
    have i2_x1 : iv_R 0 0 x1 := (i_x1.cutHi (n := 0) (iv_eq_r c2 q_0).2)
    exact iv_vret X hr hlocks hB hM dX8_change_36
  · skip
    have i3_x1 : iv_R 1 1 x1 := iv_ne_lo c2 i_x1 q_0 (by decide)
    refine lv_iload_n hx hb dX8_change_8 rfl (lv_at hl 2 rfl) ?_
    refine lv_iconst (v := 0) hx hb dX8_change_9 (by decide) ?_
    refine lv_aload_n hx hb dX8_change_10 rfl (lv_at hl 0 rfl) ?_
    refine iv_geti X ft_X8 hB a_h0 sh_14 0 (by decide) rfl k_fl_X8_9 dX8_change_11 (fun x5 e_x5 i_x5 => ?_)
    refine lv_iconst (v := 1) hx hb dX8_change_14 (by decide) ?_
    refine iv_isub hx hb i_x5 q_1 (lo := 2) (hi := 2) (by decide) dX8_change_15 (fun x6 e_x6 i_x6 => ?_)
    refine iv_cSNi X k_good k_mf_X11_isWithin k_st_X11_isWithin (k_mn_X8_26 X.2.2) hB (As := [.int x_1, .int 0, .int x6]) (c_X11_isWithin l D tys base G x_1 (i_x_1.wk (by decide)) 0 (q_0.wk (by decide)) x6 (i_x6.wk (by decide))) ⟨rfl, rfl⟩ ⟨Nat.le_of_ble_eq_true rfl, Nat.le_of_ble_eq_true rfl⟩ ⟨Nat.le_of_ble_eq_true rfl, Nat.le_of_ble_eq_true rfl⟩ rfl rfl hl.1 (Nat.le_of_ble_eq_true rfl) dX8_change_16 (fun x7 G9 H locs hq hB => ?_)
    obtain ⟨rfl, i_x7, hp8⟩ := hq
    have k9 : ¬ x7 = 0 → iv_R 0 2 x_1 := fun h => ⟨iv_max i_x_1.1 (Int.le_trans q_0.1 (hp8.1 h).1) (by decide), iv_min i_x_1.2 (Int.le_trans (hp8.1 h).2 i_x6.2) (by decide)⟩
    refine lv_if_eq (tgt := 36) hx hb dX8_change_19 (by decide) (fun c10 => ?_) (fun c10 => ?_)
    · skip
      have i10_x7 : iv_R 0 0 x7 := (i_x7.cutHi (n := 0) (iv_eq_r c10 q_0).2)
      exact iv_vret X hr hlocks hB hM dX8_change_36
    · skip
      have i11_x7 : iv_R 1 1 x7 := iv_ne_lo c10 i_x7 q_0 (by decide)
      have i12_x_1 : iv_R 0 2 x_1 := (i_x_1.cutHi (n := 2) (k9 c10).2)
      refine lv_aload_n hx hb dX8_change_22 rfl (lv_at hl 0 rfl) ?_
      refine iv_getr X ft_X8 hB a_h0 sh_14 1 (by decide) rfl k_fl_X8_15 dX8_change_23 (fun b14 g_b14 r_b14 e_b14 a_b14 => ?_)
      refine lv_iload_n hx hb dX8_change_26 rfl (lv_at hl 1 rfl) ?_
      refine lv_aload_n hx hb dX8_change_27 rfl (lv_at hl 0 rfl) ?_
      refine iv_geti0 X ft_X8 hB a_h0 sh_14 0 (by decide) rfl k_fl_X8_9 dX8_change_28 e_x5 ?_
      refine iv_imul hx hb i_x_0 i_x5 (lo := 0) (hi := 33) (by decide) dX8_change_31 (fun x15 e_x15 i_x15 => ?_)
      refine lv_iload_n hx hb dX8_change_32 rfl (lv_at hl 2 rfl) ?_
      refine iv_iadd hx hb i_x15 i12_x_1 (lo := 0) (hi := 35) (by decide) dX8_change_33 (fun x16 e_x16 i_x16 => ?_)
      refine lv_iload_n hx hb dX8_change_34 rfl (lv_at hl 3 rfl) ?_
      refine iv_ast X hB a_b14 sh_24 (iv_in i_x16 (by decide)) (i_x_2.wk (by decide)) dX8_change_35 (fun H locs hB => ?_)
      have hm := iv_Md.ast (j := x16.toNatClampNeg) (x := x_2) a_b14 rfl (by decide)
      have h9 := iv_up_eq (G := G) (a := b14) (k := (24, upd g_b14 x16.toNatClampNeg x_2, r_b14))
      generalize iv_up G b14 _ = G17 at hB hm h9
      have hM := hM.stp hm (by decide)
      have a_h0 := hm.at a_h0 (by decide)
      exact iv_vret X hr hlocks hB hM dX8_change_36
set_option maxHeartbeats 4000000 in
set_option maxRecDepth 100000 in
theorem c_X8_isFull_14 (l : Launch) (D : va_G) (tys : List (ClassId × FieldType)) (base : Nat) (G : iv_G) (h0 : Nat) (g_h0 : Nat → Int32) (r_h0 : Nat → Nat) (a_h0 : G h0 = some (14, g_h0, r_h0)) : Met l yX8_isFull (Cond.code yX8_isFull cX8_isFull 1 (some .boolean) :: iv_W0) ({ frames := 0, cells := 0, slots := 0, locals := 0 }) (iv_Pc iv_sh D classes tys base G [.ref h0]) (iv_Qi iv_sh D classes tys base (fun v G' => G = G' ∧ iv_R 0 1 v ∧ (v = 0 → iv_R 0 11 (g_h0 2)))) 0 0 (iv_A base) := by
  refine iv_head (by decide) (Nat.le_of_ble_eq_true rfl) ?_
  intro p e s m args below meth c ls X hr hlocks hname hB hl
  have X := X
  have hx := X.1.1
  have hb := X.1.2.1
  have hl : lv_has ls 1 [(0, .ref h0)] := hl
  refine lv_aload_n hx hb dX8_isFull_0 rfl (lv_at hl 0 rfl) ?_
  refine iv_geti X ft_X8 hB a_h0 sh_14 2 (by decide) rfl k_fl_X8_19 dX8_isFull_1 (fun x1 e_x1 i_x1 => ?_)
  refine lv_iconst (v := 1) hx hb dX8_isFull_4 (by decide) ?_
  refine iv_iadd hx hb i_x1 q_1 (lo := 1) (hi := 13) (by decide) dX8_isFull_5 (fun x2 e_x2 i_x2 => ?_)
  refine lv_aload_n hx hb dX8_isFull_6 rfl (lv_at hl 0 rfl) ?_
  refine iv_geti X ft_X8 hB a_h0 sh_14 0 (by decide) rfl k_fl_X8_9 dX8_isFull_7 (fun x3 e_x3 i_x3 => ?_)
  refine iv_imul hx hb i_x2 i_x3 (lo := 3) (hi := 39) (by decide) dX8_isFull_10 (fun x4 e_x4 i_x4 => ?_)
  refine lv_aload_n hx hb dX8_isFull_11 rfl (lv_at hl 0 rfl) ?_
  refine iv_getr X ft_X8 hB a_h0 sh_14 1 (by decide) rfl k_fl_X8_15 dX8_isFull_12 (fun b5 g_b5 r_b5 e_b5 a_b5 => ?_)
  refine iv_alen X hB a_b5 sh_24 (v := 36) (by decide) dX8_isFull_15 ?_
  refine lv_icmp_le (tgt := 23) hx hb dX8_isFull_16 (by decide) (fun c6 => ?_) (fun c6 => ?_)
  · skip
    have i6_x4 : iv_R 3 36 x4 := (i_x4.cutHi (n := 36) (iv_le_r c6 q_36))
    refine lv_iconst (v := 0) hx hb dX8_isFull_23 (by decide) ?_
    exact iv_zret X hr hlocks hB (q_0.wk (by decide)) ⟨rfl, (q_0.wk (by decide)), fun _ => (by have w1 := i_x3.1; have w2 := i_x3.2; have w3 : x3.toInt = 3 := (by omega); rw [w3] at e_x4; have w4 := i6_x4.2; have w5 : x2.toInt = x1.toInt + 1 := e_x2; rw [← e_x1]; exact ⟨i_x1.1, (by omega)⟩)⟩ dX8_isFull_24
  · skip
    have i7_x4 : iv_R 37 39 x4 := (i_x4.cutLo (n := 37) (iv_lt_l (iv_nle c6) q_36 (by decide)))
    refine lv_iconst (v := 1) hx hb dX8_isFull_19 (by decide) ?_
    refine lv_goto (tgt := 24) hx hb dX8_isFull_20 (by decide) ?_
    exact iv_zret X hr hlocks hB (q_1.wk (by decide)) ⟨rfl, (q_1.wk (by decide)), fun h => absurd h (iv_nz q_1 (by decide))⟩ dX8_isFull_24
set_option maxHeartbeats 4000000 in
set_option maxRecDepth 100000 in
theorem c_X8_add_14 (l : Launch) (D : va_G) (tys : List (ClassId × FieldType)) (base : Nat) (G : iv_G) (h0 : Nat) (g_h0 : Nat → Int32) (r_h0 : Nat → Nat) (a_h0 : G h0 = some (14, g_h0, r_h0)) (x_0 : Int32) (i_x_0 : iv_R 0 19 x_0) (x_1 : Int32) (i_x_1 : iv_R 0 23 x_1) (x_2 : Int32) (i_x_2 : iv_R 0 3 x_2) (x_3 : Int32) (i_x_3 : iv_R (-1) (-1) x_3) : Met l yX8_add (Cond.code yX8_add cX8_add 5 none :: iv_W0) ({ frames := 2, cells := 0, slots := 0, locals := 45 }) (iv_Pc iv_sh D classes tys base G [.ref h0, .int x_0, .int x_1, .int x_2, .int x_3]) (iv_Qv iv_sh D classes tys base (fun G' => iv_Md [14, 24] G G')) 0 0 (iv_A base) := by
  refine iv_head (by decide) (Nat.le_of_ble_eq_true rfl) ?_
  intro p e s m args below meth c ls X hr hlocks hname hB hl
  have X := X
  have hx := X.1.1
  have hb := X.1.2.1
  have hM : iv_Md [14, 24] G G := iv_Md.rf
  have hl : lv_has ls 5 [(0, .ref h0), (1, .int x_0), (2, .int x_1), (3, .int x_2), (4, .int x_3)] := hl
  refine lv_aload_n hx hb dX8_add_0 rfl (lv_at hl 0 rfl) ?_
  refine iv_cVi X k_good k_mf_X8_isFull k_im_X8_isFull k_sel_X8_isFull k_ml_X8_30 ft_X8 hB a_h0 sh_14 (As := []) (c_X8_isFull_14 l D tys base G h0 g_h0 r_h0 a_h0) ⟨rfl, rfl⟩ ⟨Nat.le_of_ble_eq_true rfl, Nat.le_of_ble_eq_true rfl⟩ ⟨Nat.le_of_ble_eq_true rfl, Nat.le_of_ble_eq_true rfl⟩ rfl rfl hl.1 (Nat.le_of_ble_eq_true rfl) dX8_add_1 (fun x1 G9 H locs hq hB => ?_)
  obtain ⟨rfl, i_x1, gp2⟩ := hq
  refine lv_if_eq (tgt := 8) hx hb dX8_add_4 (by decide) (fun c3 => ?_) (fun c3 => ?_)
  · skip
    have i3_x1 : iv_R 0 0 x1 := (i_x1.cutHi (n := 0) (iv_eq_r c3 q_0).2)
    refine lv_aload_n hx hb dX8_add_8 rfl (lv_at hl 0 rfl) ?_
    refine lv_dup hx hb dX8_add_9 rfl ?_
    refine iv_geti X ft_X8 hB a_h0 sh_14 2 (by decide) rfl k_fl_X8_19 dX8_add_10 (fun x5 e_x5 i_x5 => ?_)
    have i5_x5 : iv_R 0 11 x5 := by rw [e_x5]; exact (gp2 c3)
    refine lv_iconst (v := 1) hx hb dX8_add_13 (by decide) ?_
    refine iv_iadd hx hb i5_x5 q_1 (lo := 1) (hi := 12) (by decide) dX8_add_14 (fun x7 e_x7 i_x7 => ?_)
    refine iv_puti X ft_X8 hB a_h0 sh_14 2 (by decide) rfl rfl k_fl_X8_19 rfl (i_x7.wk (by decide)) rfl rfl dX8_add_15 (fun H locs hB => ?_)
    have hm := iv_Md.put (x := x7) a_h0 (j := 2) (by decide) (by decide)
    have h9 := iv_up_eq (G := G) (a := h0) (k := (14, upd g_h0 2 x7, r_h0))
    generalize iv_up G h0 _ = G8 at hB hm h9
    have hM := hM.stp hm (by decide)
    generalize hgn_g9 : upd g_h0 _ _ = g9 at h9
    have a_h0 := h9
    have e9_g9 : x7 = g9 2 := by rw [← hgn_g9]; simp [upd]
    refine lv_aload_n hx hb dX8_add_18 rfl (lv_at hl 0 rfl) ?_
    refine lv_aload_n hx hb dX8_add_19 rfl (lv_at hl 0 rfl) ?_
    refine iv_geti0 X ft_X8 hB a_h0 sh_14 2 (by decide) rfl k_fl_X8_19 dX8_add_20 e9_g9 ?_
    refine lv_iconst (v := 1) hx hb dX8_add_23 (by decide) ?_
    refine iv_isub hx hb i_x7 q_1 (lo := 0) (hi := 11) (by decide) dX8_add_24 (fun x10 e_x10 i_x10 => ?_)
    refine lv_iconst (v := 0) hx hb dX8_add_25 (by decide) ?_
    refine lv_iload_n hx hb dX8_add_26 rfl (lv_at hl 1 rfl) ?_
    refine iv_cVv X k_good k_mf_X8_change k_im_X8_change k_sel_X8_change k_ml_X8_34 ft_X8 hB a_h0 sh_14 (As := [.int x10, .int 0, .int x_0]) (c_X8_change_14 l D tys base G8 h0 g9 r_h0 a_h0 x10 i_x10 0 (q_0.wk (by decide)) x_0 (i_x_0.wk (by decide))) ⟨rfl, rfl⟩ ⟨Nat.le_of_ble_eq_true rfl, Nat.le_of_ble_eq_true rfl⟩ ⟨Nat.le_of_ble_eq_true rfl, Nat.le_of_ble_eq_true rfl⟩ rfl rfl hl.1 (Nat.le_of_ble_eq_true rfl) dX8_add_27 (fun G9 H locs hq hB => ?_)
    have hm := hq
    obtain ⟨G11, hG9⟩ : ∃ g, g = G9 := ⟨_, rfl⟩
    rw [← hG9] at hm hB
    have hM := hM.stp hm (by decide)
    have a_h0 := hm.at a_h0 (by decide)
    refine lv_aload_n hx hb dX8_add_30 rfl (lv_at hl 0 rfl) ?_
    refine lv_aload_n hx hb dX8_add_31 rfl (lv_at hl 0 rfl) ?_
    refine iv_geti0 X ft_X8 hB a_h0 sh_14 2 (by decide) rfl k_fl_X8_19 dX8_add_32 e9_g9 ?_
    refine lv_iconst (v := 1) hx hb dX8_add_35 (by decide) ?_
    refine iv_isub hx hb i_x7 q_1 (lo := 0) (hi := 11) (by decide) dX8_add_36 (fun x12 e_x12 i_x12 => ?_)
    refine lv_iconst (v := 1) hx hb dX8_add_37 (by decide) ?_
    refine lv_iload_n hx hb dX8_add_38 rfl (lv_at hl 2 rfl) ?_
    refine iv_cVv X k_good k_mf_X8_change k_im_X8_change k_sel_X8_change k_ml_X8_34 ft_X8 hB a_h0 sh_14 (As := [.int x12, .int 1, .int x_1]) (c_X8_change_14 l D tys base G11 h0 g9 r_h0 a_h0 x12 i_x12 1 (q_1.wk (by decide)) x_1 (i_x_1.wk (by decide))) ⟨rfl, rfl⟩ ⟨Nat.le_of_ble_eq_true rfl, Nat.le_of_ble_eq_true rfl⟩ ⟨Nat.le_of_ble_eq_true rfl, Nat.le_of_ble_eq_true rfl⟩ rfl rfl hl.1 (Nat.le_of_ble_eq_true rfl) dX8_add_39 (fun G9 H locs hq hB => ?_)
    have hm := hq
    obtain ⟨G13, hG9⟩ : ∃ g, g = G9 := ⟨_, rfl⟩
    rw [← hG9] at hm hB
    have hM := hM.stp hm (by decide)
    have a_h0 := hm.at a_h0 (by decide)
    refine lv_aload_n hx hb dX8_add_42 rfl (lv_at hl 0 rfl) ?_
    refine lv_aload_n hx hb dX8_add_43 rfl (lv_at hl 0 rfl) ?_
    refine iv_geti0 X ft_X8 hB a_h0 sh_14 2 (by decide) rfl k_fl_X8_19 dX8_add_44 e9_g9 ?_
    refine lv_iconst (v := 1) hx hb dX8_add_47 (by decide) ?_
    refine iv_isub hx hb i_x7 q_1 (lo := 0) (hi := 11) (by decide) dX8_add_48 (fun x14 e_x14 i_x14 => ?_)
    refine lv_iconst (v := 2) hx hb dX8_add_49 (by decide) ?_
    refine lv_iload_n hx hb dX8_add_50 rfl (lv_at hl 3 rfl) ?_
    refine iv_cVv X k_good k_mf_X8_change k_im_X8_change k_sel_X8_change k_ml_X8_34 ft_X8 hB a_h0 sh_14 (As := [.int x14, .int 2, .int x_2]) (c_X8_change_14 l D tys base G13 h0 g9 r_h0 a_h0 x14 i_x14 2 (q_2.wk (by decide)) x_2 (i_x_2.wk (by decide))) ⟨rfl, rfl⟩ ⟨Nat.le_of_ble_eq_true rfl, Nat.le_of_ble_eq_true rfl⟩ ⟨Nat.le_of_ble_eq_true rfl, Nat.le_of_ble_eq_true rfl⟩ rfl rfl hl.1 (Nat.le_of_ble_eq_true rfl) dX8_add_51 (fun G9 H locs hq hB => ?_)
    have hm := hq
    obtain ⟨G15, hG9⟩ : ∃ g, g = G9 := ⟨_, rfl⟩
    rw [← hG9] at hm hB
    have hM := hM.stp hm (by decide)
    have a_h0 := hm.at a_h0 (by decide)
    refine lv_aload_n hx hb dX8_add_54 rfl (lv_at hl 0 rfl) ?_
    refine lv_aload_n hx hb dX8_add_55 rfl (lv_at hl 0 rfl) ?_
    refine iv_geti0 X ft_X8 hB a_h0 sh_14 2 (by decide) rfl k_fl_X8_19 dX8_add_56 e9_g9 ?_
    refine lv_iconst (v := 1) hx hb dX8_add_59 (by decide) ?_
    refine iv_isub hx hb i_x7 q_1 (lo := 0) (hi := 11) (by decide) dX8_add_60 (fun x16 e_x16 i_x16 => ?_)
    refine lv_iconst (v := 3) hx hb dX8_add_61 (by decide) ?_
    refine lv_iload hx hb dX8_add_62 (lv_at hl 4 rfl) ?_
    refine iv_cVv X k_good k_mf_X8_change k_im_X8_change k_sel_X8_change k_ml_X8_34 ft_X8 hB a_h0 sh_14 (As := [.int x16, .int 3, .int x_3]) (c_X8_change_14 l D tys base G15 h0 g9 r_h0 a_h0 x16 i_x16 3 (q_3.wk (by decide)) x_3 (i_x_3.wk (by decide))) ⟨rfl, rfl⟩ ⟨Nat.le_of_ble_eq_true rfl, Nat.le_of_ble_eq_true rfl⟩ ⟨Nat.le_of_ble_eq_true rfl, Nat.le_of_ble_eq_true rfl⟩ rfl rfl hl.1 (Nat.le_of_ble_eq_true rfl) dX8_add_64 (fun G9 H locs hq hB => ?_)
    have hm := hq
    obtain ⟨G17, hG9⟩ : ∃ g, g = G9 := ⟨_, rfl⟩
    rw [← hG9] at hm hB
    have hM := hM.stp hm (by decide)
    have a_h0 := hm.at a_h0 (by decide)
    exact iv_vret X hr hlocks hB hM dX8_add_67
  · skip
    have i17_x1 : iv_R 1 1 x1 := iv_ne_lo c3 i_x1 q_0 (by decide)
    exact iv_vret X hr hlocks hB hM dX8_add_7
theorem dX8_cut_0 : decode cX8_cut 0 = .ok (.iload_n 1, 1) := by decide +kernel
theorem dX8_cut_1 : decode cX8_cut 1 = .ok (.ifCond .lt 16, 3) := by decide +kernel
theorem dX8_cut_4 : decode cX8_cut 4 = .ok (.iload_n 1, 1) := by decide +kernel
theorem dX8_cut_5 : decode cX8_cut 5 = .ok (.aload_n 0, 1) := by decide +kernel
theorem dX8_cut_6 : decode cX8_cut 6 = .ok (.getfield 19, 3) := by decide +kernel
theorem dX8_cut_9 : decode cX8_cut 9 = .ok (.if_icmp .gt 8, 3) := by decide +kernel
theorem dX8_cut_12 : decode cX8_cut 12 = .ok (.aload_n 0, 1) := by decide +kernel
theorem dX8_cut_13 : decode cX8_cut 13 = .ok (.iload_n 1, 1) := by decide +kernel
theorem dX8_cut_14 : decode cX8_cut 14 = .ok (.putfield 19, 3) := by decide +kernel
theorem dX8_cut_17 : decode cX8_cut 17 = .ok (.return_, 1) := by decide +kernel
set_option maxHeartbeats 4000000 in
set_option maxRecDepth 100000 in
theorem c_X8_cut_14 (l : Launch) (D : va_G) (tys : List (ClassId × FieldType)) (base : Nat) (G : iv_G) (h0 : Nat) (g_h0 : Nat → Int32) (r_h0 : Nat → Nat) (a_h0 : G h0 = some (14, g_h0, r_h0)) (x_0 : Int32) (i_x_0 : iv_R 0 0 x_0) : Met l yX8_cut (Cond.code yX8_cut cX8_cut 2 none :: iv_W0) ({ frames := 0, cells := 0, slots := 0, locals := 0 }) (iv_Pc iv_sh D classes tys base G [.ref h0, .int x_0]) (iv_Qv iv_sh D classes tys base (fun G' => iv_Md [14] G G')) 0 0 (iv_A base) := by
  refine iv_head (by decide) (Nat.le_of_ble_eq_true rfl) ?_
  intro p e s m args below meth c ls X hr hlocks hname hB hl
  have X := X
  have hx := X.1.1
  have hb := X.1.2.1
  have hM : iv_Md [14] G G := iv_Md.rf
  have hl : lv_has ls 2 [(0, .ref h0), (1, .int x_0)] := hl
  refine lv_iload_n hx hb dX8_cut_0 rfl (lv_at hl 1 rfl) ?_
  refine lv_if_lt (tgt := 17) hx hb dX8_cut_1 (by decide) (fun c1 => ?_) (fun c1 => ?_)
  · skip
    exact (i_x_0.cutHi (n := (-1)) (iv_lt_r c1 q_0 (by decide))).no (by decide)
  · skip
    refine lv_iload_n hx hb dX8_cut_4 rfl (lv_at hl 1 rfl) ?_
    refine lv_aload_n hx hb dX8_cut_5 rfl (lv_at hl 0 rfl) ?_
    refine iv_geti X ft_X8 hB a_h0 sh_14 2 (by decide) rfl k_fl_X8_19 dX8_cut_6 (fun x2 e_x2 i_x2 => ?_)
    refine lv_icmp_gt (tgt := 17) hx hb dX8_cut_9 (by decide) (fun c3 => ?_) (fun c3 => ?_)
    · skip
      exact (i_x2.cutHi (n := (-1)) (iv_lt_r c3 i_x_0 (by decide))).no (by decide)
    · skip
      refine lv_aload_n hx hb dX8_cut_12 rfl (lv_at hl 0 rfl) ?_
      refine lv_iload_n hx hb dX8_cut_13 rfl (lv_at hl 1 rfl) ?_
      refine iv_puti X ft_X8 hB a_h0 sh_14 2 (by decide) rfl rfl k_fl_X8_19 rfl (i_x_0.wk (by decide)) rfl rfl dX8_cut_14 (fun H locs hB => ?_)
      have hm := iv_Md.put (x := x_0) a_h0 (j := 2) (by decide) (by decide)
      have h9 := iv_up_eq (G := G) (a := h0) (k := (14, upd g_h0 2 x_0, r_h0))
      generalize iv_up G h0 _ = G4 at hB hm h9
      have hM := hM.stp hm (by decide)
      generalize hgn_g5 : upd g_h0 _ _ = g5 at h9
      have a_h0 := h9
      have e9_g5 : x_0 = g5 2 := by rw [← hgn_g5]; simp [upd]
      exact iv_vret X hr hlocks hB hM dX8_cut_17
theorem dX11_turn_0 : decode cX11_turn 0 = .ok (.iload_n 1, 1) := by decide +kernel
theorem dX11_turn_1 : decode cX11_turn 1 = .ok (.iconst (-1), 1) := by decide +kernel
theorem dX11_turn_2 : decode cX11_turn 2 = .ok (.if_icmp .ne 23, 3) := by decide +kernel
theorem dX11_turn_5 : decode cX11_turn 5 = .ok (.aload_n 0, 1) := by decide +kernel
theorem dX11_turn_6 : decode cX11_turn 6 = .ok (.getfield 12, 3) := by decide +kernel
theorem dX11_turn_9 : decode cX11_turn 9 = .ok (.getfield 346, 3) := by decide +kernel
theorem dX11_turn_12 : decode cX11_turn 12 = .ok (.iconst 0, 1) := by decide +kernel
theorem dX11_turn_13 : decode cX11_turn 13 = .ok (.invokevirtual 349, 3) := by decide +kernel
theorem dX11_turn_16 : decode cX11_turn 16 = .ok (.aload_n 0, 1) := by decide +kernel
theorem dX11_turn_17 : decode cX11_turn 17 = .ok (.getfield 22, 3) := by decide +kernel
theorem dX11_turn_20 : decode cX11_turn 20 = .ok (.invokevirtual 76, 3) := by decide +kernel
theorem dX11_turn_23 : decode cX11_turn 23 = .ok (.iconst 0, 1) := by decide +kernel
theorem dX11_turn_24 : decode cX11_turn 24 = .ok (.ireturn, 1) := by decide +kernel
theorem dX11_turn_25 : decode cX11_turn 25 = .ok (.aload_n 0, 1) := by decide +kernel
theorem dX11_turn_26 : decode cX11_turn 26 = .ok (.getfield 12, 3) := by decide +kernel
theorem dX11_turn_29 : decode cX11_turn 29 = .ok (.getfield 152, 3) := by decide +kernel
theorem dX11_turn_32 : decode cX11_turn 32 = .ok (.iload_n 1, 1) := by decide +kernel
theorem dX11_turn_33 : decode cX11_turn 33 = .ok (.invokevirtual 155, 3) := by decide +kernel
theorem dX11_turn_36 : decode cX11_turn 36 = .ok (.ifCond .eq 30, 3) := by decide +kernel
theorem dX11_turn_39 : decode cX11_turn 39 = .ok (.iload_n 2, 1) := by decide +kernel
theorem dX11_turn_40 : decode cX11_turn 40 = .ok (.invokestatic 264, 3) := by decide +kernel
theorem dX11_turn_43 : decode cX11_turn 43 = .ok (.ifCond .eq 23, 3) := by decide +kernel
theorem dX11_turn_46 : decode cX11_turn 46 = .ok (.iload_n 3, 1) := by decide +kernel
theorem dX11_turn_47 : decode cX11_turn 47 = .ok (.invokestatic 79, 3) := by decide +kernel
theorem dX11_turn_50 : decode cX11_turn 50 = .ok (.ifCond .eq 16, 3) := by decide +kernel
theorem dX11_turn_53 : decode cX11_turn 53 = .ok (.aload_n 0, 1) := by decide +kernel
theorem dX11_turn_54 : decode cX11_turn 54 = .ok (.getfield 12, 3) := by decide +kernel
theorem dX11_turn_57 : decode cX11_turn 57 = .ok (.getfield 346, 3) := by decide +kernel
theorem dX11_turn_60 : decode cX11_turn 60 = .ok (.invokevirtual 352, 3) := by decide +kernel
theorem dX11_turn_63 : decode cX11_turn 63 = .ok (.ifCond .eq 5, 3) := by decide +kernel
theorem dX11_turn_66 : decode cX11_turn 66 = .ok (.iconst (-1), 1) := by decide +kernel
theorem dX11_turn_67 : decode cX11_turn 67 = .ok (.ireturn, 1) := by decide +kernel
theorem dX11_turn_68 : decode cX11_turn 68 = .ok (.aload_n 0, 1) := by decide +kernel
theorem dX11_turn_69 : decode cX11_turn 69 = .ok (.getfield 12, 3) := by decide +kernel
theorem dX11_turn_72 : decode cX11_turn 72 = .ok (.getfield 346, 3) := by decide +kernel
theorem dX11_turn_75 : decode cX11_turn 75 = .ok (.iload_n 1, 1) := by decide +kernel
theorem dX11_turn_76 : decode cX11_turn 76 = .ok (.iload_n 2, 1) := by decide +kernel
theorem dX11_turn_77 : decode cX11_turn 77 = .ok (.iload_n 3, 1) := by decide +kernel
theorem dX11_turn_78 : decode cX11_turn 78 = .ok (.iconst (-1), 1) := by decide +kernel
theorem dX11_turn_79 : decode cX11_turn 79 = .ok (.invokevirtual 144, 3) := by decide +kernel
theorem dX11_turn_82 : decode cX11_turn 82 = .ok (.aload_n 0, 1) := by decide +kernel
theorem dX11_turn_83 : decode cX11_turn 83 = .ok (.getfield 22, 3) := by decide +kernel
theorem dX11_turn_86 : decode cX11_turn 86 = .ok (.invokevirtual 76, 3) := by decide +kernel
theorem dX11_turn_89 : decode cX11_turn 89 = .ok (.aload_n 0, 1) := by decide +kernel
theorem dX11_turn_90 : decode cX11_turn 90 = .ok (.getfield 12, 3) := by decide +kernel
theorem dX11_turn_93 : decode cX11_turn 93 = .ok (.getfield 346, 3) := by decide +kernel
theorem dX11_turn_96 : decode cX11_turn 96 = .ok (.getfield 166, 3) := by decide +kernel
theorem dX11_turn_99 : decode cX11_turn 99 = .ok (.ireturn, 1) := by decide +kernel
set_option maxHeartbeats 4000000 in
set_option maxRecDepth 100000 in
theorem c_X11_turn (l : Launch) (D : va_G) (tys : List (ClassId × FieldType)) (base : Nat) (G : iv_G) (h0 : Nat) (g_h0 : Nat → Int32) (r_h0 : Nat → Nat) (a_h0 : G h0 = some (11, g_h0, r_h0)) (x_0 : Int32) (i_x_0 : iv_R (-2147483648) 2147483647 x_0) (x_1 : Int32) (i_x_1 : iv_R (-2147483648) 2147483647 x_1) (x_2 : Int32) (i_x_2 : iv_R (-2147483648) 2147483647 x_2) : Met l yX11_turn (Cond.code yX11_turn cX11_turn 4 (some .int) :: iv_W0) ({ frames := 3, cells := 0, slots := 0, locals := 69 }) (iv_Pc iv_sh D classes tys base G [.ref h0, .int x_0, .int x_1, .int x_2]) (iv_Qi iv_sh D classes tys base (fun v G' => iv_Md [6, 14, 24] G G' ∧ iv_R (-1) 12 v)) 0 0 (iv_A base) := by
  refine iv_head (by decide) (Nat.le_of_ble_eq_true rfl) ?_
  intro p e s m args below meth c ls X hr hlocks hname hB hl
  have X := X
  have hx := X.1.1
  have hb := X.1.2.1
  have hM : iv_Md [6, 14, 24] G G := iv_Md.rf
  have hl : lv_has ls 4 [(0, .ref h0), (1, .int x_0), (2, .int x_1), (3, .int x_2)] := hl
  refine lv_iload_n hx hb dX11_turn_0 rfl (lv_at hl 1 rfl) ?_
  refine lv_iconst (v := (-1)) hx hb dX11_turn_1 (by decide) ?_
  refine lv_icmp_ne (tgt := 25) hx hb dX11_turn_2 (by decide) (fun c1 => ?_) (fun c1 => ?_)
  · skip
    refine lv_aload_n hx hb dX11_turn_25 rfl (lv_at hl 0 rfl) ?_
    refine iv_getr X ft_X11 hB a_h0 sh_11 0 (by decide) rfl k_fl_X11_12 dX11_turn_26 (fun b2 g_b2 r_b2 e_b2 a_b2 => ?_)
    refine iv_getr X ft_X5 hB a_b2 sh_5 8 (by decide) rfl k_fl_X11_152 dX11_turn_29 (fun b3 g_b3 r_b3 e_b3 a_b3 => ?_)
    refine lv_iload_n hx hb dX11_turn_32 rfl (lv_at hl 1 rfl) ?_
    refine iv_cVi X k_good k_mf_X8_has k_im_X8_has k_sel_X8_has k_ml_X11_155 ft_X8 hB a_b3 sh_8 (As := [.int x_0]) (c_X8_has_8 l D tys base G b3 g_b3 r_b3 a_b3 x_0 i_x_0) ⟨rfl, rfl⟩ ⟨Nat.le_of_ble_eq_true rfl, Nat.le_of_ble_eq_true rfl⟩ ⟨Nat.le_of_ble_eq_true rfl, Nat.le_of_ble_eq_true rfl⟩ rfl rfl hl.1 (Nat.le_of_ble_eq_true rfl) dX11_turn_33 (fun x4 G9 H locs hq hB => ?_)
    obtain ⟨rfl, i_x4, hp5⟩ := hq
    refine lv_if_eq (tgt := 66) hx hb dX11_turn_36 (by decide) (fun c6 => ?_) (fun c6 => ?_)
    · skip
      have i6_x4 : iv_R 0 0 x4 := (i_x4.cutHi (n := 0) (iv_eq_r c6 q_0).2)
      refine lv_iconst (v := (-1)) hx hb dX11_turn_66 (by decide) ?_
      exact iv_iret X hr hlocks hB ⟨hM, (q_n1.wk (by decide))⟩ dX11_turn_67
    · skip
      have i7_x4 : iv_R 1 1 x4 := iv_ne_lo c6 i_x4 q_0 (by decide)
      have i8_x_0 : iv_R 0 19 x_0 := ((i_x_0.cutLo (n := 0) (hp5 c6).1).cutHi (n := 19) (hp5 c6).2)
      refine lv_iload_n hx hb dX11_turn_39 rfl (lv_at hl 2 rfl) ?_
      refine iv_cSi X k_good k_mf_X11_isHour k_st_X11_isHour k_ml_X11_264 hB (As := [.int x_1]) (c_X11_isHour l D tys base G x_1 i_x_1) ⟨rfl, rfl⟩ ⟨Nat.le_of_ble_eq_true rfl, Nat.le_of_ble_eq_true rfl⟩ ⟨Nat.le_of_ble_eq_true rfl, Nat.le_of_ble_eq_true rfl⟩ rfl rfl hl.1 (Nat.le_of_ble_eq_true rfl) dX11_turn_40 (fun x10 G9 H locs hq hB => ?_)
      obtain ⟨rfl, i_x10, hp11⟩ := hq
      refine lv_if_eq (tgt := 66) hx hb dX11_turn_43 (by decide) (fun c12 => ?_) (fun c12 => ?_)
      · skip
        have i12_x10 : iv_R 0 0 x10 := (i_x10.cutHi (n := 0) (iv_eq_r c12 q_0).2)
        refine lv_iconst (v := (-1)) hx hb dX11_turn_66 (by decide) ?_
        exact iv_iret X hr hlocks hB ⟨hM, (q_n1.wk (by decide))⟩ dX11_turn_67
      · skip
        have i13_x10 : iv_R 1 1 x10 := iv_ne_lo c12 i_x10 q_0 (by decide)
        have i14_x_1 : iv_R 0 23 x_1 := ((i_x_1.cutLo (n := 0) (hp11 c12).1).cutHi (n := 23) (hp11 c12).2)
        refine lv_iload_n hx hb dX11_turn_46 rfl (lv_at hl 3 rfl) ?_
        refine iv_cSi X k_good k_mf_X11_isTower k_st_X11_isTower k_ml_X11_79 hB (As := [.int x_2]) (c_X11_isTower l D tys base G x_2 i_x_2) ⟨rfl, rfl⟩ ⟨Nat.le_of_ble_eq_true rfl, Nat.le_of_ble_eq_true rfl⟩ ⟨Nat.le_of_ble_eq_true rfl, Nat.le_of_ble_eq_true rfl⟩ rfl rfl hl.1 (Nat.le_of_ble_eq_true rfl) dX11_turn_47 (fun x16 G9 H locs hq hB => ?_)
        obtain ⟨rfl, i_x16, hp17⟩ := hq
        refine lv_if_eq (tgt := 66) hx hb dX11_turn_50 (by decide) (fun c18 => ?_) (fun c18 => ?_)
        · skip
          have i18_x16 : iv_R 0 0 x16 := (i_x16.cutHi (n := 0) (iv_eq_r c18 q_0).2)
          refine lv_iconst (v := (-1)) hx hb dX11_turn_66 (by decide) ?_
          exact iv_iret X hr hlocks hB ⟨hM, (q_n1.wk (by decide))⟩ dX11_turn_67
        · skip
          have i19_x16 : iv_R 1 1 x16 := iv_ne_lo c18 i_x16 q_0 (by decide)
          have i20_x_2 : iv_R 0 3 x_2 := ((i_x_2.cutLo (n := 0) (hp17 c18).1).cutHi (n := 3) (hp17 c18).2)
          refine lv_aload_n hx hb dX11_turn_53 rfl (lv_at hl 0 rfl) ?_
          refine iv_getr0 X ft_X11 hB a_h0 sh_11 0 (by decide) rfl k_fl_X11_12 dX11_turn_54 e_b2 ?_
          refine iv_getr X ft_X5 hB a_b2 sh_5 10 (by decide) rfl k_fl_X11_346 dX11_turn_57 (fun b22 g_b22 r_b22 e_b22 a_b22 => ?_)
          refine iv_cVi X k_good k_mf_X8_isFull k_im_X8_isFull k_sel_X8_isFull k_ml_X11_352 ft_X8 hB a_b22 sh_14 (As := []) (c_X8_isFull_14 l D tys base G b22 g_b22 r_b22 a_b22) ⟨rfl, rfl⟩ ⟨Nat.le_of_ble_eq_true rfl, Nat.le_of_ble_eq_true rfl⟩ ⟨Nat.le_of_ble_eq_true rfl, Nat.le_of_ble_eq_true rfl⟩ rfl rfl hl.1 (Nat.le_of_ble_eq_true rfl) dX11_turn_60 (fun x23 G9 H locs hq hB => ?_)
          obtain ⟨rfl, i_x23, gp24⟩ := hq
          refine lv_if_eq (tgt := 68) hx hb dX11_turn_63 (by decide) (fun c25 => ?_) (fun c25 => ?_)
          · skip
            have i25_x23 : iv_R 0 0 x23 := (i_x23.cutHi (n := 0) (iv_eq_r c25 q_0).2)
            refine lv_aload_n hx hb dX11_turn_68 rfl (lv_at hl 0 rfl) ?_
            refine iv_getr0 X ft_X11 hB a_h0 sh_11 0 (by decide) rfl k_fl_X11_12 dX11_turn_69 e_b2 ?_
            refine iv_getr0 X ft_X5 hB a_b2 sh_5 10 (by decide) rfl k_fl_X11_346 dX11_turn_72 e_b22 ?_
            refine lv_iload_n hx hb dX11_turn_75 rfl (lv_at hl 1 rfl) ?_
            refine lv_iload_n hx hb dX11_turn_76 rfl (lv_at hl 2 rfl) ?_
            refine lv_iload_n hx hb dX11_turn_77 rfl (lv_at hl 3 rfl) ?_
            refine lv_iconst (v := (-1)) hx hb dX11_turn_78 (by decide) ?_
            refine iv_cVv X k_good k_mf_X8_add k_im_X8_add k_sel_X8_add k_ml_X11_144 ft_X8 hB a_b22 sh_14 (As := [.int x_0, .int x_1, .int x_2, .int (-1)]) (c_X8_add_14 l D tys base G b22 g_b22 r_b22 a_b22 x_0 i8_x_0 x_1 i14_x_1 x_2 i20_x_2 (-1) q_n1) ⟨rfl, rfl⟩ ⟨Nat.le_of_ble_eq_true rfl, Nat.le_of_ble_eq_true rfl⟩ ⟨Nat.le_of_ble_eq_true rfl, Nat.le_of_ble_eq_true rfl⟩ rfl rfl hl.1 (Nat.le_of_ble_eq_true rfl) dX11_turn_79 (fun G9 H locs hq hB => ?_)
            have hm := hq
            obtain ⟨G27, hG9⟩ : ∃ g, g = G9 := ⟨_, rfl⟩
            rw [← hG9] at hm hB
            have hM := hM.stp hm (by decide)
            have a_h0 := hm.at a_h0 (by decide)
            refine lv_aload_n hx hb dX11_turn_82 rfl (lv_at hl 0 rfl) ?_
            refine iv_getr X ft_X11 hB a_h0 sh_11 3 (by decide) rfl k_fl_X11_22 dX11_turn_83 (fun b28 g_b28 r_b28 e_b28 a_b28 => ?_)
            refine iv_cVv X k_good k_mf_X6_forget k_im_X6_forget k_sel_X6_forget k_ml_X11_76 ft_X6 hB a_b28 sh_6 (As := []) (c_X6_forget l D tys base G27 b28 g_b28 r_b28 a_b28) ⟨rfl, rfl⟩ ⟨Nat.le_of_ble_eq_true rfl, Nat.le_of_ble_eq_true rfl⟩ ⟨Nat.le_of_ble_eq_true rfl, Nat.le_of_ble_eq_true rfl⟩ rfl rfl hl.1 (Nat.le_of_ble_eq_true rfl) dX11_turn_86 (fun G9 H locs hq hB => ?_)
            have hm := hq
            obtain ⟨G29, hG9⟩ : ∃ g, g = G9 := ⟨_, rfl⟩
            rw [← hG9] at hm hB
            have hM := hM.stp hm (by decide)
            have a_h0 := hm.at a_h0 (by decide)
            refine lv_aload_n hx hb dX11_turn_89 rfl (lv_at hl 0 rfl) ?_
            refine iv_getr X ft_X11 hB a_h0 sh_11 0 (by decide) rfl k_fl_X11_12 dX11_turn_90 (fun b30 g_b30 r_b30 e_b30 a_b30 => ?_)
            refine iv_getr X ft_X5 hB a_b30 sh_5 10 (by decide) rfl k_fl_X11_346 dX11_turn_93 (fun b31 g_b31 r_b31 e_b31 a_b31 => ?_)
            refine iv_geti X ft_X8 hB a_b31 sh_14 2 (by decide) rfl k_fl_X11_166 dX11_turn_96 (fun x32 e_x32 i_x32 => ?_)
            exact iv_iret X hr hlocks hB ⟨hM, (i_x32.wk (by decide))⟩ dX11_turn_99
          · skip
            have i32_x23 : iv_R 1 1 x23 := iv_ne_lo c25 i_x23 q_0 (by decide)
            refine lv_iconst (v := (-1)) hx hb dX11_turn_66 (by decide) ?_
            exact iv_iret X hr hlocks hB ⟨hM, (q_n1.wk (by decide))⟩ dX11_turn_67
  · skip
    have i33_x_0 : iv_R (-1) (-1) x_0 := ((i_x_0.cutLo (n := (-1)) (iv_eq_r c1 q_n1).1).cutHi (n := (-1)) (iv_eq_r c1 q_n1).2)
    refine lv_aload_n hx hb dX11_turn_5 rfl (lv_at hl 0 rfl) ?_
    refine iv_getr X ft_X11 hB a_h0 sh_11 0 (by decide) rfl k_fl_X11_12 dX11_turn_6 (fun b35 g_b35 r_b35 e_b35 a_b35 => ?_)
    refine iv_getr X ft_X5 hB a_b35 sh_5 10 (by decide) rfl k_fl_X11_346 dX11_turn_9 (fun b36 g_b36 r_b36 e_b36 a_b36 => ?_)
    refine lv_iconst (v := 0) hx hb dX11_turn_12 (by decide) ?_
    refine iv_cVv X k_good k_mf_X8_cut k_im_X8_cut k_sel_X8_cut k_ml_X11_349 ft_X8 hB a_b36 sh_14 (As := [.int 0]) (c_X8_cut_14 l D tys base G b36 g_b36 r_b36 a_b36 0 q_0) ⟨rfl, rfl⟩ ⟨Nat.le_of_ble_eq_true rfl, Nat.le_of_ble_eq_true rfl⟩ ⟨Nat.le_of_ble_eq_true rfl, Nat.le_of_ble_eq_true rfl⟩ rfl rfl hl.1 (Nat.le_of_ble_eq_true rfl) dX11_turn_13 (fun G9 H locs hq hB => ?_)
    have hm := hq
    obtain ⟨G37, hG9⟩ : ∃ g, g = G9 := ⟨_, rfl⟩
    rw [← hG9] at hm hB
    have hM := hM.stp hm (by decide)
    have a_h0 := hm.at a_h0 (by decide)
    refine lv_aload_n hx hb dX11_turn_16 rfl (lv_at hl 0 rfl) ?_
    refine iv_getr X ft_X11 hB a_h0 sh_11 3 (by decide) rfl k_fl_X11_22 dX11_turn_17 (fun b38 g_b38 r_b38 e_b38 a_b38 => ?_)
    refine iv_cVv X k_good k_mf_X6_forget k_im_X6_forget k_sel_X6_forget k_ml_X11_76 ft_X6 hB a_b38 sh_6 (As := []) (c_X6_forget l D tys base G37 b38 g_b38 r_b38 a_b38) ⟨rfl, rfl⟩ ⟨Nat.le_of_ble_eq_true rfl, Nat.le_of_ble_eq_true rfl⟩ ⟨Nat.le_of_ble_eq_true rfl, Nat.le_of_ble_eq_true rfl⟩ rfl rfl hl.1 (Nat.le_of_ble_eq_true rfl) dX11_turn_20 (fun G9 H locs hq hB => ?_)
    have hm := hq
    obtain ⟨G39, hG9⟩ : ∃ g, g = G9 := ⟨_, rfl⟩
    rw [← hG9] at hm hB
    have hM := hM.stp hm (by decide)
    have a_h0 := hm.at a_h0 (by decide)
    refine lv_iconst (v := 0) hx hb dX11_turn_23 (by decide) ?_
    exact iv_iret X hr hlocks hB ⟨hM, (q_0.wk (by decide))⟩ dX11_turn_24
set_option maxHeartbeats 4000000 in
set_option maxRecDepth 100000 in
theorem c_X8_cut_13 (l : Launch) (D : va_G) (tys : List (ClassId × FieldType)) (base : Nat) (G : iv_G) (h0 : Nat) (g_h0 : Nat → Int32) (r_h0 : Nat → Nat) (a_h0 : G h0 = some (13, g_h0, r_h0)) (x_0 : Int32) (i_x_0 : iv_R (-2147483648) 2147483647 x_0) : Met l yX8_cut (Cond.code yX8_cut cX8_cut 2 none :: iv_W0) ({ frames := 0, cells := 0, slots := 0, locals := 0 }) (iv_Pc iv_sh D classes tys base G [.ref h0, .int x_0]) (iv_Qv iv_sh D classes tys base (fun G' => iv_Md [13] G G')) 0 0 (iv_A base) := by
  refine iv_head (by decide) (Nat.le_of_ble_eq_true rfl) ?_
  intro p e s m args below meth c ls X hr hlocks hname hB hl
  have X := X
  have hx := X.1.1
  have hb := X.1.2.1
  have hM : iv_Md [13] G G := iv_Md.rf
  have hl : lv_has ls 2 [(0, .ref h0), (1, .int x_0)] := hl
  refine lv_iload_n hx hb dX8_cut_0 rfl (lv_at hl 1 rfl) ?_
  refine lv_if_lt (tgt := 17) hx hb dX8_cut_1 (by decide) (fun c1 => ?_) (fun c1 => ?_)
  · skip
    have i1_x_0 : iv_R (-2147483648) (-1) x_0 := (i_x_0.cutHi (n := (-1)) (iv_lt_r c1 q_0 (by decide)))
    exact iv_vret X hr hlocks hB hM dX8_cut_17
  · skip
    have i2_x_0 : iv_R 0 2147483647 x_0 := (i_x_0.cutLo (n := 0) (iv_le_l (iv_nlt c1) q_0))
    refine lv_iload_n hx hb dX8_cut_4 rfl (lv_at hl 1 rfl) ?_
    refine lv_aload_n hx hb dX8_cut_5 rfl (lv_at hl 0 rfl) ?_
    refine iv_geti X ft_X8 hB a_h0 sh_13 2 (by decide) rfl k_fl_X8_19 dX8_cut_6 (fun x4 e_x4 i_x4 => ?_)
    refine lv_icmp_gt (tgt := 17) hx hb dX8_cut_9 (by decide) (fun c5 => ?_) (fun c5 => ?_)
    · skip
      have i5_x_0 : iv_R 1 2147483647 x_0 := (i2_x_0.cutLo (n := 1) (iv_lt_l c5 i_x4 (by decide)))
      exact iv_vret X hr hlocks hB hM dX8_cut_17
    · skip
      have i6_x_0 : iv_R 0 120 x_0 := (i2_x_0.cutHi (n := 120) (iv_le_r (iv_nlt c5) i_x4))
      refine lv_aload_n hx hb dX8_cut_12 rfl (lv_at hl 0 rfl) ?_
      refine lv_iload_n hx hb dX8_cut_13 rfl (lv_at hl 1 rfl) ?_
      refine iv_puti X ft_X8 hB a_h0 sh_13 2 (by decide) rfl rfl k_fl_X8_19 rfl i6_x_0 rfl rfl dX8_cut_14 (fun H locs hB => ?_)
      have hm := iv_Md.put (x := x_0) a_h0 (j := 2) (by decide) (by decide)
      have h9 := iv_up_eq (G := G) (a := h0) (k := (13, upd g_h0 2 x_0, r_h0))
      generalize iv_up G h0 _ = G8 at hB hm h9
      have hM := hM.stp hm (by decide)
      generalize hgn_g9 : upd g_h0 _ _ = g9 at h9
      have a_h0 := h9
      have e9_g9 : x_0 = g9 2 := by rw [← hgn_g9]; simp [upd]
      exact iv_vret X hr hlocks hB hM dX8_cut_17
set_option maxHeartbeats 4000000 in
set_option maxRecDepth 100000 in
theorem c_X8_cut_8 (l : Launch) (D : va_G) (tys : List (ClassId × FieldType)) (base : Nat) (G : iv_G) (h0 : Nat) (g_h0 : Nat → Int32) (r_h0 : Nat → Nat) (a_h0 : G h0 = some (8, g_h0, r_h0)) (x_0 : Int32) (i_x_0 : iv_R (-2147483648) 2147483647 x_0) : Met l yX8_cut (Cond.code yX8_cut cX8_cut 2 none :: iv_W0) ({ frames := 0, cells := 0, slots := 0, locals := 0 }) (iv_Pc iv_sh D classes tys base G [.ref h0, .int x_0]) (iv_Qv iv_sh D classes tys base (fun G' => iv_Md [8] G G')) 0 0 (iv_A base) := by
  refine iv_head (by decide) (Nat.le_of_ble_eq_true rfl) ?_
  intro p e s m args below meth c ls X hr hlocks hname hB hl
  have X := X
  have hx := X.1.1
  have hb := X.1.2.1
  have hM : iv_Md [8] G G := iv_Md.rf
  have hl : lv_has ls 2 [(0, .ref h0), (1, .int x_0)] := hl
  refine lv_iload_n hx hb dX8_cut_0 rfl (lv_at hl 1 rfl) ?_
  refine lv_if_lt (tgt := 17) hx hb dX8_cut_1 (by decide) (fun c1 => ?_) (fun c1 => ?_)
  · skip
    have i1_x_0 : iv_R (-2147483648) (-1) x_0 := (i_x_0.cutHi (n := (-1)) (iv_lt_r c1 q_0 (by decide)))
    exact iv_vret X hr hlocks hB hM dX8_cut_17
  · skip
    have i2_x_0 : iv_R 0 2147483647 x_0 := (i_x_0.cutLo (n := 0) (iv_le_l (iv_nlt c1) q_0))
    refine lv_iload_n hx hb dX8_cut_4 rfl (lv_at hl 1 rfl) ?_
    refine lv_aload_n hx hb dX8_cut_5 rfl (lv_at hl 0 rfl) ?_
    refine iv_geti X ft_X8 hB a_h0 sh_8 2 (by decide) rfl k_fl_X8_19 dX8_cut_6 (fun x4 e_x4 i_x4 => ?_)
    refine lv_icmp_gt (tgt := 17) hx hb dX8_cut_9 (by decide) (fun c5 => ?_) (fun c5 => ?_)
    · skip
      have i5_x_0 : iv_R 1 2147483647 x_0 := (i2_x_0.cutLo (n := 1) (iv_lt_l c5 i_x4 (by decide)))
      exact iv_vret X hr hlocks hB hM dX8_cut_17
    · skip
      have i6_x_0 : iv_R 0 20 x_0 := (i2_x_0.cutHi (n := 20) (iv_le_r (iv_nlt c5) i_x4))
      refine lv_aload_n hx hb dX8_cut_12 rfl (lv_at hl 0 rfl) ?_
      refine lv_iload_n hx hb dX8_cut_13 rfl (lv_at hl 1 rfl) ?_
      refine iv_puti X ft_X8 hB a_h0 sh_8 2 (by decide) rfl rfl k_fl_X8_19 rfl i6_x_0 rfl rfl dX8_cut_14 (fun H locs hB => ?_)
      have hm := iv_Md.put (x := x_0) a_h0 (j := 2) (by decide) (by decide)
      have h9 := iv_up_eq (G := G) (a := h0) (k := (8, upd g_h0 2 x_0, r_h0))
      generalize iv_up G h0 _ = G8 at hB hm h9
      have hM := hM.stp hm (by decide)
      generalize hgn_g9 : upd g_h0 _ _ = g9 at h9
      have a_h0 := h9
      have e9_g9 : x_0 = g9 2 := by rw [← hgn_g9]; simp [upd]
      exact iv_vret X hr hlocks hB hM dX8_cut_17
theorem dX6_giveBack_0 : decode cX6_giveBack 0 = .ok (.aload_n 0, 1) := by decide +kernel
theorem dX6_giveBack_1 : decode cX6_giveBack 1 = .ok (.getfield 16, 3) := by decide +kernel
theorem dX6_giveBack_4 : decode cX6_giveBack 4 = .ok (.ifCond .ne 5, 3) := by decide +kernel
theorem dX6_giveBack_7 : decode cX6_giveBack 7 = .ok (.iconst 0, 1) := by decide +kernel
theorem dX6_giveBack_8 : decode cX6_giveBack 8 = .ok (.ireturn, 1) := by decide +kernel
theorem dX6_giveBack_9 : decode cX6_giveBack 9 = .ok (.aload_n 0, 1) := by decide +kernel
theorem dX6_giveBack_10 : decode cX6_giveBack 10 = .ok (.getfield 13, 3) := by decide +kernel
theorem dX6_giveBack_13 : decode cX6_giveBack 13 = .ok (.aload_n 0, 1) := by decide +kernel
theorem dX6_giveBack_14 : decode cX6_giveBack 14 = .ok (.getfield 20, 3) := by decide +kernel
theorem dX6_giveBack_17 : decode cX6_giveBack 17 = .ok (.aaload, 1) := by decide +kernel
theorem dX6_giveBack_18 : decode cX6_giveBack 18 = .ok (.astore_n 2, 1) := by decide +kernel
theorem dX6_giveBack_19 : decode cX6_giveBack 19 = .ok (.iconst 0, 1) := by decide +kernel
theorem dX6_giveBack_20 : decode cX6_giveBack 20 = .ok (.istore_n 3, 1) := by decide +kernel
theorem dX6_giveBack_21 : decode cX6_giveBack 21 = .ok (.iload_n 3, 1) := by decide +kernel
theorem dX6_giveBack_22 : decode cX6_giveBack 22 = .ok (.bipush 10, 2) := by decide +kernel
theorem dX6_giveBack_24 : decode cX6_giveBack 24 = .ok (.if_icmp .ge 63, 3) := by decide +kernel
theorem dX6_giveBack_27 : decode cX6_giveBack 27 = .ok (.aload_n 1, 1) := by decide +kernel
theorem dX6_giveBack_28 : decode cX6_giveBack 28 = .ok (.getfield 29, 3) := by decide +kernel
theorem dX6_giveBack_31 : decode cX6_giveBack 31 = .ok (.iload_n 3, 1) := by decide +kernel
theorem dX6_giveBack_32 : decode cX6_giveBack 32 = .ok (.aaload, 1) := by decide +kernel
theorem dX6_giveBack_33 : decode cX6_giveBack 33 = .ok (.astore 4, 2) := by decide +kernel
theorem dX6_giveBack_35 : decode cX6_giveBack 35 = .ok (.aload 4, 2) := by decide +kernel
theorem dX6_giveBack_37 : decode cX6_giveBack 37 = .ok (.aload_n 2, 1) := by decide +kernel
theorem dX6_giveBack_38 : decode cX6_giveBack 38 = .ok (.iload_n 3, 1) := by decide +kernel
theorem dX6_giveBack_39 : decode cX6_giveBack 39 = .ok (.iconst 4, 1) := by decide +kernel
theorem dX6_giveBack_40 : decode cX6_giveBack 40 = .ok (.imul, 1) := by decide +kernel
theorem dX6_giveBack_41 : decode cX6_giveBack 41 = .ok (.iaload, 1) := by decide +kernel
theorem dX6_giveBack_42 : decode cX6_giveBack 42 = .ok (.putfield 35, 3) := by decide +kernel
theorem dX6_giveBack_45 : decode cX6_giveBack 45 = .ok (.aload 4, 2) := by decide +kernel
theorem dX6_giveBack_47 : decode cX6_giveBack 47 = .ok (.aload_n 2, 1) := by decide +kernel
theorem dX6_giveBack_48 : decode cX6_giveBack 48 = .ok (.iload_n 3, 1) := by decide +kernel
theorem dX6_giveBack_49 : decode cX6_giveBack 49 = .ok (.iconst 4, 1) := by decide +kernel
theorem dX6_giveBack_50 : decode cX6_giveBack 50 = .ok (.imul, 1) := by decide +kernel
theorem dX6_giveBack_51 : decode cX6_giveBack 51 = .ok (.iconst 1, 1) := by decide +kernel
theorem dX6_giveBack_52 : decode cX6_giveBack 52 = .ok (.iadd, 1) := by decide +kernel
theorem dX6_giveBack_53 : decode cX6_giveBack 53 = .ok (.iaload, 1) := by decide +kernel
theorem dX6_giveBack_54 : decode cX6_giveBack 54 = .ok (.putfield 40, 3) := by decide +kernel
theorem dX6_giveBack_57 : decode cX6_giveBack 57 = .ok (.aload 4, 2) := by decide +kernel
theorem dX6_giveBack_59 : decode cX6_giveBack 59 = .ok (.aload_n 2, 1) := by decide +kernel
theorem dX6_giveBack_60 : decode cX6_giveBack 60 = .ok (.iload_n 3, 1) := by decide +kernel
theorem dX6_giveBack_61 : decode cX6_giveBack 61 = .ok (.iconst 4, 1) := by decide +kernel
theorem dX6_giveBack_62 : decode cX6_giveBack 62 = .ok (.imul, 1) := by decide +kernel
theorem dX6_giveBack_63 : decode cX6_giveBack 63 = .ok (.iconst 2, 1) := by decide +kernel
theorem dX6_giveBack_64 : decode cX6_giveBack 64 = .ok (.iadd, 1) := by decide +kernel
theorem dX6_giveBack_65 : decode cX6_giveBack 65 = .ok (.iaload, 1) := by decide +kernel
theorem dX6_giveBack_66 : decode cX6_giveBack 66 = .ok (.putfield 43, 3) := by decide +kernel
theorem dX6_giveBack_69 : decode cX6_giveBack 69 = .ok (.aload 4, 2) := by decide +kernel
theorem dX6_giveBack_71 : decode cX6_giveBack 71 = .ok (.aload_n 2, 1) := by decide +kernel
theorem dX6_giveBack_72 : decode cX6_giveBack 72 = .ok (.iload_n 3, 1) := by decide +kernel
theorem dX6_giveBack_73 : decode cX6_giveBack 73 = .ok (.iconst 4, 1) := by decide +kernel
theorem dX6_giveBack_74 : decode cX6_giveBack 74 = .ok (.imul, 1) := by decide +kernel
theorem dX6_giveBack_75 : decode cX6_giveBack 75 = .ok (.iconst 3, 1) := by decide +kernel
theorem dX6_giveBack_76 : decode cX6_giveBack 76 = .ok (.iadd, 1) := by decide +kernel
theorem dX6_giveBack_77 : decode cX6_giveBack 77 = .ok (.iaload, 1) := by decide +kernel
theorem dX6_giveBack_78 : decode cX6_giveBack 78 = .ok (.putfield 46, 3) := by decide +kernel
theorem dX6_giveBack_81 : decode cX6_giveBack 81 = .ok (.iinc 3 1, 3) := by decide +kernel
theorem dX6_giveBack_84 : decode cX6_giveBack 84 = .ok (.goto (-63), 3) := by decide +kernel
theorem dX6_giveBack_87 : decode cX6_giveBack 87 = .ok (.aload_n 1, 1) := by decide +kernel
theorem dX6_giveBack_88 : decode cX6_giveBack 88 = .ok (.getfield 49, 3) := by decide +kernel
theorem dX6_giveBack_91 : decode cX6_giveBack 91 = .ok (.aload_n 2, 1) := by decide +kernel
theorem dX6_giveBack_92 : decode cX6_giveBack 92 = .ok (.bipush 60, 2) := by decide +kernel
theorem dX6_giveBack_94 : decode cX6_giveBack 94 = .ok (.iaload, 1) := by decide +kernel
theorem dX6_giveBack_95 : decode cX6_giveBack 95 = .ok (.invokevirtual 73, 3) := by decide +kernel
theorem dX6_giveBack_98 : decode cX6_giveBack 98 = .ok (.aload_n 1, 1) := by decide +kernel
theorem dX6_giveBack_99 : decode cX6_giveBack 99 = .ok (.getfield 61, 3) := by decide +kernel
theorem dX6_giveBack_102 : decode cX6_giveBack 102 = .ok (.aload_n 2, 1) := by decide +kernel
theorem dX6_giveBack_103 : decode cX6_giveBack 103 = .ok (.bipush 61, 2) := by decide +kernel
theorem dX6_giveBack_105 : decode cX6_giveBack 105 = .ok (.iaload, 1) := by decide +kernel
theorem dX6_giveBack_106 : decode cX6_giveBack 106 = .ok (.invokevirtual 73, 3) := by decide +kernel
theorem dX6_giveBack_109 : decode cX6_giveBack 109 = .ok (.iconst 0, 1) := by decide +kernel
theorem dX6_giveBack_110 : decode cX6_giveBack 110 = .ok (.istore_n 3, 1) := by decide +kernel
theorem dX6_giveBack_111 : decode cX6_giveBack 111 = .ok (.iload_n 3, 1) := by decide +kernel
theorem dX6_giveBack_112 : decode cX6_giveBack 112 = .ok (.bipush 20, 2) := by decide +kernel
theorem dX6_giveBack_114 : decode cX6_giveBack 114 = .ok (.if_icmp .ge 24, 3) := by decide +kernel
theorem dX6_giveBack_117 : decode cX6_giveBack 117 = .ok (.aload_n 1, 1) := by decide +kernel
theorem dX6_giveBack_118 : decode cX6_giveBack 118 = .ok (.getfield 49, 3) := by decide +kernel
theorem dX6_giveBack_121 : decode cX6_giveBack 121 = .ok (.iload_n 3, 1) := by decide +kernel
theorem dX6_giveBack_122 : decode cX6_giveBack 122 = .ok (.iconst 1, 1) := by decide +kernel
theorem dX6_giveBack_123 : decode cX6_giveBack 123 = .ok (.aload_n 2, 1) := by decide +kernel
theorem dX6_giveBack_124 : decode cX6_giveBack 124 = .ok (.bipush 40, 2) := by decide +kernel
theorem dX6_giveBack_126 : decode cX6_giveBack 126 = .ok (.iload_n 3, 1) := by decide +kernel
theorem dX6_giveBack_127 : decode cX6_giveBack 127 = .ok (.iadd, 1) := by decide +kernel
theorem dX6_giveBack_128 : decode cX6_giveBack 128 = .ok (.iaload, 1) := by decide +kernel
theorem dX6_giveBack_129 : decode cX6_giveBack 129 = .ok (.invokevirtual 77, 3) := by decide +kernel
theorem dX6_giveBack_132 : decode cX6_giveBack 132 = .ok (.iinc 3 1, 3) := by decide +kernel
theorem dX6_giveBack_135 : decode cX6_giveBack 135 = .ok (.goto (-24), 3) := by decide +kernel
theorem dX6_giveBack_138 : decode cX6_giveBack 138 = .ok (.aload_n 1, 1) := by decide +kernel
theorem dX6_giveBack_139 : decode cX6_giveBack 139 = .ok (.aload_n 2, 1) := by decide +kernel
theorem dX6_giveBack_140 : decode cX6_giveBack 140 = .ok (.bipush 62, 2) := by decide +kernel
theorem dX6_giveBack_142 : decode cX6_giveBack 142 = .ok (.iaload, 1) := by decide +kernel
theorem dX6_giveBack_143 : decode cX6_giveBack 143 = .ok (.putfield 64, 3) := by decide +kernel
theorem dX6_giveBack_146 : decode cX6_giveBack 146 = .ok (.aload_n 1, 1) := by decide +kernel
theorem dX6_giveBack_147 : decode cX6_giveBack 147 = .ok (.aload_n 2, 1) := by decide +kernel
theorem dX6_giveBack_148 : decode cX6_giveBack 148 = .ok (.bipush 63, 2) := by decide +kernel
theorem dX6_giveBack_150 : decode cX6_giveBack 150 = .ok (.iaload, 1) := by decide +kernel
theorem dX6_giveBack_151 : decode cX6_giveBack 151 = .ok (.putfield 67, 3) := by decide +kernel
theorem dX6_giveBack_154 : decode cX6_giveBack 154 = .ok (.aload_n 1, 1) := by decide +kernel
theorem dX6_giveBack_155 : decode cX6_giveBack 155 = .ok (.aload_n 2, 1) := by decide +kernel
theorem dX6_giveBack_156 : decode cX6_giveBack 156 = .ok (.bipush 64, 2) := by decide +kernel
theorem dX6_giveBack_158 : decode cX6_giveBack 158 = .ok (.iaload, 1) := by decide +kernel
theorem dX6_giveBack_159 : decode cX6_giveBack 159 = .ok (.putfield 70, 3) := by decide +kernel
theorem dX6_giveBack_162 : decode cX6_giveBack 162 = .ok (.aload_n 0, 1) := by decide +kernel
theorem dX6_giveBack_163 : decode cX6_giveBack 163 = .ok (.aload_n 0, 1) := by decide +kernel
theorem dX6_giveBack_164 : decode cX6_giveBack 164 = .ok (.getfield 20, 3) := by decide +kernel
theorem dX6_giveBack_167 : decode cX6_giveBack 167 = .ok (.bipush 6, 2) := by decide +kernel
theorem dX6_giveBack_169 : decode cX6_giveBack 169 = .ok (.iadd, 1) := by decide +kernel
theorem dX6_giveBack_170 : decode cX6_giveBack 170 = .ok (.iconst 1, 1) := by decide +kernel
theorem dX6_giveBack_171 : decode cX6_giveBack 171 = .ok (.isub, 1) := by decide +kernel
theorem dX6_giveBack_172 : decode cX6_giveBack 172 = .ok (.bipush 6, 2) := by decide +kernel
theorem dX6_giveBack_174 : decode cX6_giveBack 174 = .ok (.irem, 1) := by decide +kernel
theorem dX6_giveBack_175 : decode cX6_giveBack 175 = .ok (.putfield 20, 3) := by decide +kernel
theorem dX6_giveBack_178 : decode cX6_giveBack 178 = .ok (.aload_n 0, 1) := by decide +kernel
theorem dX6_giveBack_179 : decode cX6_giveBack 179 = .ok (.dup, 1) := by decide +kernel
theorem dX6_giveBack_180 : decode cX6_giveBack 180 = .ok (.getfield 16, 3) := by decide +kernel
theorem dX6_giveBack_183 : decode cX6_giveBack 183 = .ok (.iconst 1, 1) := by decide +kernel
theorem dX6_giveBack_184 : decode cX6_giveBack 184 = .ok (.isub, 1) := by decide +kernel
theorem dX6_giveBack_185 : decode cX6_giveBack 185 = .ok (.putfield 16, 3) := by decide +kernel
theorem dX6_giveBack_188 : decode cX6_giveBack 188 = .ok (.iconst 1, 1) := by decide +kernel
theorem dX6_giveBack_189 : decode cX6_giveBack 189 = .ok (.ireturn, 1) := by decide +kernel
set_option maxHeartbeats 4000000 in
set_option maxRecDepth 100000 in
theorem c_X6_giveBack (l : Launch) (D : va_G) (tys : List (ClassId × FieldType)) (base : Nat) (G : iv_G) (h0 : Nat) (g_h0 : Nat → Int32) (r_h0 : Nat → Nat) (a_h0 : G h0 = some (6, g_h0, r_h0)) (h1 : Nat) (g_h1 : Nat → Int32) (r_h1 : Nat → Nat) (a_h1 : G h1 = some (5, g_h1, r_h1)) : Met l yX6_giveBack (Cond.code yX6_giveBack cX6_giveBack 5 (some .boolean) :: iv_W0) ({ frames := 2, cells := 0, slots := 0, locals := 45 }) (iv_Pc iv_sh D classes tys base G [.ref h0, .ref h1]) (iv_Qi iv_sh D classes tys base (fun v G' => iv_Md [1, 5, 6, 8, 13, 22] G G' ∧ iv_R 0 1 v)) 0 0 (iv_A base) := by
  refine iv_head (by decide) (Nat.le_of_ble_eq_true rfl) ?_
  intro p e s m args below meth c ls X hr hlocks hname hB hl
  have X := X
  have hx := X.1.1
  have hb := X.1.2.1
  have hM : iv_Md [1, 5, 6, 8, 13, 22] G G := iv_Md.rf
  have hl : lv_has ls 5 [(0, .ref h0), (1, .ref h1)] := hl
  refine lv_aload_n hx hb dX6_giveBack_0 rfl (lv_at hl 0 rfl) ?_
  refine iv_geti X ft_X6 hB a_h0 sh_6 2 (by decide) rfl k_fl_X6_16 dX6_giveBack_1 (fun x1 e_x1 i_x1 => ?_)
  refine lv_if_ne (tgt := 9) hx hb dX6_giveBack_4 (by decide) (fun c2 => ?_) (fun c2 => ?_)
  · skip
    refine lv_aload_n hx hb dX6_giveBack_9 rfl (lv_at hl 0 rfl) ?_
    refine iv_getr X ft_X6 hB a_h0 sh_6 0 (by decide) rfl k_fl_X6_13 dX6_giveBack_10 (fun b3 g_b3 r_b3 e_b3 a_b3 => ?_)
    refine lv_aload_n hx hb dX6_giveBack_13 rfl (lv_at hl 0 rfl) ?_
    refine iv_geti X ft_X6 hB a_h0 sh_6 1 (by decide) rfl k_fl_X6_20 dX6_giveBack_14 (fun x4 e_x4 i_x4 => ?_)
    refine iv_aald X hB a_b3 sh_41 (iv_in i_x4 (by decide)) dX6_giveBack_17 (fun b5 g_b5 r_b5 e_b5 a_b5 => ?_)
    refine lv_astore_n (lv' := [(2, .ref b5), (0, .ref h0), (1, .ref h1)]) hx hb dX6_giveBack_18 rfl hl (by decide) rfl (fun ls hl => ?_)
    refine lv_iconst (v := 0) hx hb dX6_giveBack_19 (by decide) ?_
    refine lv_istore_n (lv' := [(3, .int 0), (2, .ref b5), (0, .ref h0), (1, .ref h1)]) hx hb dX6_giveBack_20 rfl hl (by decide) rfl (fun ls hl => ?_)
    have L_21 : ∀ (n_21 : Nat) (G11 : iv_G) (hM : iv_Md [1, 5, 6, 8, 13, 22] G G11) (H : Heap) (locs : List Loc) (hB : iv_B iv_sh D classes tys base G11 s.heap H locs) (g7 : Nat → Int32) (r8 : Nat → Nat) (a_h0 : G11 h0 = some (6, g7, r8)) (g9 : Nat → Int32) (r10 : Nat → Nat) (a_h1 : G11 h1 = some (5, g9, r10)) (a_b5 : G11 b5 = some (27, g_b5, r_b5)) (x6 : Int32) (i_x6 : iv_R 0 10 x6) (hn_21 : (11 - x6.toInt).toNat < n_21) (ls : Array Slot) (hl : lv_has ls 5 [(3, .int x6), (2, .ref b5), (0, .ref h0), (1, .ref h1)]), W p l e ({ frames := 2, cells := 0, slots := 0, locals := 45 } : Room) s m args below meth c H locs 0 0 (MQ below (iv_Qi iv_sh D classes tys base (fun v G' => iv_Md [1, 5, 6, 8, 13, 22] G G' ∧ iv_R 0 1 v)) args s 0 0 (iv_A base)) (F0 m 21 ls []) := by
      intro n_21
      induction n_21 with
      | zero => intro G11 hM H locs hB g7 r8 a_h0 g9 r10 a_h1 a_b5 x6 i_x6 hn_21 ls hl; exact absurd hn_21 (Nat.not_lt_zero _)
      | succ n_21 ih_21 =>
        intro G11 hM H locs hB g7 r8 a_h0 g9 r10 a_h1 a_b5 x6 i_x6 hn_21 ls hl
        refine lv_iload_n hx hb dX6_giveBack_21 rfl (lv_at hl 0 rfl) ?_
        refine lv_bipush (v := 10) hx hb dX6_giveBack_22 (by decide) ?_
        refine lv_icmp_ge (tgt := 87) hx hb dX6_giveBack_24 (by decide) (fun c12 => ?_) (fun c12 => ?_)
        · skip
          have i12_x6 : iv_R 10 10 x6 := (i_x6.cutLo (n := 10) (iv_le_l c12 q_10))
          refine lv_aload_n hx hb dX6_giveBack_87 rfl (lv_at hl 3 rfl) ?_
          refine iv_getr X ft_X5 hB a_h1 sh_5 8 (by decide) rfl k_fl_X6_49 dX6_giveBack_88 (fun b14 g_b14 r_b14 e_b14 a_b14 => ?_)
          refine lv_aload_n hx hb dX6_giveBack_91 rfl (lv_at hl 1 rfl) ?_
          refine lv_bipush (v := 60) hx hb dX6_giveBack_92 (by decide) ?_
          refine iv_ald X hB a_b5 sh_27 (iv_in q_60 (by decide)) dX6_giveBack_94 (fun x15 e_x15 i_x15 => ?_)
          refine iv_cVv X k_good k_mf_X8_cut k_im_X8_cut k_sel_X8_cut k_ml_X6_73 ft_X8 hB a_b14 sh_8 (As := [.int x15]) (c_X8_cut_8 l D tys base G11 b14 g_b14 r_b14 a_b14 x15 i_x15) ⟨rfl, rfl⟩ ⟨Nat.le_of_ble_eq_true rfl, Nat.le_of_ble_eq_true rfl⟩ ⟨Nat.le_of_ble_eq_true rfl, Nat.le_of_ble_eq_true rfl⟩ rfl rfl hl.1 (Nat.le_of_ble_eq_true rfl) dX6_giveBack_95 (fun G9 H locs hq hB => ?_)
          have hm := hq
          obtain ⟨G16, hG9⟩ : ∃ g, g = G9 := ⟨_, rfl⟩
          rw [← hG9] at hm hB
          have hM := hM.stp hm (by decide)
          have a_h0 := hm.at a_h0 (by decide)
          have a_h1 := hm.at a_h1 (by decide)
          have a_b5 := hm.at a_b5 (by decide)
          refine lv_aload_n hx hb dX6_giveBack_98 rfl (lv_at hl 3 rfl) ?_
          refine iv_getr X ft_X5 hB a_h1 sh_5 9 (by decide) rfl k_fl_X6_61 dX6_giveBack_99 (fun b17 g_b17 r_b17 e_b17 a_b17 => ?_)
          refine lv_aload_n hx hb dX6_giveBack_102 rfl (lv_at hl 1 rfl) ?_
          refine lv_bipush (v := 61) hx hb dX6_giveBack_103 (by decide) ?_
          refine iv_ald X hB a_b5 sh_27 (iv_in q_61 (by decide)) dX6_giveBack_105 (fun x18 e_x18 i_x18 => ?_)
          refine iv_cVv X k_good k_mf_X8_cut k_im_X8_cut k_sel_X8_cut k_ml_X6_73 ft_X8 hB a_b17 sh_13 (As := [.int x18]) (c_X8_cut_13 l D tys base G16 b17 g_b17 r_b17 a_b17 x18 i_x18) ⟨rfl, rfl⟩ ⟨Nat.le_of_ble_eq_true rfl, Nat.le_of_ble_eq_true rfl⟩ ⟨Nat.le_of_ble_eq_true rfl, Nat.le_of_ble_eq_true rfl⟩ rfl rfl hl.1 (Nat.le_of_ble_eq_true rfl) dX6_giveBack_106 (fun G9 H locs hq hB => ?_)
          have hm := hq
          obtain ⟨G19, hG9⟩ : ∃ g, g = G9 := ⟨_, rfl⟩
          rw [← hG9] at hm hB
          have hM := hM.stp hm (by decide)
          have a_h0 := hm.at a_h0 (by decide)
          have a_h1 := hm.at a_h1 (by decide)
          have a_b5 := hm.at a_b5 (by decide)
          refine lv_iconst (v := 0) hx hb dX6_giveBack_109 (by decide) ?_
          refine lv_istore_n (lv' := [(3, .int 0), (2, .ref b5), (0, .ref h0), (1, .ref h1)]) hx hb dX6_giveBack_110 rfl hl (by decide) rfl (fun ls hl => ?_)
          have L_111 : ∀ (n_111 : Nat) (G25 : iv_G) (hM : iv_Md [1, 5, 6, 8, 13, 22] G G25) (H : Heap) (locs : List Loc) (hB : iv_B iv_sh D classes tys base G25 s.heap H locs) (g21 : Nat → Int32) (r22 : Nat → Nat) (a_h0 : G25 h0 = some (6, g21, r22)) (g23 : Nat → Int32) (r24 : Nat → Nat) (a_h1 : G25 h1 = some (5, g23, r24)) (a_b5 : G25 b5 = some (27, g_b5, r_b5)) (x20 : Int32) (i_x20 : iv_R 0 20 x20) (hn_111 : (21 - x20.toInt).toNat < n_111) (ls : Array Slot) (hl : lv_has ls 5 [(3, .int x20), (2, .ref b5), (0, .ref h0), (1, .ref h1)]), W p l e ({ frames := 2, cells := 0, slots := 0, locals := 45 } : Room) s m args below meth c H locs 0 0 (MQ below (iv_Qi iv_sh D classes tys base (fun v G' => iv_Md [1, 5, 6, 8, 13, 22] G G' ∧ iv_R 0 1 v)) args s 0 0 (iv_A base)) (F0 m 111 ls []) := by
            intro n_111
            induction n_111 with
            | zero => intro G25 hM H locs hB g21 r22 a_h0 g23 r24 a_h1 a_b5 x20 i_x20 hn_111 ls hl; exact absurd hn_111 (Nat.not_lt_zero _)
            | succ n_111 ih_111 =>
              intro G25 hM H locs hB g21 r22 a_h0 g23 r24 a_h1 a_b5 x20 i_x20 hn_111 ls hl
              refine lv_iload_n hx hb dX6_giveBack_111 rfl (lv_at hl 0 rfl) ?_
              refine lv_bipush (v := 20) hx hb dX6_giveBack_112 (by decide) ?_
              refine lv_icmp_ge (tgt := 138) hx hb dX6_giveBack_114 (by decide) (fun c26 => ?_) (fun c26 => ?_)
              · skip
                have i26_x20 : iv_R 20 20 x20 := (i_x20.cutLo (n := 20) (iv_le_l c26 q_20))
                refine lv_aload_n hx hb dX6_giveBack_138 rfl (lv_at hl 3 rfl) ?_
                refine lv_aload_n hx hb dX6_giveBack_139 rfl (lv_at hl 1 rfl) ?_
                refine lv_bipush (v := 62) hx hb dX6_giveBack_140 (by decide) ?_
                refine iv_ald X hB a_b5 sh_27 (iv_in q_62 (by decide)) dX6_giveBack_142 (fun x28 e_x28 i_x28 => ?_)
                refine iv_puti X ft_X5 hB a_h1 sh_5 6 (by decide) rfl rfl k_fl_X6_64 rfl i_x28 rfl rfl dX6_giveBack_143 (fun H locs hB => ?_)
                have hm := iv_Md.put (x := x28) a_h1 (j := 6) (by decide) (by decide)
                have h9 := iv_up_eq (G := G25) (a := h1) (k := (5, upd g23 6 x28, r24))
                generalize iv_up G25 h1 _ = G29 at hB hm h9
                have hM := hM.stp hm (by decide)
                generalize hgn_g30 : upd g23 _ _ = g30 at h9
                have a_h0 := hm.at a_h0 (by decide)
                have a_b5 := hm.at a_b5 (by decide)
                have a_h1 := h9
                have e9_g30 : x28 = g30 6 := by rw [← hgn_g30]; simp [upd]
                refine lv_aload_n hx hb dX6_giveBack_146 rfl (lv_at hl 3 rfl) ?_
                refine lv_aload_n hx hb dX6_giveBack_147 rfl (lv_at hl 1 rfl) ?_
                refine lv_bipush (v := 63) hx hb dX6_giveBack_148 (by decide) ?_
                refine iv_ald X hB a_b5 sh_27 (iv_in q_63 (by decide)) dX6_giveBack_150 (fun x31 e_x31 i_x31 => ?_)
                refine iv_puti X ft_X5 hB a_h1 sh_5 4 (by decide) rfl rfl k_fl_X6_67 rfl i_x31 rfl rfl dX6_giveBack_151 (fun H locs hB => ?_)
                have hm := iv_Md.put (x := x31) a_h1 (j := 4) (by decide) (by decide)
                have h9 := iv_up_eq (G := G29) (a := h1) (k := (5, upd g30 4 x31, r24))
                generalize iv_up G29 h1 _ = G32 at hB hm h9
                have hM := hM.stp hm (by decide)
                generalize hgn_g33 : upd g30 _ _ = g33 at h9
                have a_h0 := hm.at a_h0 (by decide)
                have a_b5 := hm.at a_b5 (by decide)
                have a_h1 := h9
                have e34 : x28 = g33 6 := by rw [← hgn_g33]; exact e9_g30
                have e9_g33 : x31 = g33 4 := by rw [← hgn_g33]; simp [upd]
                refine lv_aload_n hx hb dX6_giveBack_154 rfl (lv_at hl 3 rfl) ?_
                refine lv_aload_n hx hb dX6_giveBack_155 rfl (lv_at hl 1 rfl) ?_
                refine lv_bipush (v := 64) hx hb dX6_giveBack_156 (by decide) ?_
                refine iv_ald X hB a_b5 sh_27 (iv_in q_64 (by decide)) dX6_giveBack_158 (fun x35 e_x35 i_x35 => ?_)
                refine iv_puti X ft_X5 hB a_h1 sh_5 7 (by decide) rfl rfl k_fl_X6_70 rfl i_x35 rfl rfl dX6_giveBack_159 (fun H locs hB => ?_)
                have hm := iv_Md.put (x := x35) a_h1 (j := 7) (by decide) (by decide)
                have h9 := iv_up_eq (G := G32) (a := h1) (k := (5, upd g33 7 x35, r24))
                generalize iv_up G32 h1 _ = G36 at hB hm h9
                have hM := hM.stp hm (by decide)
                generalize hgn_g37 : upd g33 _ _ = g37 at h9
                have a_h0 := hm.at a_h0 (by decide)
                have a_b5 := hm.at a_b5 (by decide)
                have a_h1 := h9
                have e38 : x28 = g37 6 := by rw [← hgn_g37]; exact e34
                have e39 : x31 = g37 4 := by rw [← hgn_g37]; exact e9_g33
                have e9_g37 : x35 = g37 7 := by rw [← hgn_g37]; simp [upd]
                refine lv_aload_n hx hb dX6_giveBack_162 rfl (lv_at hl 2 rfl) ?_
                refine lv_aload_n hx hb dX6_giveBack_163 rfl (lv_at hl 2 rfl) ?_
                refine iv_geti X ft_X6 hB a_h0 sh_6 1 (by decide) rfl k_fl_X6_20 dX6_giveBack_164 (fun x40 e_x40 i_x40 => ?_)
                refine lv_bipush (v := 6) hx hb dX6_giveBack_167 (by decide) ?_
                refine iv_iadd hx hb i_x40 q_6 (lo := 6) (hi := 11) (by decide) dX6_giveBack_169 (fun x41 e_x41 i_x41 => ?_)
                refine lv_iconst (v := 1) hx hb dX6_giveBack_170 (by decide) ?_
                refine iv_isub hx hb i_x41 q_1 (lo := 5) (hi := 10) (by decide) dX6_giveBack_171 (fun x42 e_x42 i_x42 => ?_)
                refine lv_bipush (v := 6) hx hb dX6_giveBack_172 (by decide) ?_
                refine iv_iremp hx hb i_x42 q_6 (lo := 0) (hi := 5) (by decide) dX6_giveBack_174 (fun x43 e_x43 i_x43 => ?_)
                refine iv_puti X ft_X6 hB a_h0 sh_6 1 (by decide) rfl rfl k_fl_X6_20 rfl i_x43 rfl rfl dX6_giveBack_175 (fun H locs hB => ?_)
                have hm := iv_Md.put (x := x43) a_h0 (j := 1) (by decide) (by decide)
                have h9 := iv_up_eq (G := G36) (a := h0) (k := (6, upd g21 1 x43, r22))
                generalize iv_up G36 h0 _ = G44 at hB hm h9
                have hM := hM.stp hm (by decide)
                generalize hgn_g45 : upd g21 _ _ = g45 at h9
                have a_b5 := hm.at a_b5 (by decide)
                have a_h1 := hm.at a_h1 (by decide)
                have a_h0 := h9
                have e9_g45 : x43 = g45 1 := by rw [← hgn_g45]; simp [upd]
                refine lv_aload_n hx hb dX6_giveBack_178 rfl (lv_at hl 2 rfl) ?_
                refine lv_dup hx hb dX6_giveBack_179 rfl ?_
                refine iv_geti X ft_X6 hB a_h0 sh_6 2 (by decide) rfl k_fl_X6_16 dX6_giveBack_180 (fun x46 e_x46 i_x46 => ?_)
                refine lv_iconst (v := 1) hx hb dX6_giveBack_183 (by decide) ?_
                refine lv_isub hx hb dX6_giveBack_184 ?_
                refine lv_topi (fun x47 e_x47 => ?_)
                have i_x47 := iv_R.all x47
                refine iv_puti X ft_X6 hB a_h0 sh_6 2 (by decide) rfl rfl k_fl_X6_16 rfl i_x47 rfl rfl dX6_giveBack_185 (fun H locs hB => ?_)
                have hm := iv_Md.put (x := x47) a_h0 (j := 2) (by decide) (by decide)
                have h9 := iv_up_eq (G := G44) (a := h0) (k := (6, upd g45 2 x47, r22))
                generalize iv_up G44 h0 _ = G48 at hB hm h9
                have hM := hM.stp hm (by decide)
                generalize hgn_g49 : upd g45 _ _ = g49 at h9
                have a_b5 := hm.at a_b5 (by decide)
                have a_h1 := hm.at a_h1 (by decide)
                have a_h0 := h9
                have e50 : x43 = g49 1 := by rw [← hgn_g49]; exact e9_g45
                have e9_g49 : x47 = g49 2 := by rw [← hgn_g49]; simp [upd]
                refine lv_iconst (v := 1) hx hb dX6_giveBack_188 (by decide) ?_
                exact iv_zret X hr hlocks hB (q_1.wk (by decide)) ⟨hM, (q_1.wk (by decide))⟩ dX6_giveBack_189
              · skip
                have i50_x20 : iv_R 0 19 x20 := (i_x20.cutHi (n := 19) (iv_lt_r (iv_nle c26) q_20 (by decide)))
                refine lv_aload_n hx hb dX6_giveBack_117 rfl (lv_at hl 3 rfl) ?_
                refine iv_getr X ft_X5 hB a_h1 sh_5 8 (by decide) rfl k_fl_X6_49 dX6_giveBack_118 (fun b52 g_b52 r_b52 e_b52 a_b52 => ?_)
                refine lv_iload_n hx hb dX6_giveBack_121 rfl (lv_at hl 0 rfl) ?_
                refine lv_iconst (v := 1) hx hb dX6_giveBack_122 (by decide) ?_
                refine lv_aload_n hx hb dX6_giveBack_123 rfl (lv_at hl 1 rfl) ?_
                refine lv_bipush (v := 40) hx hb dX6_giveBack_124 (by decide) ?_
                refine lv_iload_n hx hb dX6_giveBack_126 rfl (lv_at hl 0 rfl) ?_
                refine iv_iadd hx hb q_40 i50_x20 (lo := 40) (hi := 59) (by decide) dX6_giveBack_127 (fun x53 e_x53 i_x53 => ?_)
                refine iv_ald X hB a_b5 sh_27 (iv_in i_x53 (by decide)) dX6_giveBack_128 (fun x54 e_x54 i_x54 => ?_)
                refine iv_cVv X k_good k_mf_X8_change k_im_X8_change k_sel_X8_change k_ml_X6_77 ft_X8 hB a_b52 sh_8 (As := [.int x20, .int 1, .int x54]) (c_X8_change_8 l D tys base G25 b52 g_b52 r_b52 a_b52 x20 i50_x20 1 (q_1.wk (by decide)) x54 i_x54) ⟨rfl, rfl⟩ ⟨Nat.le_of_ble_eq_true rfl, Nat.le_of_ble_eq_true rfl⟩ ⟨Nat.le_of_ble_eq_true rfl, Nat.le_of_ble_eq_true rfl⟩ rfl rfl hl.1 (Nat.le_of_ble_eq_true rfl) dX6_giveBack_129 (fun G9 H locs hq hB => ?_)
                have hm := hq
                obtain ⟨G55, hG9⟩ : ∃ g, g = G9 := ⟨_, rfl⟩
                rw [← hG9] at hm hB
                have hM := hM.stp hm (by decide)
                have a_h0 := hm.at a_h0 (by decide)
                have a_h1 := hm.at a_h1 (by decide)
                have a_b5 := hm.at a_b5 (by decide)
                refine iv_iinc hx hb i50_x20 (lo := 1) (hi := 20) (by decide) dX6_giveBack_132 hl (k := 0) rfl (by decide) (fun x56 ls e_x56 i_x56 hl => ?_)
                have hl : lv_has ls 5 [(3, .int x56), (2, .ref b5), (0, .ref h0), (1, .ref h1)] := hl
                refine lv_goto (tgt := 111) hx hb dX6_giveBack_135 (by decide) ?_
                exact ih_111 G55 hM _ _ hB g21 r22 a_h0 g23 r24 a_h1 a_b5 x56 (i_x56.wk (by decide)) (iv_mup (c := 1) i_x20 (by decide) (by decide) (by omega) hn_111) _ (lv_sub hl [0, 1, 2, 3] rfl)
          exact L_111 _ G19 hM _ _ hB g7 r8 a_h0 g9 r10 a_h1 a_b5 0 (q_0.wk (by decide)) (Nat.lt_succ_self _) _ (lv_sub hl [0, 1, 2, 3] rfl)
        · skip
          have i56_x6 : iv_R 0 9 x6 := (i_x6.cutHi (n := 9) (iv_lt_r (iv_nle c12) q_10 (by decide)))
          refine lv_aload_n hx hb dX6_giveBack_27 rfl (lv_at hl 3 rfl) ?_
          refine iv_getr X ft_X5 hB a_h1 sh_5 0 (by decide) rfl k_fl_X6_29 dX6_giveBack_28 (fun b58 g_b58 r_b58 e_b58 a_b58 => ?_)
          refine lv_iload_n hx hb dX6_giveBack_31 rfl (lv_at hl 0 rfl) ?_
          refine iv_aald X hB a_b58 sh_40 (iv_in i56_x6 (by decide)) dX6_giveBack_32 (fun b59 g_b59 r_b59 e_b59 a_b59 => ?_)
          refine lv_astore (lv' := [(4, .ref b59), (3, .int x6), (2, .ref b5), (0, .ref h0), (1, .ref h1)]) hx hb dX6_giveBack_33 hl (by decide) rfl (fun ls hl => ?_)
          refine lv_aload hx hb dX6_giveBack_35 (lv_at hl 0 rfl) ?_
          refine lv_aload_n hx hb dX6_giveBack_37 rfl (lv_at hl 2 rfl) ?_
          refine lv_iload_n hx hb dX6_giveBack_38 rfl (lv_at hl 1 rfl) ?_
          refine lv_iconst (v := 4) hx hb dX6_giveBack_39 (by decide) ?_
          refine iv_imul hx hb i56_x6 q_4 (lo := 0) (hi := 36) (by decide) dX6_giveBack_40 (fun x60 e_x60 i_x60 => ?_)
          refine iv_ald X hB a_b5 sh_27 (iv_in i_x60 (by decide)) dX6_giveBack_41 (fun x61 e_x61 i_x61 => ?_)
          refine iv_puti X ft_X1 hB a_b59 sh_1 3 (by decide) rfl rfl k_fl_X6_35 rfl i_x61 rfl rfl dX6_giveBack_42 (fun H locs hB => ?_)
          have hm := iv_Md.put (x := x61) a_b59 (j := 3) (by decide) (by decide)
          have h9 := iv_up_eq (G := G11) (a := b59) (k := (1, upd g_b59 3 x61, r_b59))
          generalize iv_up G11 b59 _ = G62 at hB hm h9
          have hM := hM.stp hm (by decide)
          generalize hgn_g63 : upd g_b59 _ _ = g63 at h9
          have a_h0 := hm.at a_h0 (by decide)
          have a_h1 := hm.at a_h1 (by decide)
          have a_b5 := hm.at a_b5 (by decide)
          have a_b59 := h9
          have e9_g63 : x61 = g63 3 := by rw [← hgn_g63]; simp [upd]
          refine lv_aload hx hb dX6_giveBack_45 (lv_at hl 0 rfl) ?_
          refine lv_aload_n hx hb dX6_giveBack_47 rfl (lv_at hl 2 rfl) ?_
          refine lv_iload_n hx hb dX6_giveBack_48 rfl (lv_at hl 1 rfl) ?_
          refine lv_iconst (v := 4) hx hb dX6_giveBack_49 (by decide) ?_
          refine iv_imul hx hb i56_x6 q_4 (lo := 0) (hi := 36) (by decide) dX6_giveBack_50 (fun x64 e_x64 i_x64 => ?_)
          refine lv_iconst (v := 1) hx hb dX6_giveBack_51 (by decide) ?_
          refine iv_iadd hx hb i_x64 q_1 (lo := 1) (hi := 37) (by decide) dX6_giveBack_52 (fun x65 e_x65 i_x65 => ?_)
          refine iv_ald X hB a_b5 sh_27 (iv_in i_x65 (by decide)) dX6_giveBack_53 (fun x66 e_x66 i_x66 => ?_)
          refine iv_puti X ft_X1 hB a_b59 sh_1 5 (by decide) rfl rfl k_fl_X6_40 rfl i_x66 rfl rfl dX6_giveBack_54 (fun H locs hB => ?_)
          have hm := iv_Md.put (x := x66) a_b59 (j := 5) (by decide) (by decide)
          have h9 := iv_up_eq (G := G62) (a := b59) (k := (1, upd g63 5 x66, r_b59))
          generalize iv_up G62 b59 _ = G67 at hB hm h9
          have hM := hM.stp hm (by decide)
          generalize hgn_g68 : upd g63 _ _ = g68 at h9
          have a_h0 := hm.at a_h0 (by decide)
          have a_h1 := hm.at a_h1 (by decide)
          have a_b5 := hm.at a_b5 (by decide)
          have a_b59 := h9
          have e69 : x61 = g68 3 := by rw [← hgn_g68]; exact e9_g63
          have e9_g68 : x66 = g68 5 := by rw [← hgn_g68]; simp [upd]
          refine lv_aload hx hb dX6_giveBack_57 (lv_at hl 0 rfl) ?_
          refine lv_aload_n hx hb dX6_giveBack_59 rfl (lv_at hl 2 rfl) ?_
          refine lv_iload_n hx hb dX6_giveBack_60 rfl (lv_at hl 1 rfl) ?_
          refine lv_iconst (v := 4) hx hb dX6_giveBack_61 (by decide) ?_
          refine iv_imul hx hb i56_x6 q_4 (lo := 0) (hi := 36) (by decide) dX6_giveBack_62 (fun x70 e_x70 i_x70 => ?_)
          refine lv_iconst (v := 2) hx hb dX6_giveBack_63 (by decide) ?_
          refine iv_iadd hx hb i_x70 q_2 (lo := 2) (hi := 38) (by decide) dX6_giveBack_64 (fun x71 e_x71 i_x71 => ?_)
          refine iv_ald X hB a_b5 sh_27 (iv_in i_x71 (by decide)) dX6_giveBack_65 (fun x72 e_x72 i_x72 => ?_)
          refine iv_puti X ft_X1 hB a_b59 sh_1 6 (by decide) rfl rfl k_fl_X6_43 rfl i_x72 rfl rfl dX6_giveBack_66 (fun H locs hB => ?_)
          have hm := iv_Md.put (x := x72) a_b59 (j := 6) (by decide) (by decide)
          have h9 := iv_up_eq (G := G67) (a := b59) (k := (1, upd g68 6 x72, r_b59))
          generalize iv_up G67 b59 _ = G73 at hB hm h9
          have hM := hM.stp hm (by decide)
          generalize hgn_g74 : upd g68 _ _ = g74 at h9
          have a_h0 := hm.at a_h0 (by decide)
          have a_h1 := hm.at a_h1 (by decide)
          have a_b5 := hm.at a_b5 (by decide)
          have a_b59 := h9
          have e75 : x61 = g74 3 := by rw [← hgn_g74]; exact e69
          have e76 : x66 = g74 5 := by rw [← hgn_g74]; exact e9_g68
          have e9_g74 : x72 = g74 6 := by rw [← hgn_g74]; simp [upd]
          refine lv_aload hx hb dX6_giveBack_69 (lv_at hl 0 rfl) ?_
          refine lv_aload_n hx hb dX6_giveBack_71 rfl (lv_at hl 2 rfl) ?_
          refine lv_iload_n hx hb dX6_giveBack_72 rfl (lv_at hl 1 rfl) ?_
          refine lv_iconst (v := 4) hx hb dX6_giveBack_73 (by decide) ?_
          refine iv_imul hx hb i56_x6 q_4 (lo := 0) (hi := 36) (by decide) dX6_giveBack_74 (fun x77 e_x77 i_x77 => ?_)
          refine lv_iconst (v := 3) hx hb dX6_giveBack_75 (by decide) ?_
          refine iv_iadd hx hb i_x77 q_3 (lo := 3) (hi := 39) (by decide) dX6_giveBack_76 (fun x78 e_x78 i_x78 => ?_)
          refine iv_ald X hB a_b5 sh_27 (iv_in i_x78 (by decide)) dX6_giveBack_77 (fun x79 e_x79 i_x79 => ?_)
          refine iv_puti X ft_X1 hB a_b59 sh_1 7 (by decide) rfl rfl k_fl_X6_46 rfl i_x79 rfl rfl dX6_giveBack_78 (fun H locs hB => ?_)
          have hm := iv_Md.put (x := x79) a_b59 (j := 7) (by decide) (by decide)
          have h9 := iv_up_eq (G := G73) (a := b59) (k := (1, upd g74 7 x79, r_b59))
          generalize iv_up G73 b59 _ = G80 at hB hm h9
          have hM := hM.stp hm (by decide)
          generalize hgn_g81 : upd g74 _ _ = g81 at h9
          have a_h0 := hm.at a_h0 (by decide)
          have a_h1 := hm.at a_h1 (by decide)
          have a_b5 := hm.at a_b5 (by decide)
          have a_b59 := h9
          have e82 : x61 = g81 3 := by rw [← hgn_g81]; exact e75
          have e83 : x66 = g81 5 := by rw [← hgn_g81]; exact e76
          have e84 : x72 = g81 6 := by rw [← hgn_g81]; exact e9_g74
          have e9_g81 : x79 = g81 7 := by rw [← hgn_g81]; simp [upd]
          refine iv_iinc hx hb i56_x6 (lo := 1) (hi := 10) (by decide) dX6_giveBack_81 hl (k := 1) rfl (by decide) (fun x85 ls e_x85 i_x85 hl => ?_)
          have hl : lv_has ls 5 [(3, .int x85), (4, .ref b59), (2, .ref b5), (0, .ref h0), (1, .ref h1)] := hl
          refine lv_goto (tgt := 21) hx hb dX6_giveBack_84 (by decide) ?_
          exact ih_21 G80 hM _ _ hB g7 r8 a_h0 g9 r10 a_h1 a_b5 x85 (i_x85.wk (by decide)) (iv_mup (c := 1) i_x6 (by decide) (by decide) (by omega) hn_21) _ (lv_sub hl [0, 2, 3, 4] rfl)
    exact L_21 _ G hM _ _ hB g_h0 r_h0 a_h0 g_h1 r_h1 a_h1 a_b5 0 (q_0.wk (by decide)) (Nat.lt_succ_self _) _ (lv_sub hl [0, 1, 2, 3] rfl)
  · skip
    have i85_x1 : iv_R 0 0 x1 := ((i_x1.cutLo (n := 0) (iv_eq_r c2 q_0).1).cutHi (n := 0) (iv_eq_r c2 q_0).2)
    refine lv_iconst (v := 0) hx hb dX6_giveBack_7 (by decide) ?_
    exact iv_zret X hr hlocks hB (q_0.wk (by decide)) ⟨hM, (q_0.wk (by decide))⟩ dX6_giveBack_8
theorem dX11_undo_0 : decode cX11_undo 0 = .ok (.aload_n 0, 1) := by decide +kernel
theorem dX11_undo_1 : decode cX11_undo 1 = .ok (.getfield 22, 3) := by decide +kernel
theorem dX11_undo_4 : decode cX11_undo 4 = .ok (.aload_n 0, 1) := by decide +kernel
theorem dX11_undo_5 : decode cX11_undo 5 = .ok (.getfield 12, 3) := by decide +kernel
theorem dX11_undo_8 : decode cX11_undo 8 = .ok (.invokevirtual 365, 3) := by decide +kernel
theorem dX11_undo_11 : decode cX11_undo 11 = .ok (.ireturn, 1) := by decide +kernel
set_option maxHeartbeats 4000000 in
set_option maxRecDepth 100000 in
theorem c_X11_undo (l : Launch) (D : va_G) (tys : List (ClassId × FieldType)) (base : Nat) (G : iv_G) (h0 : Nat) (g_h0 : Nat → Int32) (r_h0 : Nat → Nat) (a_h0 : G h0 = some (11, g_h0, r_h0)) : Met l yX11_undo (Cond.code yX11_undo cX11_undo 1 (some .boolean) :: iv_W0) ({ frames := 3, cells := 0, slots := 0, locals := 69 }) (iv_Pc iv_sh D classes tys base G [.ref h0]) (iv_Qi iv_sh D classes tys base (fun v G' => iv_Md [1, 5, 6, 8, 13, 22] G G' ∧ iv_R 0 1 v)) 0 0 (iv_A base) := by
  refine iv_head (by decide) (Nat.le_of_ble_eq_true rfl) ?_
  intro p e s m args below meth c ls X hr hlocks hname hB hl
  have X := X
  have hx := X.1.1
  have hb := X.1.2.1
  have hM : iv_Md [1, 5, 6, 8, 13, 22] G G := iv_Md.rf
  have hl : lv_has ls 1 [(0, .ref h0)] := hl
  refine lv_aload_n hx hb dX11_undo_0 rfl (lv_at hl 0 rfl) ?_
  refine iv_getr X ft_X11 hB a_h0 sh_11 3 (by decide) rfl k_fl_X11_22 dX11_undo_1 (fun b1 g_b1 r_b1 e_b1 a_b1 => ?_)
  refine lv_aload_n hx hb dX11_undo_4 rfl (lv_at hl 0 rfl) ?_
  refine iv_getr X ft_X11 hB a_h0 sh_11 0 (by decide) rfl k_fl_X11_12 dX11_undo_5 (fun b2 g_b2 r_b2 e_b2 a_b2 => ?_)
  refine iv_cVi X k_good k_mf_X6_giveBack k_im_X6_giveBack k_sel_X6_giveBack k_ml_X11_365 ft_X6 hB a_b1 sh_6 (As := [.ref b2]) (c_X6_giveBack l D tys base G b1 g_b1 r_b1 a_b1 b2 g_b2 r_b2 a_b2) ⟨rfl, rfl⟩ ⟨Nat.le_of_ble_eq_true rfl, Nat.le_of_ble_eq_true rfl⟩ ⟨Nat.le_of_ble_eq_true rfl, Nat.le_of_ble_eq_true rfl⟩ rfl rfl hl.1 (Nat.le_of_ble_eq_true rfl) dX11_undo_8 (fun x3 G9 H locs hq hB => ?_)
  obtain ⟨hm, i_x3⟩ := hq
  obtain ⟨G4, hG9⟩ : ∃ g, g = G9 := ⟨_, rfl⟩
  rw [← hG9] at hm hB
  have hM := hM.stp hm (by decide)
  have a_h0 := hm.at a_h0 (by decide)
  exact iv_zret X hr hlocks hB i_x3 ⟨hM, i_x3⟩ dX11_undo_11
theorem dX1_begin_0 : decode cX1_begin 0 = .ok (.aload_n 0, 1) := by decide +kernel
theorem dX1_begin_1 : decode cX1_begin 1 = .ok (.iload_n 1, 1) := by decide +kernel
theorem dX1_begin_2 : decode cX1_begin 2 = .ok (.putfield 9, 3) := by decide +kernel
theorem dX1_begin_5 : decode cX1_begin 5 = .ok (.aload_n 0, 1) := by decide +kernel
theorem dX1_begin_6 : decode cX1_begin 6 = .ok (.iload_n 2, 1) := by decide +kernel
theorem dX1_begin_7 : decode cX1_begin 7 = .ok (.putfield 15, 3) := by decide +kernel
theorem dX1_begin_10 : decode cX1_begin 10 = .ok (.aload_n 0, 1) := by decide +kernel
theorem dX1_begin_11 : decode cX1_begin 11 = .ok (.iload_n 3, 1) := by decide +kernel
theorem dX1_begin_12 : decode cX1_begin 12 = .ok (.putfield 18, 3) := by decide +kernel
theorem dX1_begin_15 : decode cX1_begin 15 = .ok (.aload_n 0, 1) := by decide +kernel
theorem dX1_begin_16 : decode cX1_begin 16 = .ok (.iload 4, 2) := by decide +kernel
theorem dX1_begin_18 : decode cX1_begin 18 = .ok (.putfield 21, 3) := by decide +kernel
theorem dX1_begin_21 : decode cX1_begin 21 = .ok (.aload_n 0, 1) := by decide +kernel
theorem dX1_begin_22 : decode cX1_begin 22 = .ok (.iconst 0, 1) := by decide +kernel
theorem dX1_begin_23 : decode cX1_begin 23 = .ok (.putfield 24, 3) := by decide +kernel
theorem dX1_begin_26 : decode cX1_begin 26 = .ok (.aload_n 0, 1) := by decide +kernel
theorem dX1_begin_27 : decode cX1_begin 27 = .ok (.iconst 0, 1) := by decide +kernel
theorem dX1_begin_28 : decode cX1_begin 28 = .ok (.putfield 27, 3) := by decide +kernel
theorem dX1_begin_31 : decode cX1_begin 31 = .ok (.aload_n 0, 1) := by decide +kernel
theorem dX1_begin_32 : decode cX1_begin 32 = .ok (.iconst 0, 1) := by decide +kernel
theorem dX1_begin_33 : decode cX1_begin 33 = .ok (.putfield 30, 3) := by decide +kernel
theorem dX1_begin_36 : decode cX1_begin 36 = .ok (.aload_n 0, 1) := by decide +kernel
theorem dX1_begin_37 : decode cX1_begin 37 = .ok (.iconst 0, 1) := by decide +kernel
theorem dX1_begin_38 : decode cX1_begin 38 = .ok (.putfield 33, 3) := by decide +kernel
theorem dX1_begin_41 : decode cX1_begin 41 = .ok (.return_, 1) := by decide +kernel
set_option maxHeartbeats 4000000 in
set_option maxRecDepth 100000 in
theorem c_X1_begin (l : Launch) (D : va_G) (tys : List (ClassId × FieldType)) (base : Nat) (G : iv_G) (h0 : Nat) (g_h0 : Nat → Int32) (r_h0 : Nat → Nat) (a_h0 : G h0 = some (1, g_h0, r_h0)) (x_0 : Int32) (i_x_0 : iv_R (-2147483648) 2147483647 x_0) (x_1 : Int32) (i_x_1 : iv_R (-2147483648) 2147483647 x_1) (x_2 : Int32) (i_x_2 : iv_R (-2147483648) 2147483647 x_2) (x_3 : Int32) (i_x_3 : iv_R (-2147483648) 2147483647 x_3) : Met l yX1_begin (Cond.code yX1_begin cX1_begin 5 none :: iv_W0) ({ frames := 0, cells := 0, slots := 0, locals := 0 }) (iv_Pc iv_sh D classes tys base G [.ref h0, .int x_0, .int x_1, .int x_2, .int x_3]) (iv_Qv iv_sh D classes tys base (fun G' => iv_Md [1] G G')) 0 0 (iv_A base) := by
  refine iv_head (by decide) (Nat.le_of_ble_eq_true rfl) ?_
  intro p e s m args below meth c ls X hr hlocks hname hB hl
  have X := X
  have hx := X.1.1
  have hb := X.1.2.1
  have hM : iv_Md [1] G G := iv_Md.rf
  have hl : lv_has ls 5 [(0, .ref h0), (1, .int x_0), (2, .int x_1), (3, .int x_2), (4, .int x_3)] := hl
  refine lv_aload_n hx hb dX1_begin_0 rfl (lv_at hl 0 rfl) ?_
  refine lv_iload_n hx hb dX1_begin_1 rfl (lv_at hl 1 rfl) ?_
  refine iv_puti X ft_X1 hB a_h0 sh_1 0 (by decide) rfl rfl k_fl_X1_9 rfl i_x_0 rfl rfl dX1_begin_2 (fun H locs hB => ?_)
  have hm := iv_Md.put (x := x_0) a_h0 (j := 0) (by decide) (by decide)
  have h9 := iv_up_eq (G := G) (a := h0) (k := (1, upd g_h0 0 x_0, r_h0))
  generalize iv_up G h0 _ = G1 at hB hm h9
  have hM := hM.stp hm (by decide)
  generalize hgn_g2 : upd g_h0 _ _ = g2 at h9
  have a_h0 := h9
  have e9_g2 : x_0 = g2 0 := by rw [← hgn_g2]; simp [upd]
  refine lv_aload_n hx hb dX1_begin_5 rfl (lv_at hl 0 rfl) ?_
  refine lv_iload_n hx hb dX1_begin_6 rfl (lv_at hl 2 rfl) ?_
  refine iv_puti X ft_X1 hB a_h0 sh_1 1 (by decide) rfl rfl k_fl_X1_15 rfl i_x_1 rfl rfl dX1_begin_7 (fun H locs hB => ?_)
  have hm := iv_Md.put (x := x_1) a_h0 (j := 1) (by decide) (by decide)
  have h9 := iv_up_eq (G := G1) (a := h0) (k := (1, upd g2 1 x_1, r_h0))
  generalize iv_up G1 h0 _ = G3 at hB hm h9
  have hM := hM.stp hm (by decide)
  generalize hgn_g4 : upd g2 _ _ = g4 at h9
  have a_h0 := h9
  have e5 : x_0 = g4 0 := by rw [← hgn_g4]; exact e9_g2
  have e9_g4 : x_1 = g4 1 := by rw [← hgn_g4]; simp [upd]
  refine lv_aload_n hx hb dX1_begin_10 rfl (lv_at hl 0 rfl) ?_
  refine lv_iload_n hx hb dX1_begin_11 rfl (lv_at hl 3 rfl) ?_
  refine iv_puti X ft_X1 hB a_h0 sh_1 2 (by decide) rfl rfl k_fl_X1_18 rfl i_x_2 rfl rfl dX1_begin_12 (fun H locs hB => ?_)
  have hm := iv_Md.put (x := x_2) a_h0 (j := 2) (by decide) (by decide)
  have h9 := iv_up_eq (G := G3) (a := h0) (k := (1, upd g4 2 x_2, r_h0))
  generalize iv_up G3 h0 _ = G6 at hB hm h9
  have hM := hM.stp hm (by decide)
  generalize hgn_g7 : upd g4 _ _ = g7 at h9
  have a_h0 := h9
  have e8 : x_0 = g7 0 := by rw [← hgn_g7]; exact e5
  have e9 : x_1 = g7 1 := by rw [← hgn_g7]; exact e9_g4
  have e9_g7 : x_2 = g7 2 := by rw [← hgn_g7]; simp [upd]
  refine lv_aload_n hx hb dX1_begin_15 rfl (lv_at hl 0 rfl) ?_
  refine lv_iload hx hb dX1_begin_16 (lv_at hl 4 rfl) ?_
  refine iv_puti X ft_X1 hB a_h0 sh_1 3 (by decide) rfl rfl k_fl_X1_21 rfl i_x_3 rfl rfl dX1_begin_18 (fun H locs hB => ?_)
  have hm := iv_Md.put (x := x_3) a_h0 (j := 3) (by decide) (by decide)
  have h9 := iv_up_eq (G := G6) (a := h0) (k := (1, upd g7 3 x_3, r_h0))
  generalize iv_up G6 h0 _ = G10 at hB hm h9
  have hM := hM.stp hm (by decide)
  generalize hgn_g11 : upd g7 _ _ = g11 at h9
  have a_h0 := h9
  have e12 : x_0 = g11 0 := by rw [← hgn_g11]; exact e8
  have e13 : x_1 = g11 1 := by rw [← hgn_g11]; exact e9
  have e14 : x_2 = g11 2 := by rw [← hgn_g11]; exact e9_g7
  have e9_g11 : x_3 = g11 3 := by rw [← hgn_g11]; simp [upd]
  refine lv_aload_n hx hb dX1_begin_21 rfl (lv_at hl 0 rfl) ?_
  refine lv_iconst (v := 0) hx hb dX1_begin_22 (by decide) ?_
  refine iv_puti X ft_X1 hB a_h0 sh_1 4 (by decide) rfl rfl k_fl_X1_24 rfl (q_0.wk (by decide)) rfl rfl dX1_begin_23 (fun H locs hB => ?_)
  have hm := iv_Md.put (x := 0) a_h0 (j := 4) (by decide) (by decide)
  have h9 := iv_up_eq (G := G10) (a := h0) (k := (1, upd g11 4 0, r_h0))
  generalize iv_up G10 h0 _ = G15 at hB hm h9
  have hM := hM.stp hm (by decide)
  generalize hgn_g16 : upd g11 _ _ = g16 at h9
  have a_h0 := h9
  have e17 : x_0 = g16 0 := by rw [← hgn_g16]; exact e12
  have e18 : x_1 = g16 1 := by rw [← hgn_g16]; exact e13
  have e19 : x_2 = g16 2 := by rw [← hgn_g16]; exact e14
  have e20 : x_3 = g16 3 := by rw [← hgn_g16]; exact e9_g11
  have e9_g16 : 0 = g16 4 := by rw [← hgn_g16]; simp [upd]
  refine lv_aload_n hx hb dX1_begin_26 rfl (lv_at hl 0 rfl) ?_
  refine lv_iconst (v := 0) hx hb dX1_begin_27 (by decide) ?_
  refine iv_puti X ft_X1 hB a_h0 sh_1 5 (by decide) rfl rfl k_fl_X1_27 rfl (q_0.wk (by decide)) rfl rfl dX1_begin_28 (fun H locs hB => ?_)
  have hm := iv_Md.put (x := 0) a_h0 (j := 5) (by decide) (by decide)
  have h9 := iv_up_eq (G := G15) (a := h0) (k := (1, upd g16 5 0, r_h0))
  generalize iv_up G15 h0 _ = G21 at hB hm h9
  have hM := hM.stp hm (by decide)
  generalize hgn_g22 : upd g16 _ _ = g22 at h9
  have a_h0 := h9
  have e23 : x_0 = g22 0 := by rw [← hgn_g22]; exact e17
  have e24 : x_1 = g22 1 := by rw [← hgn_g22]; exact e18
  have e25 : x_2 = g22 2 := by rw [← hgn_g22]; exact e19
  have e26 : x_3 = g22 3 := by rw [← hgn_g22]; exact e20
  have e27 : 0 = g22 4 := by rw [← hgn_g22]; exact e9_g16
  have e9_g22 : 0 = g22 5 := by rw [← hgn_g22]; simp [upd]
  refine lv_aload_n hx hb dX1_begin_31 rfl (lv_at hl 0 rfl) ?_
  refine lv_iconst (v := 0) hx hb dX1_begin_32 (by decide) ?_
  refine iv_puti X ft_X1 hB a_h0 sh_1 6 (by decide) rfl rfl k_fl_X1_30 rfl (q_0.wk (by decide)) rfl rfl dX1_begin_33 (fun H locs hB => ?_)
  have hm := iv_Md.put (x := 0) a_h0 (j := 6) (by decide) (by decide)
  have h9 := iv_up_eq (G := G21) (a := h0) (k := (1, upd g22 6 0, r_h0))
  generalize iv_up G21 h0 _ = G28 at hB hm h9
  have hM := hM.stp hm (by decide)
  generalize hgn_g29 : upd g22 _ _ = g29 at h9
  have a_h0 := h9
  have e30 : x_0 = g29 0 := by rw [← hgn_g29]; exact e23
  have e31 : x_1 = g29 1 := by rw [← hgn_g29]; exact e24
  have e32 : x_2 = g29 2 := by rw [← hgn_g29]; exact e25
  have e33 : x_3 = g29 3 := by rw [← hgn_g29]; exact e26
  have e34 : 0 = g29 4 := by rw [← hgn_g29]; exact e27
  have e35 : 0 = g29 5 := by rw [← hgn_g29]; exact e9_g22
  have e9_g29 : 0 = g29 6 := by rw [← hgn_g29]; simp [upd]
  refine lv_aload_n hx hb dX1_begin_36 rfl (lv_at hl 0 rfl) ?_
  refine lv_iconst (v := 0) hx hb dX1_begin_37 (by decide) ?_
  refine iv_puti X ft_X1 hB a_h0 sh_1 7 (by decide) rfl rfl k_fl_X1_33 rfl (q_0.wk (by decide)) rfl rfl dX1_begin_38 (fun H locs hB => ?_)
  have hm := iv_Md.put (x := 0) a_h0 (j := 7) (by decide) (by decide)
  have h9 := iv_up_eq (G := G28) (a := h0) (k := (1, upd g29 7 0, r_h0))
  generalize iv_up G28 h0 _ = G36 at hB hm h9
  have hM := hM.stp hm (by decide)
  generalize hgn_g37 : upd g29 _ _ = g37 at h9
  have a_h0 := h9
  have e38 : x_0 = g37 0 := by rw [← hgn_g37]; exact e30
  have e39 : x_1 = g37 1 := by rw [← hgn_g37]; exact e31
  have e40 : x_2 = g37 2 := by rw [← hgn_g37]; exact e32
  have e41 : x_3 = g37 3 := by rw [← hgn_g37]; exact e33
  have e42 : 0 = g37 4 := by rw [← hgn_g37]; exact e34
  have e43 : 0 = g37 5 := by rw [← hgn_g37]; exact e35
  have e44 : 0 = g37 6 := by rw [← hgn_g37]; exact e9_g29
  have e9_g37 : 0 = g37 7 := by rw [← hgn_g37]; simp [upd]
  exact iv_vret X hr hlocks hB hM dX1_begin_41
