theorem dX12_noneYet_0 : decode cX12_noneYet 0 = .ok (.iload_n 1, 1) := by decide +kernel
theorem dX12_noneYet_1 : decode cX12_noneYet 1 = .ok (.iconst 0, 1) := by decide +kernel
theorem dX12_noneYet_2 : decode cX12_noneYet 2 = .ok (.bipush 99, 2) := by decide +kernel
theorem dX12_noneYet_4 : decode cX12_noneYet 4 = .ok (.invokestatic 56, 3) := by decide +kernel
theorem dX12_noneYet_7 : decode cX12_noneYet 7 = .ok (.ifCond .ne 5, 3) := by decide +kernel
theorem dX12_noneYet_10 : decode cX12_noneYet 10 = .ok (.iconst (-1), 1) := by decide +kernel
theorem dX12_noneYet_11 : decode cX12_noneYet 11 = .ok (.ireturn, 1) := by decide +kernel
theorem dX12_noneYet_12 : decode cX12_noneYet 12 = .ok (.iconst 0, 1) := by decide +kernel
theorem dX12_noneYet_13 : decode cX12_noneYet 13 = .ok (.istore_n 2, 1) := by decide +kernel
theorem dX12_noneYet_14 : decode cX12_noneYet 14 = .ok (.iload_n 2, 1) := by decide +kernel
theorem dX12_noneYet_15 : decode cX12_noneYet 15 = .ok (.aload_n 0, 1) := by decide +kernel
theorem dX12_noneYet_16 : decode cX12_noneYet 16 = .ok (.getfield 7, 3) := by decide +kernel
theorem dX12_noneYet_19 : decode cX12_noneYet 19 = .ok (.sipush 146, 3) := by decide +kernel
theorem dX12_noneYet_22 : decode cX12_noneYet 22 = .ok (.iaload, 1) := by decide +kernel
theorem dX12_noneYet_23 : decode cX12_noneYet 23 = .ok (.if_icmp .ge 32, 3) := by decide +kernel
theorem dX12_noneYet_26 : decode cX12_noneYet 26 = .ok (.aload_n 0, 1) := by decide +kernel
theorem dX12_noneYet_27 : decode cX12_noneYet 27 = .ok (.getfield 41, 3) := by decide +kernel
theorem dX12_noneYet_30 : decode cX12_noneYet 30 = .ok (.iload_n 2, 1) := by decide +kernel
theorem dX12_noneYet_31 : decode cX12_noneYet 31 = .ok (.aload_n 0, 1) := by decide +kernel
theorem dX12_noneYet_32 : decode cX12_noneYet 32 = .ok (.iload_n 2, 1) := by decide +kernel
theorem dX12_noneYet_33 : decode cX12_noneYet 33 = .ok (.invokevirtual 353, 3) := by decide +kernel
theorem dX12_noneYet_36 : decode cX12_noneYet 36 = .ok (.ifCond .eq 11, 3) := by decide +kernel
theorem dX12_noneYet_39 : decode cX12_noneYet 39 = .ok (.aload_n 0, 1) := by decide +kernel
theorem dX12_noneYet_40 : decode cX12_noneYet 40 = .ok (.iload_n 2, 1) := by decide +kernel
theorem dX12_noneYet_41 : decode cX12_noneYet 41 = .ok (.invokevirtual 344, 3) := by decide +kernel
theorem dX12_noneYet_44 : decode cX12_noneYet 44 = .ok (.goto 4, 3) := by decide +kernel
theorem dX12_noneYet_47 : decode cX12_noneYet 47 = .ok (.iconst (-1), 1) := by decide +kernel
theorem dX12_noneYet_48 : decode cX12_noneYet 48 = .ok (.iastore, 1) := by decide +kernel
theorem dX12_noneYet_49 : decode cX12_noneYet 49 = .ok (.iinc 2 1, 3) := by decide +kernel
theorem dX12_noneYet_52 : decode cX12_noneYet 52 = .ok (.goto (-38), 3) := by decide +kernel
theorem dX12_noneYet_55 : decode cX12_noneYet 55 = .ok (.ldc_w 395, 3) := by decide +kernel
theorem dX12_noneYet_58 : decode cX12_noneYet 58 = .ok (.istore_n 2, 1) := by decide +kernel
theorem dX12_noneYet_59 : decode cX12_noneYet 59 = .ok (.iconst 0, 1) := by decide +kernel
theorem dX12_noneYet_60 : decode cX12_noneYet 60 = .ok (.istore_n 3, 1) := by decide +kernel
theorem dX12_noneYet_61 : decode cX12_noneYet 61 = .ok (.iload_n 3, 1) := by decide +kernel
theorem dX12_noneYet_62 : decode cX12_noneYet 62 = .ok (.iload_n 1, 1) := by decide +kernel
theorem dX12_noneYet_63 : decode cX12_noneYet 63 = .ok (.if_icmp .ge 64, 3) := by decide +kernel
theorem dX12_noneYet_66 : decode cX12_noneYet 66 = .ok (.iconst 0, 1) := by decide +kernel
theorem dX12_noneYet_67 : decode cX12_noneYet 67 = .ok (.istore 4, 2) := by decide +kernel
theorem dX12_noneYet_69 : decode cX12_noneYet 69 = .ok (.iload 4, 2) := by decide +kernel
theorem dX12_noneYet_71 : decode cX12_noneYet 71 = .ok (.aload_n 0, 1) := by decide +kernel
theorem dX12_noneYet_72 : decode cX12_noneYet 72 = .ok (.getfield 7, 3) := by decide +kernel
theorem dX12_noneYet_75 : decode cX12_noneYet 75 = .ok (.sipush 146, 3) := by decide +kernel
theorem dX12_noneYet_78 : decode cX12_noneYet 78 = .ok (.iaload, 1) := by decide +kernel
theorem dX12_noneYet_79 : decode cX12_noneYet 79 = .ok (.if_icmp .ge 42, 3) := by decide +kernel
theorem dX12_noneYet_82 : decode cX12_noneYet 82 = .ok (.aload_n 0, 1) := by decide +kernel
theorem dX12_noneYet_83 : decode cX12_noneYet 83 = .ok (.getfield 41, 3) := by decide +kernel
theorem dX12_noneYet_86 : decode cX12_noneYet 86 = .ok (.iload 4, 2) := by decide +kernel
theorem dX12_noneYet_88 : decode cX12_noneYet 88 = .ok (.iaload, 1) := by decide +kernel
theorem dX12_noneYet_89 : decode cX12_noneYet 89 = .ok (.iconst (-1), 1) := by decide +kernel
theorem dX12_noneYet_90 : decode cX12_noneYet 90 = .ok (.if_icmp .ne 7, 3) := by decide +kernel
theorem dX12_noneYet_93 : decode cX12_noneYet 93 = .ok (.iload_n 2, 1) := by decide +kernel
theorem dX12_noneYet_94 : decode cX12_noneYet 94 = .ok (.goto 20, 3) := by decide +kernel
theorem dX12_noneYet_97 : decode cX12_noneYet 97 = .ok (.iload_n 2, 1) := by decide +kernel
theorem dX12_noneYet_98 : decode cX12_noneYet 98 = .ok (.sipush 1000, 3) := by decide +kernel
theorem dX12_noneYet_101 : decode cX12_noneYet 101 = .ok (.aload_n 0, 1) := by decide +kernel
theorem dX12_noneYet_102 : decode cX12_noneYet 102 = .ok (.getfield 41, 3) := by decide +kernel
theorem dX12_noneYet_105 : decode cX12_noneYet 105 = .ok (.iload 4, 2) := by decide +kernel
theorem dX12_noneYet_107 : decode cX12_noneYet 107 = .ok (.iaload, 1) := by decide +kernel
theorem dX12_noneYet_108 : decode cX12_noneYet 108 = .ok (.isub, 1) := by decide +kernel
theorem dX12_noneYet_109 : decode cX12_noneYet 109 = .ok (.imul, 1) := by decide +kernel
theorem dX12_noneYet_110 : decode cX12_noneYet 110 = .ok (.sipush 1000, 3) := by decide +kernel
theorem dX12_noneYet_113 : decode cX12_noneYet 113 = .ok (.idiv, 1) := by decide +kernel
theorem dX12_noneYet_114 : decode cX12_noneYet 114 = .ok (.istore_n 2, 1) := by decide +kernel
theorem dX12_noneYet_115 : decode cX12_noneYet 115 = .ok (.iinc 4 1, 3) := by decide +kernel
theorem dX12_noneYet_118 : decode cX12_noneYet 118 = .ok (.goto (-49), 3) := by decide +kernel
theorem dX12_noneYet_121 : decode cX12_noneYet 121 = .ok (.iinc 3 1, 3) := by decide +kernel
theorem dX12_noneYet_124 : decode cX12_noneYet 124 = .ok (.goto (-63), 3) := by decide +kernel
theorem dX12_noneYet_127 : decode cX12_noneYet 127 = .ok (.iload_n 2, 1) := by decide +kernel
theorem dX12_noneYet_128 : decode cX12_noneYet 128 = .ok (.ireturn, 1) := by decide +kernel
set_option maxHeartbeats 4000000 in
set_option maxRecDepth 100000 in
theorem c_X12_noneYet (l : Launch) (D : va_G) (tys : List (ClassId × FieldType)) (base : Nat) (G : iv_G) (h0 : Nat) (g_h0 : Nat → Int32) (r_h0 : Nat → Nat) (a_h0 : G h0 = some (12, g_h0, r_h0)) (x_0 : Int32) (i_x_0 : iv_R (-2147483648) 2147483647 x_0) : Met l yX12_noneYet (Cond.code yX12_noneYet cX12_noneYet 5 (some .int) :: iv_W0) ({ frames := 10, cells := 0, slots := 0, locals := 232 }) (iv_Pc iv_sh D classes tys base G [.ref h0, .int x_0]) (iv_Qi iv_sh D classes tys base (fun v G' => iv_Md [67, 68, 69] G G' ∧ iv_R (-2147483648) 2147483647 v)) 0 0 (iv_A base) := by
  refine iv_head (by decide) (Nat.le_of_ble_eq_true rfl) ?_
  intro p e s m args below meth c ls X hr hlocks hname hB hl
  have X := X
  have hx := X.1.1
  have hb := X.1.2.1
  have hM : iv_Md [67, 68, 69] G G := iv_Md.rf
  have hl : lv_has ls 5 [(0, .ref h0), (1, .int x_0)] := hl
  refine lv_iload_n hx hb dX12_noneYet_0 rfl (lv_at hl 1 rfl) ?_
  refine lv_iconst (v := 0) hx hb dX12_noneYet_1 (by decide) ?_
  refine lv_bipush (v := 99) hx hb dX12_noneYet_2 (by decide) ?_
  refine iv_cSi X k_good k_mf_X12_isIn k_st_X12_isIn k_ml_X12_56 hB (As := [.int x_0, .int 0, .int 99]) (c_X12_isIn l D tys base G x_0 i_x_0 0 (q_0.wk (by decide)) 99 (q_99.wk (by decide))) ⟨rfl, rfl⟩ ⟨Nat.le_of_ble_eq_true rfl, Nat.le_of_ble_eq_true rfl⟩ ⟨Nat.le_of_ble_eq_true rfl, Nat.le_of_ble_eq_true rfl⟩ rfl rfl hl.1 (Nat.le_of_ble_eq_true rfl) dX12_noneYet_4 (fun x1 G9 H locs hq hB => ?_)
  obtain ⟨rfl, i_x1, hp2⟩ := hq
  have k3 : ¬ x1 = 0 → iv_R 0 99 x_0 := fun h => ⟨iv_max i_x_0.1 (Int.le_trans q_0.1 (hp2.1 h).1) (by decide), iv_min i_x_0.2 (Int.le_trans (hp2.1 h).2 q_99.2) (by decide)⟩
  refine lv_if_ne (tgt := 12) hx hb dX12_noneYet_7 (by decide) (fun c4 => ?_) (fun c4 => ?_)
  · skip
    have i4_x1 : iv_R 1 1 x1 := iv_ne_lo c4 i_x1 q_0 (by decide)
    have i5_x_0 : iv_R 0 99 x_0 := ((i_x_0.cutLo (n := 0) (k3 c4).1).cutHi (n := 99) (k3 c4).2)
    refine lv_iconst (v := 0) hx hb dX12_noneYet_12 (by decide) ?_
    refine lv_istore_n (lv' := [(2, .int 0), (0, .ref h0), (1, .int x_0)]) hx hb dX12_noneYet_13 rfl hl (by decide) rfl (fun ls hl => ?_)
    have L_14 : ∀ (n_14 : Nat) (G8 : iv_G) (hM : iv_Md [67, 68, 69] G G8) (H : Heap) (locs : List Loc) (hB : iv_B iv_sh D classes tys base G8 s.heap H locs) (a_h0 : G8 h0 = some (12, g_h0, r_h0)) (x7 : Int32) (i_x7 : iv_R 0 10 x7) (hn_14 : (11 - x7.toInt).toNat < n_14) (ls : Array Slot) (hl : lv_has ls 5 [(2, .int x7), (0, .ref h0), (1, .int x_0)]), W p l e ({ frames := 10, cells := 0, slots := 0, locals := 232 } : Room) s m args below meth c H locs 0 0 (MQ below (iv_Qi iv_sh D classes tys base (fun v G' => iv_Md [67, 68, 69] G G' ∧ iv_R (-2147483648) 2147483647 v)) args s 0 0 (iv_A base)) (F0 m 14 ls []) := by
      intro n_14
      induction n_14 with
      | zero => intro G8 hM H locs hB a_h0 x7 i_x7 hn_14 ls hl; exact absurd hn_14 (Nat.not_lt_zero _)
      | succ n_14 ih_14 =>
        intro G8 hM H locs hB a_h0 x7 i_x7 hn_14 ls hl
        refine lv_iload_n hx hb dX12_noneYet_14 rfl (lv_at hl 0 rfl) ?_
        refine lv_aload_n hx hb dX12_noneYet_15 rfl (lv_at hl 1 rfl) ?_
        refine iv_getr X ft_X12 hB a_h0 sh_12 0 (by decide) rfl k_fl_X12_7 dX12_noneYet_16 (fun b9 g_b9 r_b9 e_b9 a_b9 => ?_)
        refine lv_sipush (v := 146) hx hb dX12_noneYet_19 (by decide) ?_
        refine iv_wald_c X hB a_b9 q_146 (by decide) (lo := 0) (hi' := 10) (by decide) dX12_noneYet_22 (fun x10 e_x10 i_x10 => ?_)
        refine lv_icmp_ge (tgt := 55) hx hb dX12_noneYet_23 (by decide) (fun c11 => ?_) (fun c11 => ?_)
        · skip
          refine lv_ldcw (v := 1000000) hx hb X.1.2.2.2.1 (X.1.2.2.2.2 _ k_ct_X12_395) dX12_noneYet_55 ?_
          refine lv_istore_n (lv' := [(2, .int 1000000), (0, .ref h0), (1, .int x_0)]) hx hb dX12_noneYet_58 rfl hl (by decide) rfl (fun ls hl => ?_)
          refine lv_iconst (v := 0) hx hb dX12_noneYet_59 (by decide) ?_
          refine lv_istore_n (lv' := [(3, .int 0), (2, .int 1000000), (0, .ref h0), (1, .int x_0)]) hx hb dX12_noneYet_60 rfl hl (by decide) rfl (fun ls hl => ?_)
          have L_61 : ∀ (n_61 : Nat) (G14 : iv_G) (hM : iv_Md [67, 68, 69] G G14) (H : Heap) (locs : List Loc) (hB : iv_B iv_sh D classes tys base G14 s.heap H locs) (a_h0 : G14 h0 = some (12, g_h0, r_h0)) (a_b9 : G14 b9 = some (60, g_b9, r_b9)) (x12 : Int32) (i_x12 : iv_R (-2147483648) 2147483647 x12) (x13 : Int32) (i_x13 : iv_R 0 99 x13) (hn_61 : (100 - x13.toInt).toNat < n_61) (ls : Array Slot) (hl : lv_has ls 5 [(3, .int x13), (2, .int x12), (0, .ref h0), (1, .int x_0)]), W p l e ({ frames := 10, cells := 0, slots := 0, locals := 232 } : Room) s m args below meth c H locs 0 0 (MQ below (iv_Qi iv_sh D classes tys base (fun v G' => iv_Md [67, 68, 69] G G' ∧ iv_R (-2147483648) 2147483647 v)) args s 0 0 (iv_A base)) (F0 m 61 ls []) := by
            intro n_61
            induction n_61 with
            | zero => intro G14 hM H locs hB a_h0 a_b9 x12 i_x12 x13 i_x13 hn_61 ls hl; exact absurd hn_61 (Nat.not_lt_zero _)
            | succ n_61 ih_61 =>
              intro G14 hM H locs hB a_h0 a_b9 x12 i_x12 x13 i_x13 hn_61 ls hl
              refine lv_iload_n hx hb dX12_noneYet_61 rfl (lv_at hl 0 rfl) ?_
              refine lv_iload_n hx hb dX12_noneYet_62 rfl (lv_at hl 3 rfl) ?_
              refine lv_icmp_ge (tgt := 127) hx hb dX12_noneYet_63 (by decide) (fun c15 => ?_) (fun c15 => ?_)
              · skip
                refine lv_iload_n hx hb dX12_noneYet_127 rfl (lv_at hl 1 rfl) ?_
                exact iv_iret X hr hlocks hB ⟨hM, i_x12⟩ dX12_noneYet_128
              · skip
                have i15_x13 : iv_R 0 98 x13 := (i_x13.cutHi (n := 98) (iv_lt_r (iv_nle c15) i5_x_0 (by decide)))
                have i16_x_0 : iv_R 1 99 x_0 := (i5_x_0.cutLo (n := 1) (iv_lt_l (iv_nle c15) i_x13 (by decide)))
                refine lv_iconst (v := 0) hx hb dX12_noneYet_66 (by decide) ?_
                refine lv_istore (lv' := [(4, .int 0), (3, .int x13), (2, .int x12), (0, .ref h0), (1, .int x_0)]) hx hb dX12_noneYet_67 hl (by decide) rfl (fun ls hl => ?_)
                have L_69 : ∀ (n_69 : Nat) (G20 : iv_G) (hM : iv_Md [67, 68, 69] G G20) (H : Heap) (locs : List Loc) (hB : iv_B iv_sh D classes tys base G20 s.heap H locs) (a_h0 : G20 h0 = some (12, g_h0, r_h0)) (a_b9 : G20 b9 = some (60, g_b9, r_b9)) (x18 : Int32) (i_x18 : iv_R (-2147483648) 2147483647 x18) (x19 : Int32) (i_x19 : iv_R 0 10 x19) (hn_69 : (11 - x19.toInt).toNat < n_69) (ls : Array Slot) (hl : lv_has ls 5 [(4, .int x19), (3, .int x13), (2, .int x18), (0, .ref h0), (1, .int x_0)]), W p l e ({ frames := 10, cells := 0, slots := 0, locals := 232 } : Room) s m args below meth c H locs 0 0 (MQ below (iv_Qi iv_sh D classes tys base (fun v G' => iv_Md [67, 68, 69] G G' ∧ iv_R (-2147483648) 2147483647 v)) args s 0 0 (iv_A base)) (F0 m 69 ls []) := by
                  intro n_69
                  induction n_69 with
                  | zero => intro G20 hM H locs hB a_h0 a_b9 x18 i_x18 x19 i_x19 hn_69 ls hl; exact absurd hn_69 (Nat.not_lt_zero _)
                  | succ n_69 ih_69 =>
                    intro G20 hM H locs hB a_h0 a_b9 x18 i_x18 x19 i_x19 hn_69 ls hl
                    refine lv_iload hx hb dX12_noneYet_69 (lv_at hl 0 rfl) ?_
                    refine lv_aload_n hx hb dX12_noneYet_71 rfl (lv_at hl 3 rfl) ?_
                    refine iv_getr0 X ft_X12 hB a_h0 sh_12 0 (by decide) rfl k_fl_X12_7 dX12_noneYet_72 e_b9 ?_
                    refine lv_sipush (v := 146) hx hb dX12_noneYet_75 (by decide) ?_
                    refine iv_wald_c X hB a_b9 q_146 (by decide) (lo := 0) (hi' := 10) (by decide) dX12_noneYet_78 (fun x21 e_x21 k_x21 => ?_)
                    obtain rfl : x10 = x21 := e_x10.trans e_x21.symm
                    refine lv_icmp_ge (tgt := 121) hx hb dX12_noneYet_79 (by decide) (fun c22 => ?_) (fun c22 => ?_)
                    · skip
                      refine iv_iinc hx hb i15_x13 (lo := 1) (hi := 99) (by decide) dX12_noneYet_121 hl (k := 1) rfl (by decide) (fun x23 ls e_x23 i_x23 hl => ?_)
                      have hl : lv_has ls 5 [(3, .int x23), (4, .int x19), (2, .int x18), (0, .ref h0), (1, .int x_0)] := hl
                      refine lv_goto (tgt := 61) hx hb dX12_noneYet_124 (by decide) ?_
                      exact ih_61 G20 hM _ _ hB a_h0 a_b9 x18 i_x18 x23 (i_x23.wk (by decide)) (iv_mup (c := 1) i_x13 (by decide) (by decide) (by omega) hn_61) _ (lv_sub hl [0, 2, 3, 4] rfl)
                    · skip
                      have i23_x19 : iv_R 0 9 x19 := (i_x19.cutHi (n := 9) (iv_lt_r (iv_nle c22) i_x10 (by decide)))
                      have i24_x10 : iv_R 1 10 x10 := (i_x10.cutLo (n := 1) (iv_lt_l (iv_nle c22) i_x19 (by decide)))
                      refine lv_aload_n hx hb dX12_noneYet_82 rfl (lv_at hl 3 rfl) ?_
                      refine iv_getr X ft_X12 hB a_h0 sh_12 26 (by decide) rfl k_fl_X12_41 dX12_noneYet_83 (fun b26 g_b26 r_b26 e_b26 a_b26 => ?_)
                      refine lv_iload hx hb dX12_noneYet_86 (lv_at hl 0 rfl) ?_
                      refine iv_ald X hB a_b26 sh_69 (iv_in i23_x19 (by decide)) dX12_noneYet_88 (fun x27 e_x27 i_x27 => ?_)
                      refine lv_iconst (v := (-1)) hx hb dX12_noneYet_89 (by decide) ?_
                      refine lv_icmp_ne (tgt := 97) hx hb dX12_noneYet_90 (by decide) (fun c28 => ?_) (fun c28 => ?_)
                      · skip
                        refine lv_iload_n hx hb dX12_noneYet_97 rfl (lv_at hl 2 rfl) ?_
                        refine lv_sipush (v := 1000) hx hb dX12_noneYet_98 (by decide) ?_
                        refine lv_aload_n hx hb dX12_noneYet_101 rfl (lv_at hl 3 rfl) ?_
                        refine iv_getr0 X ft_X12 hB a_h0 sh_12 26 (by decide) rfl k_fl_X12_41 dX12_noneYet_102 e_b26 ?_
                        refine lv_iload hx hb dX12_noneYet_105 (lv_at hl 0 rfl) ?_
                        refine iv_ald X hB a_b26 sh_69 (iv_in i23_x19 (by decide)) dX12_noneYet_107 (fun x29 e_x29 i_x29 => ?_)
                        refine lv_isub hx hb dX12_noneYet_108 ?_
                        refine lv_topi (fun x30 e_x30 => ?_)
                        have i_x30 := iv_R.all x30
                        refine lv_imul hx hb dX12_noneYet_109 ?_
                        refine lv_topi (fun x31 e_x31 => ?_)
                        have i_x31 := iv_R.all x31
                        refine lv_sipush (v := 1000) hx hb dX12_noneYet_110 (by decide) ?_
                        refine lv_idiv hx hb dX12_noneYet_113 (iv_nz q_1000 (by decide)) ?_
                        refine lv_topi (fun x32 e_x32 => ?_)
                        have i_x32 := iv_R.all x32
                        refine lv_istore_n (lv' := [(2, .int x32), (4, .int x19), (3, .int x13), (0, .ref h0), (1, .int x_0)]) hx hb dX12_noneYet_114 rfl hl (by decide) rfl (fun ls hl => ?_)
                        refine iv_iinc hx hb i23_x19 (lo := 1) (hi := 10) (by decide) dX12_noneYet_115 hl (k := 1) rfl (by decide) (fun x33 ls e_x33 i_x33 hl => ?_)
                        have hl : lv_has ls 5 [(4, .int x33), (2, .int x32), (3, .int x13), (0, .ref h0), (1, .int x_0)] := hl
                        refine lv_goto (tgt := 69) hx hb dX12_noneYet_118 (by decide) ?_
                        exact ih_69 G20 hM _ _ hB a_h0 a_b9 x32 i_x32 x33 (i_x33.wk (by decide)) (iv_mup (c := 1) i_x19 (by decide) (by decide) (by omega) hn_69) _ (lv_sub hl [0, 2, 1, 3, 4] rfl)
                      · skip
                        have i33_x27 : iv_R (-1) (-1) x27 := ((i_x27.cutLo (n := (-1)) (iv_eq_r c28 q_n1).1).cutHi (n := (-1)) (iv_eq_r c28 q_n1).2)
                        refine lv_iload_n hx hb dX12_noneYet_93 rfl (lv_at hl 2 rfl) ?_
                        refine lv_goto (tgt := 114) hx hb dX12_noneYet_94 (by decide) ?_
                        refine lv_istore_n (lv' := [(2, .int x18), (4, .int x19), (3, .int x13), (0, .ref h0), (1, .int x_0)]) hx hb dX12_noneYet_114 rfl hl (by decide) rfl (fun ls hl => ?_)
                        refine iv_iinc hx hb i23_x19 (lo := 1) (hi := 10) (by decide) dX12_noneYet_115 hl (k := 1) rfl (by decide) (fun x35 ls e_x35 i_x35 hl => ?_)
                        have hl : lv_has ls 5 [(4, .int x35), (2, .int x18), (3, .int x13), (0, .ref h0), (1, .int x_0)] := hl
                        refine lv_goto (tgt := 69) hx hb dX12_noneYet_118 (by decide) ?_
                        exact ih_69 G20 hM _ _ hB a_h0 a_b9 x18 i_x18 x35 (i_x35.wk (by decide)) (iv_mup (c := 1) i_x19 (by decide) (by decide) (by omega) hn_69) _ (lv_sub hl [0, 2, 1, 3, 4] rfl)
                exact L_69 _ G14 hM _ _ hB a_h0 a_b9 x12 i_x12 0 (q_0.wk (by decide)) (Nat.lt_succ_self _) _ (lv_sub hl [0, 1, 2, 3, 4] rfl)
          exact L_61 _ G8 hM _ _ hB a_h0 a_b9 1000000 (q_1000000.wk (by decide)) 0 (q_0.wk (by decide)) (Nat.lt_succ_self _) _ (lv_sub hl [0, 1, 2, 3] rfl)
        · skip
          have i35_x7 : iv_R 0 9 x7 := (i_x7.cutHi (n := 9) (iv_lt_r (iv_nle c11) i_x10 (by decide)))
          have i36_x10 : iv_R 1 10 x10 := (i_x10.cutLo (n := 1) (iv_lt_l (iv_nle c11) i_x7 (by decide)))
          refine lv_aload_n hx hb dX12_noneYet_26 rfl (lv_at hl 1 rfl) ?_
          refine iv_getr X ft_X12 hB a_h0 sh_12 26 (by decide) rfl k_fl_X12_41 dX12_noneYet_27 (fun b38 g_b38 r_b38 e_b38 a_b38 => ?_)
          refine lv_iload_n hx hb dX12_noneYet_30 rfl (lv_at hl 0 rfl) ?_
          refine lv_aload_n hx hb dX12_noneYet_31 rfl (lv_at hl 1 rfl) ?_
          refine lv_iload_n hx hb dX12_noneYet_32 rfl (lv_at hl 0 rfl) ?_
          refine iv_cVi X k_good k_mf_X12_soundingOf k_im_X12_soundingOf k_sel_X12_soundingOf k_ml_X12_353 ft_X12 hB a_h0 sh_12 (As := [.int x7]) (c_X12_soundingOf l D tys base G8 h0 g_h0 r_h0 a_h0 x7 i35_x7) ⟨rfl, rfl⟩ ⟨Nat.le_of_ble_eq_true rfl, Nat.le_of_ble_eq_true rfl⟩ ⟨Nat.le_of_ble_eq_true rfl, Nat.le_of_ble_eq_true rfl⟩ rfl rfl hl.1 (Nat.le_of_ble_eq_true rfl) dX12_noneYet_33 (fun x39 G9 H locs hq hB => ?_)
          obtain ⟨rfl, i_x39⟩ := hq
          refine lv_if_eq (tgt := 47) hx hb dX12_noneYet_36 (by decide) (fun c40 => ?_) (fun c40 => ?_)
          · skip
            have i40_x39 : iv_R 0 0 x39 := (i_x39.cutHi (n := 0) (iv_eq_r c40 q_0).2)
            refine lv_iconst (v := (-1)) hx hb dX12_noneYet_47 (by decide) ?_
            refine iv_ast X hB a_b38 sh_69 (iv_in i35_x7 (by decide)) (q_n1.wk (by decide)) dX12_noneYet_48 (fun H locs hB => ?_)
            have hm := iv_Md.ast (j := x7.toNatClampNeg) (x := (-1)) a_b38 rfl (by decide)
            have h9 := iv_up_eq (G := G8) (a := b38) (k := (69, upd g_b38 x7.toNatClampNeg (-1), r_b38))
            generalize iv_up G8 b38 _ = G42 at hB hm h9
            have hM := hM.stp hm (by decide)
            have a_h0 := hm.at a_h0 (by decide)
            have a_b9 := hm.at a_b9 (by decide)
            refine iv_iinc hx hb i35_x7 (lo := 1) (hi := 10) (by decide) dX12_noneYet_49 hl (k := 0) rfl (by decide) (fun x44 ls e_x44 i_x44 hl => ?_)
            have hl : lv_has ls 5 [(2, .int x44), (0, .ref h0), (1, .int x_0)] := hl
            refine lv_goto (tgt := 14) hx hb dX12_noneYet_52 (by decide) ?_
            exact ih_14 G42 hM _ _ hB a_h0 x44 (i_x44.wk (by decide)) (iv_mup (c := 1) i_x7 (by decide) (by decide) (by omega) hn_14) _ (lv_sub hl [0, 1, 2] rfl)
          · skip
            have i44_x39 : iv_R 1 16777215 x39 := iv_ne_lo c40 i_x39 q_0 (by decide)
            refine lv_aload_n hx hb dX12_noneYet_39 rfl (lv_at hl 1 rfl) ?_
            refine lv_iload_n hx hb dX12_noneYet_40 rfl (lv_at hl 0 rfl) ?_
            refine iv_cVi X k_good k_mf_X12_comeOf k_im_X12_comeOf k_sel_X12_comeOf k_ml_X12_344 ft_X12 hB a_h0 sh_12 (As := [.int x7]) (c_X12_comeOf l D tys base G8 h0 g_h0 r_h0 a_h0 x7 i35_x7) ⟨rfl, rfl⟩ ⟨Nat.le_of_ble_eq_true rfl, Nat.le_of_ble_eq_true rfl⟩ ⟨Nat.le_of_ble_eq_true rfl, Nat.le_of_ble_eq_true rfl⟩ rfl rfl hl.1 (Nat.le_of_ble_eq_true rfl) dX12_noneYet_41 (fun x46 G9 H locs hq hB => ?_)
            obtain ⟨hm, i_x46⟩ := hq
            obtain ⟨G47, hG9⟩ : ∃ g, g = G9 := ⟨_, rfl⟩
            rw [← hG9] at hm hB
            have hM := hM.stp hm (by decide)
            have a_h0 := hm.at a_h0 (by decide)
            have a_b9 := hm.at a_b9 (by decide)
            have a_b38 := hm.at a_b38 (by decide)
            refine lv_goto (tgt := 48) hx hb dX12_noneYet_44 (by decide) ?_
            refine iv_ast X hB a_b38 sh_69 (iv_in i35_x7 (by decide)) i_x46 dX12_noneYet_48 (fun H locs hB => ?_)
            have hm := iv_Md.ast (j := x7.toNatClampNeg) (x := x46) a_b38 rfl (by decide)
            have h9 := iv_up_eq (G := G47) (a := b38) (k := (69, upd g_b38 x7.toNatClampNeg x46, r_b38))
            generalize iv_up G47 b38 _ = G48 at hB hm h9
            have hM := hM.stp hm (by decide)
            have a_h0 := hm.at a_h0 (by decide)
            have a_b9 := hm.at a_b9 (by decide)
            refine iv_iinc hx hb i35_x7 (lo := 1) (hi := 10) (by decide) dX12_noneYet_49 hl (k := 0) rfl (by decide) (fun x50 ls e_x50 i_x50 hl => ?_)
            have hl : lv_has ls 5 [(2, .int x50), (0, .ref h0), (1, .int x_0)] := hl
            refine lv_goto (tgt := 14) hx hb dX12_noneYet_52 (by decide) ?_
            exact ih_14 G48 hM _ _ hB a_h0 x50 (i_x50.wk (by decide)) (iv_mup (c := 1) i_x7 (by decide) (by decide) (by omega) hn_14) _ (lv_sub hl [0, 1, 2] rfl)
    exact L_14 _ G hM _ _ hB a_h0 0 (q_0.wk (by decide)) (Nat.lt_succ_self _) _ (lv_sub hl [0, 1, 2] rfl)
  · skip
    have i50_x1 : iv_R 0 0 x1 := (i_x1.cutHi (n := 0) (iv_eq_r c4 q_0).2)
    refine lv_iconst (v := (-1)) hx hb dX12_noneYet_10 (by decide) ?_
    exact iv_iret X hr hlocks hB ⟨hM, (q_n1.wk (by decide))⟩ dX12_noneYet_11
theorem dX12_octaves_0 : decode cX12_octaves 0 = .ok (.aload_n 0, 1) := by decide +kernel
theorem dX12_octaves_1 : decode cX12_octaves 1 = .ok (.iload_n 1, 1) := by decide +kernel
theorem dX12_octaves_2 : decode cX12_octaves 2 = .ok (.invokevirtual 76, 3) := by decide +kernel
theorem dX12_octaves_5 : decode cX12_octaves 5 = .ok (.ifCond .ne 5, 3) := by decide +kernel
theorem dX12_octaves_8 : decode cX12_octaves 8 = .ok (.iconst (-1), 1) := by decide +kernel
theorem dX12_octaves_9 : decode cX12_octaves 9 = .ok (.ireturn, 1) := by decide +kernel
theorem dX12_octaves_10 : decode cX12_octaves 10 = .ok (.iconst 0, 1) := by decide +kernel
theorem dX12_octaves_11 : decode cX12_octaves 11 = .ok (.istore_n 2, 1) := by decide +kernel
theorem dX12_octaves_12 : decode cX12_octaves 12 = .ok (.iconst 0, 1) := by decide +kernel
theorem dX12_octaves_13 : decode cX12_octaves 13 = .ok (.istore_n 3, 1) := by decide +kernel
theorem dX12_octaves_14 : decode cX12_octaves 14 = .ok (.iload_n 3, 1) := by decide +kernel
theorem dX12_octaves_15 : decode cX12_octaves 15 = .ok (.aload_n 0, 1) := by decide +kernel
theorem dX12_octaves_16 : decode cX12_octaves 16 = .ok (.getfield 7, 3) := by decide +kernel
theorem dX12_octaves_19 : decode cX12_octaves 19 = .ok (.sipush 146, 3) := by decide +kernel
theorem dX12_octaves_22 : decode cX12_octaves 22 = .ok (.iaload, 1) := by decide +kernel
theorem dX12_octaves_23 : decode cX12_octaves 23 = .ok (.if_icmp .ge 44, 3) := by decide +kernel
theorem dX12_octaves_26 : decode cX12_octaves 26 = .ok (.iload_n 2, 1) := by decide +kernel
theorem dX12_octaves_27 : decode cX12_octaves 27 = .ok (.iload_n 3, 1) := by decide +kernel
theorem dX12_octaves_28 : decode cX12_octaves 28 = .ok (.iload_n 1, 1) := by decide +kernel
theorem dX12_octaves_29 : decode cX12_octaves 29 = .ok (.if_icmp .eq 29, 3) := by decide +kernel
theorem dX12_octaves_32 : decode cX12_octaves 32 = .ok (.aload_n 0, 1) := by decide +kernel
theorem dX12_octaves_33 : decode cX12_octaves 33 = .ok (.iload_n 3, 1) := by decide +kernel
theorem dX12_octaves_34 : decode cX12_octaves 34 = .ok (.bipush 6, 2) := by decide +kernel
theorem dX12_octaves_36 : decode cX12_octaves 36 = .ok (.invokevirtual 282, 3) := by decide +kernel
theorem dX12_octaves_39 : decode cX12_octaves 39 = .ok (.iconst 2, 1) := by decide +kernel
theorem dX12_octaves_40 : decode cX12_octaves 40 = .ok (.if_icmp .eq 18, 3) := by decide +kernel
theorem dX12_octaves_43 : decode cX12_octaves 43 = .ok (.aload_n 0, 1) := by decide +kernel
theorem dX12_octaves_44 : decode cX12_octaves 44 = .ok (.iload_n 3, 1) := by decide +kernel
theorem dX12_octaves_45 : decode cX12_octaves 45 = .ok (.iload_n 1, 1) := by decide +kernel
theorem dX12_octaves_46 : decode cX12_octaves 46 = .ok (.invokevirtual 326, 3) := by decide +kernel
theorem dX12_octaves_49 : decode cX12_octaves 49 = .ok (.ifCond .eq 9, 3) := by decide +kernel
theorem dX12_octaves_52 : decode cX12_octaves 52 = .ok (.iconst 1, 1) := by decide +kernel
theorem dX12_octaves_53 : decode cX12_octaves 53 = .ok (.iload_n 3, 1) := by decide +kernel
theorem dX12_octaves_54 : decode cX12_octaves 54 = .ok (.ishl, 1) := by decide +kernel
theorem dX12_octaves_55 : decode cX12_octaves 55 = .ok (.goto 4, 3) := by decide +kernel
theorem dX12_octaves_58 : decode cX12_octaves 58 = .ok (.iconst 0, 1) := by decide +kernel
theorem dX12_octaves_59 : decode cX12_octaves 59 = .ok (.ior, 1) := by decide +kernel
theorem dX12_octaves_60 : decode cX12_octaves 60 = .ok (.istore_n 2, 1) := by decide +kernel
theorem dX12_octaves_61 : decode cX12_octaves 61 = .ok (.iinc 3 1, 3) := by decide +kernel
theorem dX12_octaves_64 : decode cX12_octaves 64 = .ok (.goto (-50), 3) := by decide +kernel
theorem dX12_octaves_67 : decode cX12_octaves 67 = .ok (.iload_n 2, 1) := by decide +kernel
theorem dX12_octaves_68 : decode cX12_octaves 68 = .ok (.ireturn, 1) := by decide +kernel
set_option maxHeartbeats 4000000 in
set_option maxRecDepth 100000 in
theorem c_X12_octaves (l : Launch) (D : va_G) (tys : List (ClassId × FieldType)) (base : Nat) (G : iv_G) (h0 : Nat) (g_h0 : Nat → Int32) (r_h0 : Nat → Nat) (a_h0 : G h0 = some (12, g_h0, r_h0)) (x_0 : Int32) (i_x_0 : iv_R (-2147483648) 2147483647 x_0) : Met l yX12_octaves (Cond.code yX12_octaves cX12_octaves 4 (some .int) :: iv_W0) ({ frames := 2, cells := 0, slots := 0, locals := 44 }) (iv_Pc iv_sh D classes tys base G [.ref h0, .int x_0]) (iv_Qi iv_sh D classes tys base (fun v G' => G = G' ∧ iv_R (-1) 2047 v)) 0 0 (iv_A base) := by
  refine iv_head (by decide) (Nat.le_of_ble_eq_true rfl) ?_
  intro p e s m args below meth c ls X hr hlocks hname hB hl
  have X := X
  have hx := X.1.1
  have hb := X.1.2.1
  have hl : lv_has ls 4 [(0, .ref h0), (1, .int x_0)] := hl
  refine lv_aload_n hx hb dX12_octaves_0 rfl (lv_at hl 0 rfl) ?_
  refine lv_iload_n hx hb dX12_octaves_1 rfl (lv_at hl 1 rfl) ?_
  refine iv_cVi X k_good k_mf_X12_isBell k_im_X12_isBell k_sel_X12_isBell k_ml_X12_76 ft_X12 hB a_h0 sh_12 (As := [.int x_0]) (c_X12_isBell l D tys base G h0 g_h0 r_h0 a_h0 x_0 i_x_0) ⟨rfl, rfl⟩ ⟨Nat.le_of_ble_eq_true rfl, Nat.le_of_ble_eq_true rfl⟩ ⟨Nat.le_of_ble_eq_true rfl, Nat.le_of_ble_eq_true rfl⟩ rfl rfl hl.1 (Nat.le_of_ble_eq_true rfl) dX12_octaves_2 (fun x1 G9 H locs hq hB => ?_)
  obtain ⟨rfl, i_x1, hp2⟩ := hq
  refine lv_if_ne (tgt := 10) hx hb dX12_octaves_5 (by decide) (fun c3 => ?_) (fun c3 => ?_)
  · skip
    have i3_x1 : iv_R 1 1 x1 := iv_ne_lo c3 i_x1 q_0 (by decide)
    have i4_x_0 : iv_R 0 9 x_0 := ((i_x_0.cutLo (n := 0) (hp2 c3).1).cutHi (n := 9) (hp2 c3).2)
    refine lv_iconst (v := 0) hx hb dX12_octaves_10 (by decide) ?_
    refine lv_istore_n (lv' := [(2, .int 0), (0, .ref h0), (1, .int x_0)]) hx hb dX12_octaves_11 rfl hl (by decide) rfl (fun ls hl => ?_)
    refine lv_iconst (v := 0) hx hb dX12_octaves_12 (by decide) ?_
    refine lv_istore_n (lv' := [(3, .int 0), (2, .int 0), (0, .ref h0), (1, .int x_0)]) hx hb dX12_octaves_13 rfl hl (by decide) rfl (fun ls hl => ?_)
    have L_14 : ∀ (n_14 : Nat) (H : Heap) (locs : List Loc) (hB : iv_B iv_sh D classes tys base G s.heap H locs) (x6 : Int32) (i_x6 : iv_R 0 2047 x6) (x7 : Int32) (i_x7 : iv_R 0 10 x7) (hn_14 : (11 - x7.toInt).toNat < n_14) (ls : Array Slot) (hl : lv_has ls 4 [(3, .int x7), (2, .int x6), (0, .ref h0), (1, .int x_0)]), W p l e ({ frames := 2, cells := 0, slots := 0, locals := 44 } : Room) s m args below meth c H locs 0 0 (MQ below (iv_Qi iv_sh D classes tys base (fun v G' => G = G' ∧ iv_R (-1) 2047 v)) args s 0 0 (iv_A base)) (F0 m 14 ls []) := by
      intro n_14
      induction n_14 with
      | zero => intro H locs hB x6 i_x6 x7 i_x7 hn_14 ls hl; exact absurd hn_14 (Nat.not_lt_zero _)
      | succ n_14 ih_14 =>
        intro H locs hB x6 i_x6 x7 i_x7 hn_14 ls hl
        refine lv_iload_n hx hb dX12_octaves_14 rfl (lv_at hl 0 rfl) ?_
        refine lv_aload_n hx hb dX12_octaves_15 rfl (lv_at hl 2 rfl) ?_
        refine iv_getr X ft_X12 hB a_h0 sh_12 0 (by decide) rfl k_fl_X12_7 dX12_octaves_16 (fun b8 g_b8 r_b8 e_b8 a_b8 => ?_)
        refine lv_sipush (v := 146) hx hb dX12_octaves_19 (by decide) ?_
        refine iv_wald_c X hB a_b8 q_146 (by decide) (lo := 0) (hi' := 10) (by decide) dX12_octaves_22 (fun x9 e_x9 i_x9 => ?_)
        refine lv_icmp_ge (tgt := 67) hx hb dX12_octaves_23 (by decide) (fun c10 => ?_) (fun c10 => ?_)
        · skip
          refine lv_iload_n hx hb dX12_octaves_67 rfl (lv_at hl 1 rfl) ?_
          exact iv_iret X hr hlocks hB ⟨rfl, (i_x6.wk (by decide))⟩ dX12_octaves_68
        · skip
          have i10_x7 : iv_R 0 9 x7 := (i_x7.cutHi (n := 9) (iv_lt_r (iv_nle c10) i_x9 (by decide)))
          have i11_x9 : iv_R 1 10 x9 := (i_x9.cutLo (n := 1) (iv_lt_l (iv_nle c10) i_x7 (by decide)))
          refine lv_iload_n hx hb dX12_octaves_26 rfl (lv_at hl 1 rfl) ?_
          refine lv_iload_n hx hb dX12_octaves_27 rfl (lv_at hl 0 rfl) ?_
          refine lv_iload_n hx hb dX12_octaves_28 rfl (lv_at hl 3 rfl) ?_
          refine lv_icmp_eq (tgt := 58) hx hb dX12_octaves_29 (by decide) (fun c13 => ?_) (fun c13 => ?_)
          · skip
            refine lv_iconst (v := 0) hx hb dX12_octaves_58 (by decide) ?_
            refine iv_ior hx hb i_x6 q_0 (k := 11) (hi := 2047) (by decide) dX12_octaves_59 (fun x14 e_x14 i_x14 => ?_)
            refine lv_istore_n (lv' := [(2, .int x14), (3, .int x7), (0, .ref h0), (1, .int x_0)]) hx hb dX12_octaves_60 rfl hl (by decide) rfl (fun ls hl => ?_)
            refine iv_iinc hx hb i10_x7 (lo := 1) (hi := 10) (by decide) dX12_octaves_61 hl (k := 1) rfl (by decide) (fun x15 ls e_x15 i_x15 hl => ?_)
            have hl : lv_has ls 4 [(3, .int x15), (2, .int x14), (0, .ref h0), (1, .int x_0)] := hl
            refine lv_goto (tgt := 14) hx hb dX12_octaves_64 (by decide) ?_
            exact ih_14 _ _ hB x14 i_x14 x15 (i_x15.wk (by decide)) (iv_mup (c := 1) i_x7 (by decide) (by decide) (by omega) hn_14) _ (lv_sub hl [0, 1, 2, 3] rfl)
          · skip
            refine lv_aload_n hx hb dX12_octaves_32 rfl (lv_at hl 2 rfl) ?_
            refine lv_iload_n hx hb dX12_octaves_33 rfl (lv_at hl 0 rfl) ?_
            refine lv_bipush (v := 6) hx hb dX12_octaves_34 (by decide) ?_
            refine iv_cVi X k_good k_mf_X12_ofBell k_im_X12_ofBell k_sel_X12_ofBell k_ml_X12_282 ft_X12 hB a_h0 sh_12 (As := [.int x7, .int 6]) (c_X12_ofBell l D tys base G h0 g_h0 r_h0 a_h0 x7 i10_x7 6 (q_6.wk (by decide))) ⟨rfl, rfl⟩ ⟨Nat.le_of_ble_eq_true rfl, Nat.le_of_ble_eq_true rfl⟩ ⟨Nat.le_of_ble_eq_true rfl, Nat.le_of_ble_eq_true rfl⟩ rfl rfl hl.1 (Nat.le_of_ble_eq_true rfl) dX12_octaves_36 (fun x16 G9 H locs hq hB => ?_)
            obtain ⟨rfl, i_x16, cp17, cp18⟩ := hq
            refine lv_iconst (v := 2) hx hb dX12_octaves_39 (by decide) ?_
            refine lv_icmp_eq (tgt := 58) hx hb dX12_octaves_40 (by decide) (fun c19 => ?_) (fun c19 => ?_)
            · skip
              have i19_x16 : iv_R 2 2 x16 := ((i_x16.cutLo (n := 2) (iv_eq_r c19 q_2).1).cutHi (n := 2) (iv_eq_r c19 q_2).2)
              refine lv_iconst (v := 0) hx hb dX12_octaves_58 (by decide) ?_
              refine iv_ior hx hb i_x6 q_0 (k := 11) (hi := 2047) (by decide) dX12_octaves_59 (fun x21 e_x21 i_x21 => ?_)
              refine lv_istore_n (lv' := [(2, .int x21), (3, .int x7), (0, .ref h0), (1, .int x_0)]) hx hb dX12_octaves_60 rfl hl (by decide) rfl (fun ls hl => ?_)
              refine iv_iinc hx hb i10_x7 (lo := 1) (hi := 10) (by decide) dX12_octaves_61 hl (k := 1) rfl (by decide) (fun x22 ls e_x22 i_x22 hl => ?_)
              have hl : lv_has ls 4 [(3, .int x22), (2, .int x21), (0, .ref h0), (1, .int x_0)] := hl
              refine lv_goto (tgt := 14) hx hb dX12_octaves_64 (by decide) ?_
              exact ih_14 _ _ hB x21 i_x21 x22 (i_x22.wk (by decide)) (iv_mup (c := 1) i_x7 (by decide) (by decide) (by omega) hn_14) _ (lv_sub hl [0, 1, 2, 3] rfl)
            · skip
              refine lv_aload_n hx hb dX12_octaves_43 rfl (lv_at hl 2 rfl) ?_
              refine lv_iload_n hx hb dX12_octaves_44 rfl (lv_at hl 0 rfl) ?_
              refine lv_iload_n hx hb dX12_octaves_45 rfl (lv_at hl 3 rfl) ?_
              refine iv_cVi X k_good k_mf_X12_isOctave k_im_X12_isOctave k_sel_X12_isOctave k_ml_X12_326 ft_X12 hB a_h0 sh_12 (As := [.int x7, .int x_0]) (c_X12_isOctave l D tys base G h0 g_h0 r_h0 a_h0 x7 i10_x7 x_0 i4_x_0) ⟨rfl, rfl⟩ ⟨Nat.le_of_ble_eq_true rfl, Nat.le_of_ble_eq_true rfl⟩ ⟨Nat.le_of_ble_eq_true rfl, Nat.le_of_ble_eq_true rfl⟩ rfl rfl hl.1 (Nat.le_of_ble_eq_true rfl) dX12_octaves_46 (fun x23 G9 H locs hq hB => ?_)
              obtain ⟨rfl, i_x23⟩ := hq
              refine lv_if_eq (tgt := 58) hx hb dX12_octaves_49 (by decide) (fun c24 => ?_) (fun c24 => ?_)
              · skip
                have i24_x23 : iv_R 0 0 x23 := (i_x23.cutHi (n := 0) (iv_eq_r c24 q_0).2)
                refine lv_iconst (v := 0) hx hb dX12_octaves_58 (by decide) ?_
                refine iv_ior hx hb i_x6 q_0 (k := 11) (hi := 2047) (by decide) dX12_octaves_59 (fun x26 e_x26 i_x26 => ?_)
                refine lv_istore_n (lv' := [(2, .int x26), (3, .int x7), (0, .ref h0), (1, .int x_0)]) hx hb dX12_octaves_60 rfl hl (by decide) rfl (fun ls hl => ?_)
                refine iv_iinc hx hb i10_x7 (lo := 1) (hi := 10) (by decide) dX12_octaves_61 hl (k := 1) rfl (by decide) (fun x27 ls e_x27 i_x27 hl => ?_)
                have hl : lv_has ls 4 [(3, .int x27), (2, .int x26), (0, .ref h0), (1, .int x_0)] := hl
                refine lv_goto (tgt := 14) hx hb dX12_octaves_64 (by decide) ?_
                exact ih_14 _ _ hB x26 i_x26 x27 (i_x27.wk (by decide)) (iv_mup (c := 1) i_x7 (by decide) (by decide) (by omega) hn_14) _ (lv_sub hl [0, 1, 2, 3] rfl)
              · skip
                have i27_x23 : iv_R 1 1 x23 := iv_ne_lo c24 i_x23 q_0 (by decide)
                refine lv_iconst (v := 1) hx hb dX12_octaves_52 (by decide) ?_
                refine lv_iload_n hx hb dX12_octaves_53 rfl (lv_at hl 0 rfl) ?_
                refine iv_shl1 hx hb i10_x7 (lo := 1) (hi := 512) (by decide) dX12_octaves_54 (fun x29 e_x29 i_x29 => ?_)
                refine lv_goto (tgt := 59) hx hb dX12_octaves_55 (by decide) ?_
                refine iv_ior hx hb i_x6 i_x29 (k := 11) (hi := 2047) (by decide) dX12_octaves_59 (fun x30 e_x30 i_x30 => ?_)
                refine lv_istore_n (lv' := [(2, .int x30), (3, .int x7), (0, .ref h0), (1, .int x_0)]) hx hb dX12_octaves_60 rfl hl (by decide) rfl (fun ls hl => ?_)
                refine iv_iinc hx hb i10_x7 (lo := 1) (hi := 10) (by decide) dX12_octaves_61 hl (k := 1) rfl (by decide) (fun x31 ls e_x31 i_x31 hl => ?_)
                have hl : lv_has ls 4 [(3, .int x31), (2, .int x30), (0, .ref h0), (1, .int x_0)] := hl
                refine lv_goto (tgt := 14) hx hb dX12_octaves_64 (by decide) ?_
                exact ih_14 _ _ hB x30 i_x30 x31 (i_x31.wk (by decide)) (iv_mup (c := 1) i_x7 (by decide) (by decide) (by omega) hn_14) _ (lv_sub hl [0, 1, 2, 3] rfl)
    exact L_14 _ _ _ hB 0 (q_0.wk (by decide)) 0 (q_0.wk (by decide)) (Nat.lt_succ_self _) _ (lv_sub hl [0, 1, 2, 3] rfl)
  · skip
    have i31_x1 : iv_R 0 0 x1 := (i_x1.cutHi (n := 0) (iv_eq_r c3 q_0).2)
    refine lv_iconst (v := (-1)) hx hb dX12_octaves_8 (by decide) ?_
    exact iv_iret X hr hlocks hB ⟨rfl, (q_n1.wk (by decide))⟩ dX12_octaves_9
theorem dX12_of_0 : decode cX12_of 0 = .ok (.aload_n 0, 1) := by decide +kernel
theorem dX12_of_1 : decode cX12_of 1 = .ok (.iload_n 1, 1) := by decide +kernel
theorem dX12_of_2 : decode cX12_of 2 = .ok (.invokevirtual 76, 3) := by decide +kernel
theorem dX12_of_5 : decode cX12_of 5 = .ok (.ifCond .ne 6, 3) := by decide +kernel
theorem dX12_of_8 : decode cX12_of 8 = .ok (.bipush (-2), 2) := by decide +kernel
theorem dX12_of_10 : decode cX12_of 10 = .ok (.ireturn, 1) := by decide +kernel
theorem dX12_of_11 : decode cX12_of 11 = .ok (.iload_n 2, 1) := by decide +kernel
theorem dX12_of_12 : decode cX12_of 12 = .ok (.tableswitch 56 8 11 #[32, 38, 44, 50], 32) := by decide +kernel
theorem dX12_of_44 : decode cX12_of 44 = .ok (.aload_n 0, 1) := by decide +kernel
theorem dX12_of_45 : decode cX12_of 45 = .ok (.iload_n 1, 1) := by decide +kernel
theorem dX12_of_46 : decode cX12_of 46 = .ok (.invokevirtual 353, 3) := by decide +kernel
theorem dX12_of_49 : decode cX12_of 49 = .ok (.ireturn, 1) := by decide +kernel
theorem dX12_of_50 : decode cX12_of 50 = .ok (.aload_n 0, 1) := by decide +kernel
theorem dX12_of_51 : decode cX12_of 51 = .ok (.iload_n 1, 1) := by decide +kernel
theorem dX12_of_52 : decode cX12_of 52 = .ok (.invokevirtual 317, 3) := by decide +kernel
theorem dX12_of_55 : decode cX12_of 55 = .ok (.ireturn, 1) := by decide +kernel
theorem dX12_of_56 : decode cX12_of 56 = .ok (.aload_n 0, 1) := by decide +kernel
theorem dX12_of_57 : decode cX12_of 57 = .ok (.iload_n 1, 1) := by decide +kernel
theorem dX12_of_58 : decode cX12_of 58 = .ok (.invokevirtual 344, 3) := by decide +kernel
theorem dX12_of_61 : decode cX12_of 61 = .ok (.ireturn, 1) := by decide +kernel
theorem dX12_of_62 : decode cX12_of 62 = .ok (.aload_n 0, 1) := by decide +kernel
theorem dX12_of_63 : decode cX12_of 63 = .ok (.iload_n 1, 1) := by decide +kernel
theorem dX12_of_64 : decode cX12_of 64 = .ok (.invokevirtual 347, 3) := by decide +kernel
theorem dX12_of_67 : decode cX12_of 67 = .ok (.ireturn, 1) := by decide +kernel
theorem dX12_of_68 : decode cX12_of 68 = .ok (.iload_n 2, 1) := by decide +kernel
theorem dX12_of_69 : decode cX12_of 69 = .ok (.iconst 0, 1) := by decide +kernel
theorem dX12_of_70 : decode cX12_of 70 = .ok (.bipush 7, 2) := by decide +kernel
theorem dX12_of_72 : decode cX12_of 72 = .ok (.invokestatic 56, 3) := by decide +kernel
theorem dX12_of_75 : decode cX12_of 75 = .ok (.ifCond .eq 12, 3) := by decide +kernel
theorem dX12_of_78 : decode cX12_of 78 = .ok (.aload_n 0, 1) := by decide +kernel
theorem dX12_of_79 : decode cX12_of 79 = .ok (.iload_n 1, 1) := by decide +kernel
theorem dX12_of_80 : decode cX12_of 80 = .ok (.iload_n 2, 1) := by decide +kernel
theorem dX12_of_81 : decode cX12_of 81 = .ok (.invokevirtual 282, 3) := by decide +kernel
theorem dX12_of_84 : decode cX12_of 84 = .ok (.goto 5, 3) := by decide +kernel
theorem dX12_of_87 : decode cX12_of 87 = .ok (.bipush (-2), 2) := by decide +kernel
theorem dX12_of_89 : decode cX12_of 89 = .ok (.ireturn, 1) := by decide +kernel
set_option maxHeartbeats 4000000 in
set_option maxRecDepth 100000 in
theorem c_X12_of (l : Launch) (D : va_G) (tys : List (ClassId × FieldType)) (base : Nat) (G : iv_G) (h0 : Nat) (g_h0 : Nat → Int32) (r_h0 : Nat → Nat) (a_h0 : G h0 = some (12, g_h0, r_h0)) (x_0 : Int32) (i_x_0 : iv_R (-2147483648) 2147483647 x_0) (x_1 : Int32) (i_x_1 : iv_R (-2147483648) 2147483647 x_1) : Met l yX12_of (Cond.code yX12_of cX12_of 3 (some .int) :: iv_W0) ({ frames := 10, cells := 0, slots := 0, locals := 232 }) (iv_Pc iv_sh D classes tys base G [.ref h0, .int x_0, .int x_1]) (iv_Qi iv_sh D classes tys base (fun v G' => iv_Md [67, 68] G G' ∧ iv_R (-2147483648) 2147483647 v)) 0 0 (iv_A base) := by
  refine iv_head (by decide) (Nat.le_of_ble_eq_true rfl) ?_
  intro p e s m args below meth c ls X hr hlocks hname hB hl
  have X := X
  have hx := X.1.1
  have hb := X.1.2.1
  have hM : iv_Md [67, 68] G G := iv_Md.rf
  have hl : lv_has ls 3 [(0, .ref h0), (1, .int x_0), (2, .int x_1)] := hl
  refine lv_aload_n hx hb dX12_of_0 rfl (lv_at hl 0 rfl) ?_
  refine lv_iload_n hx hb dX12_of_1 rfl (lv_at hl 1 rfl) ?_
  refine iv_cVi X k_good k_mf_X12_isBell k_im_X12_isBell k_sel_X12_isBell k_ml_X12_76 ft_X12 hB a_h0 sh_12 (As := [.int x_0]) (c_X12_isBell l D tys base G h0 g_h0 r_h0 a_h0 x_0 i_x_0) ⟨rfl, rfl⟩ ⟨Nat.le_of_ble_eq_true rfl, Nat.le_of_ble_eq_true rfl⟩ ⟨Nat.le_of_ble_eq_true rfl, Nat.le_of_ble_eq_true rfl⟩ rfl rfl hl.1 (Nat.le_of_ble_eq_true rfl) dX12_of_2 (fun x1 G9 H locs hq hB => ?_)
  obtain ⟨rfl, i_x1, hp2⟩ := hq
  refine lv_if_ne (tgt := 11) hx hb dX12_of_5 (by decide) (fun c3 => ?_) (fun c3 => ?_)
  · skip
    have i3_x1 : iv_R 1 1 x1 := iv_ne_lo c3 i_x1 q_0 (by decide)
    have i4_x_0 : iv_R 0 9 x_0 := ((i_x_0.cutLo (n := 0) (hp2 c3).1).cutHi (n := 9) (hp2 c3).2)
    refine lv_iload_n hx hb dX12_of_11 rfl (lv_at hl 2 rfl) ?_
    by_cases w6 : x_1.toInt = 8
    · skip
      refine lv_tableIn (tgt := 44) hx hb dX12_of_12 (by omega) (by omega) (by rw [w6]; rfl) (by decide) ?_
      have w6i : iv_R 8 8 x_1 := iv_lit w6
      refine lv_aload_n hx hb dX12_of_44 rfl (lv_at hl 0 rfl) ?_
      refine lv_iload_n hx hb dX12_of_45 rfl (lv_at hl 1 rfl) ?_
      refine iv_cVi X k_good k_mf_X12_soundingOf k_im_X12_soundingOf k_sel_X12_soundingOf k_ml_X12_353 ft_X12 hB a_h0 sh_12 (As := [.int x_0]) (c_X12_soundingOf l D tys base G h0 g_h0 r_h0 a_h0 x_0 i4_x_0) ⟨rfl, rfl⟩ ⟨Nat.le_of_ble_eq_true rfl, Nat.le_of_ble_eq_true rfl⟩ ⟨Nat.le_of_ble_eq_true rfl, Nat.le_of_ble_eq_true rfl⟩ rfl rfl hl.1 (Nat.le_of_ble_eq_true rfl) dX12_of_46 (fun x7 G9 H locs hq hB => ?_)
      obtain ⟨rfl, i_x7⟩ := hq
      exact iv_iret X hr hlocks hB ⟨hM, (i_x7.wk (by decide))⟩ dX12_of_49
    skip
    by_cases w8 : x_1.toInt = 9
    · skip
      refine lv_tableIn (tgt := 50) hx hb dX12_of_12 (by omega) (by omega) (by rw [w8]; rfl) (by decide) ?_
      have w8i : iv_R 9 9 x_1 := iv_lit w8
      refine lv_aload_n hx hb dX12_of_50 rfl (lv_at hl 0 rfl) ?_
      refine lv_iload_n hx hb dX12_of_51 rfl (lv_at hl 1 rfl) ?_
      refine iv_cVi X k_good k_mf_X12_clearOf k_im_X12_clearOf k_sel_X12_clearOf k_ml_X12_317 ft_X12 hB a_h0 sh_12 (As := [.int x_0]) (c_X12_clearOf l D tys base G h0 g_h0 r_h0 a_h0 x_0 i4_x_0) ⟨rfl, rfl⟩ ⟨Nat.le_of_ble_eq_true rfl, Nat.le_of_ble_eq_true rfl⟩ ⟨Nat.le_of_ble_eq_true rfl, Nat.le_of_ble_eq_true rfl⟩ rfl rfl hl.1 (Nat.le_of_ble_eq_true rfl) dX12_of_52 (fun x9 G9 H locs hq hB => ?_)
      obtain ⟨hm, i_x9⟩ := hq
      obtain ⟨G10, hG9⟩ : ∃ g, g = G9 := ⟨_, rfl⟩
      rw [← hG9] at hm hB
      have hM := hM.stp hm (by decide)
      have a_h0 := hm.at a_h0 (by decide)
      exact iv_iret X hr hlocks hB ⟨hM, (i_x9.wk (by decide))⟩ dX12_of_55
    skip
    by_cases w11 : x_1.toInt = 10
    · skip
      refine lv_tableIn (tgt := 56) hx hb dX12_of_12 (by omega) (by omega) (by rw [w11]; rfl) (by decide) ?_
      have w11i : iv_R 10 10 x_1 := iv_lit w11
      refine lv_aload_n hx hb dX12_of_56 rfl (lv_at hl 0 rfl) ?_
      refine lv_iload_n hx hb dX12_of_57 rfl (lv_at hl 1 rfl) ?_
      refine iv_cVi X k_good k_mf_X12_comeOf k_im_X12_comeOf k_sel_X12_comeOf k_ml_X12_344 ft_X12 hB a_h0 sh_12 (As := [.int x_0]) (c_X12_comeOf l D tys base G h0 g_h0 r_h0 a_h0 x_0 i4_x_0) ⟨rfl, rfl⟩ ⟨Nat.le_of_ble_eq_true rfl, Nat.le_of_ble_eq_true rfl⟩ ⟨Nat.le_of_ble_eq_true rfl, Nat.le_of_ble_eq_true rfl⟩ rfl rfl hl.1 (Nat.le_of_ble_eq_true rfl) dX12_of_58 (fun x12 G9 H locs hq hB => ?_)
      obtain ⟨hm, i_x12⟩ := hq
      obtain ⟨G13, hG9⟩ : ∃ g, g = G9 := ⟨_, rfl⟩
      rw [← hG9] at hm hB
      have hM := hM.stp hm (by decide)
      have a_h0 := hm.at a_h0 (by decide)
      exact iv_iret X hr hlocks hB ⟨hM, i_x12⟩ dX12_of_61
    skip
    by_cases w14 : x_1.toInt = 11
    · skip
      refine lv_tableIn (tgt := 62) hx hb dX12_of_12 (by omega) (by omega) (by rw [w14]; rfl) (by decide) ?_
      have w14i : iv_R 11 11 x_1 := iv_lit w14
      refine lv_aload_n hx hb dX12_of_62 rfl (lv_at hl 0 rfl) ?_
      refine lv_iload_n hx hb dX12_of_63 rfl (lv_at hl 1 rfl) ?_
      refine iv_cVi X k_good k_mf_X12_slackOf k_im_X12_slackOf k_sel_X12_slackOf k_ml_X12_347 ft_X12 hB a_h0 sh_12 (As := [.int x_0]) (c_X12_slackOf l D tys base G h0 g_h0 r_h0 a_h0 x_0 i4_x_0) ⟨rfl, rfl⟩ ⟨Nat.le_of_ble_eq_true rfl, Nat.le_of_ble_eq_true rfl⟩ ⟨Nat.le_of_ble_eq_true rfl, Nat.le_of_ble_eq_true rfl⟩ rfl rfl hl.1 (Nat.le_of_ble_eq_true rfl) dX12_of_64 (fun x15 G9 H locs hq hB => ?_)
      obtain ⟨hm, i_x15⟩ := hq
      obtain ⟨G16, hG9⟩ : ∃ g, g = G9 := ⟨_, rfl⟩
      rw [← hG9] at hm hB
      have hM := hM.stp hm (by decide)
      have a_h0 := hm.at a_h0 (by decide)
      exact iv_iret X hr hlocks hB ⟨hM, i_x15⟩ dX12_of_67
    skip
    refine lv_tableOut (tgt := 68) hx hb dX12_of_12 (by have := i_x_1.1; have := i_x_1.2; omega) (by decide) ?_
    refine lv_iload_n hx hb dX12_of_68 rfl (lv_at hl 2 rfl) ?_
    refine lv_iconst (v := 0) hx hb dX12_of_69 (by decide) ?_
    refine lv_bipush (v := 7) hx hb dX12_of_70 (by decide) ?_
    refine iv_cSi X k_good k_mf_X12_isIn k_st_X12_isIn k_ml_X12_56 hB (As := [.int x_1, .int 0, .int 7]) (c_X12_isIn l D tys base G x_1 i_x_1 0 (q_0.wk (by decide)) 7 (q_7.wk (by decide))) ⟨rfl, rfl⟩ ⟨Nat.le_of_ble_eq_true rfl, Nat.le_of_ble_eq_true rfl⟩ ⟨Nat.le_of_ble_eq_true rfl, Nat.le_of_ble_eq_true rfl⟩ rfl rfl hl.1 (Nat.le_of_ble_eq_true rfl) dX12_of_72 (fun x17 G9 H locs hq hB => ?_)
    obtain ⟨rfl, i_x17, hp18⟩ := hq
    have k19 : ¬ x17 = 0 → iv_R 0 7 x_1 := fun h => ⟨iv_max i_x_1.1 (Int.le_trans q_0.1 (hp18.1 h).1) (by decide), iv_min i_x_1.2 (Int.le_trans (hp18.1 h).2 q_7.2) (by decide)⟩
    refine lv_if_eq (tgt := 87) hx hb dX12_of_75 (by decide) (fun c20 => ?_) (fun c20 => ?_)
    · skip
      have i20_x17 : iv_R 0 0 x17 := (i_x17.cutHi (n := 0) (iv_eq_r c20 q_0).2)
      refine lv_bipush (v := (-2)) hx hb dX12_of_87 (by decide) ?_
      exact iv_iret X hr hlocks hB ⟨hM, (q_n2.wk (by decide))⟩ dX12_of_89
    · skip
      have i21_x17 : iv_R 1 1 x17 := iv_ne_lo c20 i_x17 q_0 (by decide)
      have i22_x_1 : iv_R 0 7 x_1 := ((i_x_1.cutLo (n := 0) (k19 c20).1).cutHi (n := 7) (k19 c20).2)
      refine lv_aload_n hx hb dX12_of_78 rfl (lv_at hl 0 rfl) ?_
      refine lv_iload_n hx hb dX12_of_79 rfl (lv_at hl 1 rfl) ?_
      refine lv_iload_n hx hb dX12_of_80 rfl (lv_at hl 2 rfl) ?_
      refine iv_cVi X k_good k_mf_X12_ofBell k_im_X12_ofBell k_sel_X12_ofBell k_ml_X12_282 ft_X12 hB a_h0 sh_12 (As := [.int x_0, .int x_1]) (c_X12_ofBell l D tys base G h0 g_h0 r_h0 a_h0 x_0 i4_x_0 x_1 i22_x_1) ⟨rfl, rfl⟩ ⟨Nat.le_of_ble_eq_true rfl, Nat.le_of_ble_eq_true rfl⟩ ⟨Nat.le_of_ble_eq_true rfl, Nat.le_of_ble_eq_true rfl⟩ rfl rfl hl.1 (Nat.le_of_ble_eq_true rfl) dX12_of_81 (fun x24 G9 H locs hq hB => ?_)
      obtain ⟨rfl, i_x24, cp25, cp26⟩ := hq
      refine lv_goto (tgt := 89) hx hb dX12_of_84 (by decide) ?_
      exact iv_iret X hr hlocks hB ⟨hM, i_x24⟩ dX12_of_89
  · skip
    have i26_x1 : iv_R 0 0 x1 := (i_x1.cutHi (n := 0) (iv_eq_r c3 q_0).2)
    refine lv_bipush (v := (-2)) hx hb dX12_of_8 (by decide) ?_
    exact iv_iret X hr hlocks hB ⟨hM, (q_n2.wk (by decide))⟩ dX12_of_10
theorem dX12_placed_0 : decode cX12_placed 0 = .ok (.aload_n 0, 1) := by decide +kernel
theorem dX12_placed_1 : decode cX12_placed 1 = .ok (.iload_n 1, 1) := by decide +kernel
theorem dX12_placed_2 : decode cX12_placed 2 = .ok (.invokevirtual 386, 3) := by decide +kernel
theorem dX12_placed_5 : decode cX12_placed 5 = .ok (.ifCond .ne 5, 3) := by decide +kernel
theorem dX12_placed_8 : decode cX12_placed 8 = .ok (.iconst (-1), 1) := by decide +kernel
theorem dX12_placed_9 : decode cX12_placed 9 = .ok (.ireturn, 1) := by decide +kernel
theorem dX12_placed_10 : decode cX12_placed 10 = .ok (.aload_n 0, 1) := by decide +kernel
theorem dX12_placed_11 : decode cX12_placed 11 = .ok (.iload_n 1, 1) := by decide +kernel
theorem dX12_placed_12 : decode cX12_placed 12 = .ok (.iconst 0, 1) := by decide +kernel
theorem dX12_placed_13 : decode cX12_placed 13 = .ok (.invokevirtual 282, 3) := by decide +kernel
theorem dX12_placed_16 : decode cX12_placed 16 = .ok (.istore_n 2, 1) := by decide +kernel
theorem dX12_placed_17 : decode cX12_placed 17 = .ok (.iconst (-1), 1) := by decide +kernel
theorem dX12_placed_18 : decode cX12_placed 18 = .ok (.istore_n 3, 1) := by decide +kernel
theorem dX12_placed_19 : decode cX12_placed 19 = .ok (.iconst (-1), 1) := by decide +kernel
theorem dX12_placed_20 : decode cX12_placed 20 = .ok (.istore 4, 2) := by decide +kernel
theorem dX12_placed_22 : decode cX12_placed 22 = .ok (.iconst 0, 1) := by decide +kernel
theorem dX12_placed_23 : decode cX12_placed 23 = .ok (.istore 5, 2) := by decide +kernel
theorem dX12_placed_25 : decode cX12_placed 25 = .ok (.iload 5, 2) := by decide +kernel
theorem dX12_placed_27 : decode cX12_placed 27 = .ok (.iconst 4, 1) := by decide +kernel
theorem dX12_placed_28 : decode cX12_placed 28 = .ok (.if_icmp .ge 44, 3) := by decide +kernel
theorem dX12_placed_31 : decode cX12_placed 31 = .ok (.aload_n 0, 1) := by decide +kernel
theorem dX12_placed_32 : decode cX12_placed 32 = .ok (.iload_n 1, 1) := by decide +kernel
theorem dX12_placed_33 : decode cX12_placed 33 = .ok (.iconst 0, 1) := by decide +kernel
theorem dX12_placed_34 : decode cX12_placed 34 = .ok (.iload 5, 2) := by decide +kernel
theorem dX12_placed_36 : decode cX12_placed 36 = .ok (.invokevirtual 72, 3) := by decide +kernel
theorem dX12_placed_39 : decode cX12_placed 39 = .ok (.aload_n 0, 1) := by decide +kernel
theorem dX12_placed_40 : decode cX12_placed 40 = .ok (.iload_n 1, 1) := by decide +kernel
theorem dX12_placed_41 : decode cX12_placed 41 = .ok (.invokevirtual 317, 3) := by decide +kernel
theorem dX12_placed_44 : decode cX12_placed 44 = .ok (.invokestatic 320, 3) := by decide +kernel
theorem dX12_placed_47 : decode cX12_placed 47 = .ok (.istore 6, 2) := by decide +kernel
theorem dX12_placed_49 : decode cX12_placed 49 = .ok (.iload 6, 2) := by decide +kernel
theorem dX12_placed_51 : decode cX12_placed 51 = .ok (.iload 4, 2) := by decide +kernel
theorem dX12_placed_53 : decode cX12_placed 53 = .ok (.if_icmp .gt 6, 3) := by decide +kernel
theorem dX12_placed_56 : decode cX12_placed 56 = .ok (.goto 10, 3) := by decide +kernel
theorem dX12_placed_59 : decode cX12_placed 59 = .ok (.iload 6, 2) := by decide +kernel
theorem dX12_placed_61 : decode cX12_placed 61 = .ok (.istore 4, 2) := by decide +kernel
theorem dX12_placed_63 : decode cX12_placed 63 = .ok (.iload 5, 2) := by decide +kernel
theorem dX12_placed_65 : decode cX12_placed 65 = .ok (.istore_n 3, 1) := by decide +kernel
theorem dX12_placed_66 : decode cX12_placed 66 = .ok (.iinc 5 1, 3) := by decide +kernel
theorem dX12_placed_69 : decode cX12_placed 69 = .ok (.goto (-44), 3) := by decide +kernel
theorem dX12_placed_72 : decode cX12_placed 72 = .ok (.aload_n 0, 1) := by decide +kernel
theorem dX12_placed_73 : decode cX12_placed 73 = .ok (.iload_n 1, 1) := by decide +kernel
theorem dX12_placed_74 : decode cX12_placed 74 = .ok (.iconst 0, 1) := by decide +kernel
theorem dX12_placed_75 : decode cX12_placed 75 = .ok (.iload_n 2, 1) := by decide +kernel
theorem dX12_placed_76 : decode cX12_placed 76 = .ok (.invokevirtual 72, 3) := by decide +kernel
theorem dX12_placed_79 : decode cX12_placed 79 = .ok (.iload_n 3, 1) := by decide +kernel
theorem dX12_placed_80 : decode cX12_placed 80 = .ok (.ireturn, 1) := by decide +kernel
set_option maxHeartbeats 4000000 in
set_option maxRecDepth 100000 in
theorem c_X12_placed (l : Launch) (D : va_G) (tys : List (ClassId × FieldType)) (base : Nat) (G : iv_G) (h0 : Nat) (g_h0 : Nat → Int32) (r_h0 : Nat → Nat) (a_h0 : G h0 = some (12, g_h0, r_h0)) (x_0 : Int32) (i_x_0 : iv_R (-2147483648) 2147483647 x_0) : Met l yX12_placed (Cond.code yX12_placed cX12_placed 7 (some .int) :: iv_W0) ({ frames := 8, cells := 0, slots := 0, locals := 188 }) (iv_Pc iv_sh D classes tys base G [.ref h0, .int x_0]) (iv_Qi iv_sh D classes tys base (fun v G' => iv_Md [60, 67, 68] G G' ∧ iv_R (-1) 3 v)) 0 0 (iv_A base) := by
  refine iv_head (by decide) (Nat.le_of_ble_eq_true rfl) ?_
  intro p e s m args below meth c ls X hr hlocks hname hB hl
  have X := X
  have hx := X.1.1
  have hb := X.1.2.1
  have hM : iv_Md [60, 67, 68] G G := iv_Md.rf
  have hl : lv_has ls 7 [(0, .ref h0), (1, .int x_0)] := hl
  refine lv_aload_n hx hb dX12_placed_0 rfl (lv_at hl 0 rfl) ?_
  refine lv_iload_n hx hb dX12_placed_1 rfl (lv_at hl 1 rfl) ?_
  refine iv_cVi X k_good k_mf_X12_isRungBell k_im_X12_isRungBell k_sel_X12_isRungBell k_ml_X12_386 ft_X12 hB a_h0 sh_12 (As := [.int x_0]) (c_X12_isRungBell l D tys base G h0 g_h0 r_h0 a_h0 x_0 i_x_0) ⟨rfl, rfl⟩ ⟨Nat.le_of_ble_eq_true rfl, Nat.le_of_ble_eq_true rfl⟩ ⟨Nat.le_of_ble_eq_true rfl, Nat.le_of_ble_eq_true rfl⟩ rfl rfl hl.1 (Nat.le_of_ble_eq_true rfl) dX12_placed_2 (fun x1 G9 H locs hq hB => ?_)
  obtain ⟨rfl, i_x1, hp2⟩ := hq
  refine lv_if_ne (tgt := 10) hx hb dX12_placed_5 (by decide) (fun c3 => ?_) (fun c3 => ?_)
  · skip
    have i3_x1 : iv_R 1 1 x1 := iv_ne_lo c3 i_x1 q_0 (by decide)
    have i4_x_0 : iv_R 0 9 x_0 := ((i_x_0.cutLo (n := 0) (hp2 c3).1).cutHi (n := 9) (hp2 c3).2)
    refine lv_aload_n hx hb dX12_placed_10 rfl (lv_at hl 0 rfl) ?_
    refine lv_iload_n hx hb dX12_placed_11 rfl (lv_at hl 1 rfl) ?_
    refine lv_iconst (v := 0) hx hb dX12_placed_12 (by decide) ?_
    refine iv_cVi X k_good k_mf_X12_ofBell k_im_X12_ofBell k_sel_X12_ofBell k_ml_X12_282 ft_X12 hB a_h0 sh_12 (As := [.int x_0, .int 0]) (c_X12_ofBell l D tys base G h0 g_h0 r_h0 a_h0 x_0 i4_x_0 0 (q_0.wk (by decide))) ⟨rfl, rfl⟩ ⟨Nat.le_of_ble_eq_true rfl, Nat.le_of_ble_eq_true rfl⟩ ⟨Nat.le_of_ble_eq_true rfl, Nat.le_of_ble_eq_true rfl⟩ rfl rfl hl.1 (Nat.le_of_ble_eq_true rfl) dX12_placed_13 (fun x6 G9 H locs hq hB => ?_)
    obtain ⟨rfl, i_x6, cp7, cp8⟩ := hq
    have i8_x6 : iv_R 0 3 x6 := cp7 rfl
    refine lv_istore_n (lv' := [(2, .int x6), (0, .ref h0), (1, .int x_0)]) hx hb dX12_placed_16 rfl hl (by decide) rfl (fun ls hl => ?_)
    refine lv_iconst (v := (-1)) hx hb dX12_placed_17 (by decide) ?_
    refine lv_istore_n (lv' := [(3, .int (-1)), (2, .int x6), (0, .ref h0), (1, .int x_0)]) hx hb dX12_placed_18 rfl hl (by decide) rfl (fun ls hl => ?_)
    refine lv_iconst (v := (-1)) hx hb dX12_placed_19 (by decide) ?_
    refine lv_istore (lv' := [(4, .int (-1)), (3, .int (-1)), (2, .int x6), (0, .ref h0), (1, .int x_0)]) hx hb dX12_placed_20 hl (by decide) rfl (fun ls hl => ?_)
    refine lv_iconst (v := 0) hx hb dX12_placed_22 (by decide) ?_
    refine lv_istore (lv' := [(5, .int 0), (4, .int (-1)), (3, .int (-1)), (2, .int x6), (0, .ref h0), (1, .int x_0)]) hx hb dX12_placed_23 hl (by decide) rfl (fun ls hl => ?_)
    have L_25 : ∀ (n_25 : Nat) (G13 : iv_G) (hM : iv_Md [60, 67, 68] G G13) (H : Heap) (locs : List Loc) (hB : iv_B iv_sh D classes tys base G13 s.heap H locs) (a_h0 : G13 h0 = some (12, g_h0, r_h0)) (x10 : Int32) (i_x10 : iv_R (-1) 3 x10) (x11 : Int32) (i_x11 : iv_R (-1) 2147483647 x11) (x12 : Int32) (i_x12 : iv_R 0 4 x12) (hn_25 : (5 - x12.toInt).toNat < n_25) (ls : Array Slot) (hl : lv_has ls 7 [(5, .int x12), (4, .int x11), (3, .int x10), (2, .int x6), (0, .ref h0), (1, .int x_0)]), W p l e ({ frames := 8, cells := 0, slots := 0, locals := 188 } : Room) s m args below meth c H locs 0 0 (MQ below (iv_Qi iv_sh D classes tys base (fun v G' => iv_Md [60, 67, 68] G G' ∧ iv_R (-1) 3 v)) args s 0 0 (iv_A base)) (F0 m 25 ls []) := by
      intro n_25
      induction n_25 with
      | zero => intro G13 hM H locs hB a_h0 x10 i_x10 x11 i_x11 x12 i_x12 hn_25 ls hl; exact absurd hn_25 (Nat.not_lt_zero _)
      | succ n_25 ih_25 =>
        intro G13 hM H locs hB a_h0 x10 i_x10 x11 i_x11 x12 i_x12 hn_25 ls hl
        refine lv_iload hx hb dX12_placed_25 (lv_at hl 0 rfl) ?_
        refine lv_iconst (v := 4) hx hb dX12_placed_27 (by decide) ?_
        refine lv_icmp_ge (tgt := 72) hx hb dX12_placed_28 (by decide) (fun c14 => ?_) (fun c14 => ?_)
        · skip
          have i14_x12 : iv_R 4 4 x12 := (i_x12.cutLo (n := 4) (iv_le_l c14 q_4))
          refine lv_aload_n hx hb dX12_placed_72 rfl (lv_at hl 4 rfl) ?_
          refine lv_iload_n hx hb dX12_placed_73 rfl (lv_at hl 5 rfl) ?_
          refine lv_iconst (v := 0) hx hb dX12_placed_74 (by decide) ?_
          refine lv_iload_n hx hb dX12_placed_75 rfl (lv_at hl 3 rfl) ?_
          refine iv_cVv X k_good k_mf_X12_bells k_im_X12_bells k_sel_X12_bells k_ml_X12_72 ft_X12 hB a_h0 sh_12 (As := [.int x_0, .int 0, .int x6]) (c_X12_bells l D tys base G13 h0 g_h0 r_h0 a_h0 x_0 i4_x_0 0 (q_0.wk (by decide)) x6 (i8_x6.wk (by decide)) (fun _ => i8_x6) (fun h => absurd h (by decide))) ⟨rfl, rfl⟩ ⟨Nat.le_of_ble_eq_true rfl, Nat.le_of_ble_eq_true rfl⟩ ⟨Nat.le_of_ble_eq_true rfl, Nat.le_of_ble_eq_true rfl⟩ rfl rfl hl.1 (Nat.le_of_ble_eq_true rfl) dX12_placed_76 (fun G9 H locs hq hB => ?_)
          have hm := hq
          obtain ⟨G16, hG9⟩ : ∃ g, g = G9 := ⟨_, rfl⟩
          rw [← hG9] at hm hB
          have hM := hM.stp hm (by decide)
          have a_h0 := hm.at a_h0 (by decide)
          refine lv_iload_n hx hb dX12_placed_79 rfl (lv_at hl 2 rfl) ?_
          exact iv_iret X hr hlocks hB ⟨hM, i_x10⟩ dX12_placed_80
        · skip
          have i16_x12 : iv_R 0 3 x12 := (i_x12.cutHi (n := 3) (iv_lt_r (iv_nle c14) q_4 (by decide)))
          refine lv_aload_n hx hb dX12_placed_31 rfl (lv_at hl 4 rfl) ?_
          refine lv_iload_n hx hb dX12_placed_32 rfl (lv_at hl 5 rfl) ?_
          refine lv_iconst (v := 0) hx hb dX12_placed_33 (by decide) ?_
          refine lv_iload hx hb dX12_placed_34 (lv_at hl 0 rfl) ?_
          refine iv_cVv X k_good k_mf_X12_bells k_im_X12_bells k_sel_X12_bells k_ml_X12_72 ft_X12 hB a_h0 sh_12 (As := [.int x_0, .int 0, .int x12]) (c_X12_bells l D tys base G13 h0 g_h0 r_h0 a_h0 x_0 i4_x_0 0 (q_0.wk (by decide)) x12 (i16_x12.wk (by decide)) (fun _ => i16_x12) (fun h => absurd h (by decide))) ⟨rfl, rfl⟩ ⟨Nat.le_of_ble_eq_true rfl, Nat.le_of_ble_eq_true rfl⟩ ⟨Nat.le_of_ble_eq_true rfl, Nat.le_of_ble_eq_true rfl⟩ rfl rfl hl.1 (Nat.le_of_ble_eq_true rfl) dX12_placed_36 (fun G9 H locs hq hB => ?_)
          have hm := hq
          obtain ⟨G18, hG9⟩ : ∃ g, g = G9 := ⟨_, rfl⟩
          rw [← hG9] at hm hB
          have hM := hM.stp hm (by decide)
          have a_h0 := hm.at a_h0 (by decide)
          refine lv_aload_n hx hb dX12_placed_39 rfl (lv_at hl 4 rfl) ?_
          refine lv_iload_n hx hb dX12_placed_40 rfl (lv_at hl 5 rfl) ?_
          refine iv_cVi X k_good k_mf_X12_clearOf k_im_X12_clearOf k_sel_X12_clearOf k_ml_X12_317 ft_X12 hB a_h0 sh_12 (As := [.int x_0]) (c_X12_clearOf l D tys base G18 h0 g_h0 r_h0 a_h0 x_0 i4_x_0) ⟨rfl, rfl⟩ ⟨Nat.le_of_ble_eq_true rfl, Nat.le_of_ble_eq_true rfl⟩ ⟨Nat.le_of_ble_eq_true rfl, Nat.le_of_ble_eq_true rfl⟩ rfl rfl hl.1 (Nat.le_of_ble_eq_true rfl) dX12_placed_41 (fun x19 G9 H locs hq hB => ?_)
          obtain ⟨hm, i_x19⟩ := hq
          obtain ⟨G20, hG9⟩ : ∃ g, g = G9 := ⟨_, rfl⟩
          rw [← hG9] at hm hB
          have hM := hM.stp hm (by decide)
          have a_h0 := hm.at a_h0 (by decide)
          refine iv_cSi X k_good k_mf_X12_count k_st_X12_count k_ml_X12_320 hB (As := [.int x19]) (c_X12_count l D tys base G20 x19 (i_x19.wk (by decide))) ⟨rfl, rfl⟩ ⟨Nat.le_of_ble_eq_true rfl, Nat.le_of_ble_eq_true rfl⟩ ⟨Nat.le_of_ble_eq_true rfl, Nat.le_of_ble_eq_true rfl⟩ rfl rfl hl.1 (Nat.le_of_ble_eq_true rfl) dX12_placed_44 (fun x21 G9 H locs hq hB => ?_)
          obtain ⟨rfl, i_x21⟩ := hq
          refine lv_istore (lv' := [(6, .int x21), (5, .int x12), (4, .int x11), (3, .int x10), (2, .int x6), (0, .ref h0), (1, .int x_0)]) hx hb dX12_placed_47 hl (by decide) rfl (fun ls hl => ?_)
          refine lv_iload hx hb dX12_placed_49 (lv_at hl 0 rfl) ?_
          refine lv_iload hx hb dX12_placed_51 (lv_at hl 2 rfl) ?_
          refine lv_icmp_gt (tgt := 59) hx hb dX12_placed_53 (by decide) (fun c22 => ?_) (fun c22 => ?_)
          · skip
            have i22_x11 : iv_R (-1) 2147483646 x11 := (i_x11.cutHi (n := 2147483646) (iv_lt_r c22 i_x21 (by decide)))
            have i23_x21 : iv_R 0 2147483647 x21 := (i_x21.cutLo (n := 0) (iv_lt_l c22 i_x11 (by decide)))
            refine lv_iload hx hb dX12_placed_59 (lv_at hl 0 rfl) ?_
            refine lv_istore (lv' := [(4, .int x21), (6, .int x21), (5, .int x12), (3, .int x10), (2, .int x6), (0, .ref h0), (1, .int x_0)]) hx hb dX12_placed_61 hl (by decide) rfl (fun ls hl => ?_)
            refine lv_iload hx hb dX12_placed_63 (lv_at hl 2 rfl) ?_
            refine lv_istore_n (lv' := [(3, .int x12), (4, .int x21), (6, .int x21), (5, .int x12), (2, .int x6), (0, .ref h0), (1, .int x_0)]) hx hb dX12_placed_65 rfl hl (by decide) rfl (fun ls hl => ?_)
            refine iv_iinc hx hb i16_x12 (lo := 1) (hi := 4) (by decide) dX12_placed_66 hl (k := 3) rfl (by decide) (fun x25 ls e_x25 i_x25 hl => ?_)
            have hl : lv_has ls 7 [(5, .int x25), (3, .int x12), (4, .int x21), (6, .int x21), (2, .int x6), (0, .ref h0), (1, .int x_0)] := hl
            refine lv_goto (tgt := 25) hx hb dX12_placed_69 (by decide) ?_
            exact ih_25 G20 hM _ _ hB a_h0 x12 (i16_x12.wk (by decide)) x21 (i23_x21.wk (by decide)) x25 (i_x25.wk (by decide)) (iv_mup (c := 1) i_x12 (by decide) (by decide) (by omega) hn_25) _ (lv_sub hl [0, 2, 1, 4, 5, 6] rfl)
          · skip
            refine lv_goto (tgt := 66) hx hb dX12_placed_56 (by decide) ?_
            refine iv_iinc hx hb i16_x12 (lo := 1) (hi := 4) (by decide) dX12_placed_66 hl (k := 1) rfl (by decide) (fun x26 ls e_x26 i_x26 hl => ?_)
            have hl : lv_has ls 7 [(5, .int x26), (6, .int x21), (4, .int x11), (3, .int x10), (2, .int x6), (0, .ref h0), (1, .int x_0)] := hl
            refine lv_goto (tgt := 25) hx hb dX12_placed_69 (by decide) ?_
            exact ih_25 G20 hM _ _ hB a_h0 x10 i_x10 x11 i_x11 x26 (i_x26.wk (by decide)) (iv_mup (c := 1) i_x12 (by decide) (by decide) (by omega) hn_25) _ (lv_sub hl [0, 2, 3, 4, 5, 6] rfl)
    exact L_25 _ G hM _ _ hB a_h0 (-1) (q_n1.wk (by decide)) (-1) (q_n1.wk (by decide)) 0 (q_0.wk (by decide)) (Nat.lt_succ_self _) _ (lv_sub hl [0, 1, 2, 3, 4, 5] rfl)
  · skip
    have i26_x1 : iv_R 0 0 x1 := (i_x1.cutHi (n := 0) (iv_eq_r c3 q_0).2)
    refine lv_iconst (v := (-1)) hx hb dX12_placed_8 (by decide) ?_
    exact iv_iret X hr hlocks hB ⟨hM, (q_n1.wk (by decide))⟩ dX12_placed_9
theorem dX12_quarrels_0 : decode cX12_quarrels 0 = .ok (.iload_n 1, 1) := by decide +kernel
theorem dX12_quarrels_1 : decode cX12_quarrels 1 = .ok (.iconst 0, 1) := by decide +kernel
theorem dX12_quarrels_2 : decode cX12_quarrels 2 = .ok (.iconst 2, 1) := by decide +kernel
theorem dX12_quarrels_3 : decode cX12_quarrels 3 = .ok (.invokestatic 56, 3) := by decide +kernel
theorem dX12_quarrels_6 : decode cX12_quarrels 6 = .ok (.ifCond .ne 5, 3) := by decide +kernel
theorem dX12_quarrels_9 : decode cX12_quarrels 9 = .ok (.iconst (-1), 1) := by decide +kernel
theorem dX12_quarrels_10 : decode cX12_quarrels 10 = .ok (.ireturn, 1) := by decide +kernel
theorem dX12_quarrels_11 : decode cX12_quarrels 11 = .ok (.iconst 0, 1) := by decide +kernel
theorem dX12_quarrels_12 : decode cX12_quarrels 12 = .ok (.istore_n 2, 1) := by decide +kernel
theorem dX12_quarrels_13 : decode cX12_quarrels 13 = .ok (.iconst (-1), 1) := by decide +kernel
theorem dX12_quarrels_14 : decode cX12_quarrels 14 = .ok (.istore_n 3, 1) := by decide +kernel
theorem dX12_quarrels_15 : decode cX12_quarrels 15 = .ok (.iconst (-1), 1) := by decide +kernel
theorem dX12_quarrels_16 : decode cX12_quarrels 16 = .ok (.istore 4, 2) := by decide +kernel
theorem dX12_quarrels_18 : decode cX12_quarrels 18 = .ok (.iconst 0, 1) := by decide +kernel
theorem dX12_quarrels_19 : decode cX12_quarrels 19 = .ok (.istore 5, 2) := by decide +kernel
theorem dX12_quarrels_21 : decode cX12_quarrels 21 = .ok (.iload 5, 2) := by decide +kernel
theorem dX12_quarrels_23 : decode cX12_quarrels 23 = .ok (.aload_n 0, 1) := by decide +kernel
theorem dX12_quarrels_24 : decode cX12_quarrels 24 = .ok (.getfield 7, 3) := by decide +kernel
theorem dX12_quarrels_27 : decode cX12_quarrels 27 = .ok (.sipush 146, 3) := by decide +kernel
theorem dX12_quarrels_30 : decode cX12_quarrels 30 = .ok (.iaload, 1) := by decide +kernel
theorem dX12_quarrels_31 : decode cX12_quarrels 31 = .ok (.if_icmp .ge 75, 3) := by decide +kernel
theorem dX12_quarrels_34 : decode cX12_quarrels 34 = .ok (.iload 5, 2) := by decide +kernel
theorem dX12_quarrels_36 : decode cX12_quarrels 36 = .ok (.iconst 1, 1) := by decide +kernel
theorem dX12_quarrels_37 : decode cX12_quarrels 37 = .ok (.iadd, 1) := by decide +kernel
theorem dX12_quarrels_38 : decode cX12_quarrels 38 = .ok (.istore 6, 2) := by decide +kernel
theorem dX12_quarrels_40 : decode cX12_quarrels 40 = .ok (.iload 6, 2) := by decide +kernel
theorem dX12_quarrels_42 : decode cX12_quarrels 42 = .ok (.aload_n 0, 1) := by decide +kernel
theorem dX12_quarrels_43 : decode cX12_quarrels 43 = .ok (.getfield 7, 3) := by decide +kernel
theorem dX12_quarrels_46 : decode cX12_quarrels 46 = .ok (.sipush 146, 3) := by decide +kernel
theorem dX12_quarrels_49 : decode cX12_quarrels 49 = .ok (.iaload, 1) := by decide +kernel
theorem dX12_quarrels_50 : decode cX12_quarrels 50 = .ok (.if_icmp .ge 50, 3) := by decide +kernel
theorem dX12_quarrels_53 : decode cX12_quarrels 53 = .ok (.aload_n 0, 1) := by decide +kernel
theorem dX12_quarrels_54 : decode cX12_quarrels 54 = .ok (.iload 5, 2) := by decide +kernel
theorem dX12_quarrels_56 : decode cX12_quarrels 56 = .ok (.iload 6, 2) := by decide +kernel
theorem dX12_quarrels_58 : decode cX12_quarrels 58 = .ok (.invokevirtual 392, 3) := by decide +kernel
theorem dX12_quarrels_61 : decode cX12_quarrels 61 = .ok (.ifCond .ne 6, 3) := by decide +kernel
theorem dX12_quarrels_64 : decode cX12_quarrels 64 = .ok (.goto 30, 3) := by decide +kernel
theorem dX12_quarrels_67 : decode cX12_quarrels 67 = .ok (.iload_n 2, 1) := by decide +kernel
theorem dX12_quarrels_68 : decode cX12_quarrels 68 = .ok (.ifCond .ne 8, 3) := by decide +kernel
theorem dX12_quarrels_71 : decode cX12_quarrels 71 = .ok (.iload 5, 2) := by decide +kernel
theorem dX12_quarrels_73 : decode cX12_quarrels 73 = .ok (.goto 4, 3) := by decide +kernel
theorem dX12_quarrels_76 : decode cX12_quarrels 76 = .ok (.iload_n 3, 1) := by decide +kernel
theorem dX12_quarrels_77 : decode cX12_quarrels 77 = .ok (.istore_n 3, 1) := by decide +kernel
theorem dX12_quarrels_78 : decode cX12_quarrels 78 = .ok (.iload_n 2, 1) := by decide +kernel
theorem dX12_quarrels_79 : decode cX12_quarrels 79 = .ok (.ifCond .ne 8, 3) := by decide +kernel
theorem dX12_quarrels_82 : decode cX12_quarrels 82 = .ok (.iload 6, 2) := by decide +kernel
theorem dX12_quarrels_84 : decode cX12_quarrels 84 = .ok (.goto 5, 3) := by decide +kernel
theorem dX12_quarrels_87 : decode cX12_quarrels 87 = .ok (.iload 4, 2) := by decide +kernel
theorem dX12_quarrels_89 : decode cX12_quarrels 89 = .ok (.istore 4, 2) := by decide +kernel
theorem dX12_quarrels_91 : decode cX12_quarrels 91 = .ok (.iinc 2 1, 3) := by decide +kernel
theorem dX12_quarrels_94 : decode cX12_quarrels 94 = .ok (.iinc 6 1, 3) := by decide +kernel
theorem dX12_quarrels_97 : decode cX12_quarrels 97 = .ok (.goto (-57), 3) := by decide +kernel
theorem dX12_quarrels_100 : decode cX12_quarrels 100 = .ok (.iinc 5 1, 3) := by decide +kernel
theorem dX12_quarrels_103 : decode cX12_quarrels 103 = .ok (.goto (-82), 3) := by decide +kernel
theorem dX12_quarrels_106 : decode cX12_quarrels 106 = .ok (.iload_n 1, 1) := by decide +kernel
theorem dX12_quarrels_107 : decode cX12_quarrels 107 = .ok (.ifCond .ne 7, 3) := by decide +kernel
theorem dX12_quarrels_110 : decode cX12_quarrels 110 = .ok (.iload_n 2, 1) := by decide +kernel
theorem dX12_quarrels_111 : decode cX12_quarrels 111 = .ok (.goto 14, 3) := by decide +kernel
theorem dX12_quarrels_114 : decode cX12_quarrels 114 = .ok (.iload_n 1, 1) := by decide +kernel
theorem dX12_quarrels_115 : decode cX12_quarrels 115 = .ok (.iconst 1, 1) := by decide +kernel
theorem dX12_quarrels_116 : decode cX12_quarrels 116 = .ok (.if_icmp .ne 7, 3) := by decide +kernel
theorem dX12_quarrels_119 : decode cX12_quarrels 119 = .ok (.iload_n 3, 1) := by decide +kernel
theorem dX12_quarrels_120 : decode cX12_quarrels 120 = .ok (.goto 5, 3) := by decide +kernel
theorem dX12_quarrels_123 : decode cX12_quarrels 123 = .ok (.iload 4, 2) := by decide +kernel
theorem dX12_quarrels_125 : decode cX12_quarrels 125 = .ok (.ireturn, 1) := by decide +kernel
set_option maxHeartbeats 4000000 in
set_option maxRecDepth 100000 in
theorem c_X12_quarrels (l : Launch) (D : va_G) (tys : List (ClassId × FieldType)) (base : Nat) (G : iv_G) (h0 : Nat) (g_h0 : Nat → Int32) (r_h0 : Nat → Nat) (a_h0 : G h0 = some (12, g_h0, r_h0)) (x_0 : Int32) (i_x_0 : iv_R (-2147483648) 2147483647 x_0) : Met l yX12_quarrels (Cond.code yX12_quarrels cX12_quarrels 7 (some .int) :: iv_W0) ({ frames := 7, cells := 0, slots := 0, locals := 165 }) (iv_Pc iv_sh D classes tys base G [.ref h0, .int x_0]) (iv_Qi iv_sh D classes tys base (fun v G' => iv_Md [67, 68] G G' ∧ iv_R (-2147483648) 2147483647 v)) 0 0 (iv_A base) := by
  refine iv_head (by decide) (Nat.le_of_ble_eq_true rfl) ?_
  intro p e s m args below meth c ls X hr hlocks hname hB hl
  have X := X
  have hx := X.1.1
  have hb := X.1.2.1
  have hM : iv_Md [67, 68] G G := iv_Md.rf
  have hl : lv_has ls 7 [(0, .ref h0), (1, .int x_0)] := hl
  refine lv_iload_n hx hb dX12_quarrels_0 rfl (lv_at hl 1 rfl) ?_
  refine lv_iconst (v := 0) hx hb dX12_quarrels_1 (by decide) ?_
  refine lv_iconst (v := 2) hx hb dX12_quarrels_2 (by decide) ?_
  refine iv_cSi X k_good k_mf_X12_isIn k_st_X12_isIn k_ml_X12_56 hB (As := [.int x_0, .int 0, .int 2]) (c_X12_isIn l D tys base G x_0 i_x_0 0 (q_0.wk (by decide)) 2 (q_2.wk (by decide))) ⟨rfl, rfl⟩ ⟨Nat.le_of_ble_eq_true rfl, Nat.le_of_ble_eq_true rfl⟩ ⟨Nat.le_of_ble_eq_true rfl, Nat.le_of_ble_eq_true rfl⟩ rfl rfl hl.1 (Nat.le_of_ble_eq_true rfl) dX12_quarrels_3 (fun x1 G9 H locs hq hB => ?_)
  obtain ⟨rfl, i_x1, hp2⟩ := hq
  have k3 : ¬ x1 = 0 → iv_R 0 2 x_0 := fun h => ⟨iv_max i_x_0.1 (Int.le_trans q_0.1 (hp2.1 h).1) (by decide), iv_min i_x_0.2 (Int.le_trans (hp2.1 h).2 q_2.2) (by decide)⟩
  refine lv_if_ne (tgt := 11) hx hb dX12_quarrels_6 (by decide) (fun c4 => ?_) (fun c4 => ?_)
  · skip
    have i4_x1 : iv_R 1 1 x1 := iv_ne_lo c4 i_x1 q_0 (by decide)
    have i5_x_0 : iv_R 0 2 x_0 := ((i_x_0.cutLo (n := 0) (k3 c4).1).cutHi (n := 2) (k3 c4).2)
    refine lv_iconst (v := 0) hx hb dX12_quarrels_11 (by decide) ?_
    refine lv_istore_n (lv' := [(2, .int 0), (0, .ref h0), (1, .int x_0)]) hx hb dX12_quarrels_12 rfl hl (by decide) rfl (fun ls hl => ?_)
    refine lv_iconst (v := (-1)) hx hb dX12_quarrels_13 (by decide) ?_
    refine lv_istore_n (lv' := [(3, .int (-1)), (2, .int 0), (0, .ref h0), (1, .int x_0)]) hx hb dX12_quarrels_14 rfl hl (by decide) rfl (fun ls hl => ?_)
    refine lv_iconst (v := (-1)) hx hb dX12_quarrels_15 (by decide) ?_
    refine lv_istore (lv' := [(4, .int (-1)), (3, .int (-1)), (2, .int 0), (0, .ref h0), (1, .int x_0)]) hx hb dX12_quarrels_16 hl (by decide) rfl (fun ls hl => ?_)
    refine lv_iconst (v := 0) hx hb dX12_quarrels_18 (by decide) ?_
    refine lv_istore (lv' := [(5, .int 0), (4, .int (-1)), (3, .int (-1)), (2, .int 0), (0, .ref h0), (1, .int x_0)]) hx hb dX12_quarrels_19 hl (by decide) rfl (fun ls hl => ?_)
    have L_21 : ∀ (n_21 : Nat) (G11 : iv_G) (hM : iv_Md [67, 68] G G11) (H : Heap) (locs : List Loc) (hB : iv_B iv_sh D classes tys base G11 s.heap H locs) (a_h0 : G11 h0 = some (12, g_h0, r_h0)) (x7 : Int32) (i_x7 : iv_R (-2147483648) 2147483647 x7) (x8 : Int32) (i_x8 : iv_R (-1) 9 x8) (x9 : Int32) (i_x9 : iv_R (-1) 9 x9) (x10 : Int32) (i_x10 : iv_R 0 10 x10) (hn_21 : (11 - x10.toInt).toNat < n_21) (ls : Array Slot) (hl : lv_has ls 7 [(5, .int x10), (4, .int x9), (3, .int x8), (2, .int x7), (0, .ref h0), (1, .int x_0)]), W p l e ({ frames := 7, cells := 0, slots := 0, locals := 165 } : Room) s m args below meth c H locs 0 0 (MQ below (iv_Qi iv_sh D classes tys base (fun v G' => iv_Md [67, 68] G G' ∧ iv_R (-2147483648) 2147483647 v)) args s 0 0 (iv_A base)) (F0 m 21 ls []) := by
      intro n_21
      induction n_21 with
      | zero => intro G11 hM H locs hB a_h0 x7 i_x7 x8 i_x8 x9 i_x9 x10 i_x10 hn_21 ls hl; exact absurd hn_21 (Nat.not_lt_zero _)
      | succ n_21 ih_21 =>
        intro G11 hM H locs hB a_h0 x7 i_x7 x8 i_x8 x9 i_x9 x10 i_x10 hn_21 ls hl
        refine lv_iload hx hb dX12_quarrels_21 (lv_at hl 0 rfl) ?_
        refine lv_aload_n hx hb dX12_quarrels_23 rfl (lv_at hl 4 rfl) ?_
        refine iv_getr X ft_X12 hB a_h0 sh_12 0 (by decide) rfl k_fl_X12_7 dX12_quarrels_24 (fun b12 g_b12 r_b12 e_b12 a_b12 => ?_)
        refine lv_sipush (v := 146) hx hb dX12_quarrels_27 (by decide) ?_
        refine iv_wald_c X hB a_b12 q_146 (by decide) (lo := 0) (hi' := 10) (by decide) dX12_quarrels_30 (fun x13 e_x13 i_x13 => ?_)
        refine lv_icmp_ge (tgt := 106) hx hb dX12_quarrels_31 (by decide) (fun c14 => ?_) (fun c14 => ?_)
        · skip
          refine lv_iload_n hx hb dX12_quarrels_106 rfl (lv_at hl 5 rfl) ?_
          refine lv_if_ne (tgt := 114) hx hb dX12_quarrels_107 (by decide) (fun c15 => ?_) (fun c15 => ?_)
          · skip
            have i15_x_0 : iv_R 1 2 x_0 := iv_ne_lo c15 i5_x_0 q_0 (by decide)
            refine lv_iload_n hx hb dX12_quarrels_114 rfl (lv_at hl 5 rfl) ?_
            refine lv_iconst (v := 1) hx hb dX12_quarrels_115 (by decide) ?_
            refine lv_icmp_ne (tgt := 123) hx hb dX12_quarrels_116 (by decide) (fun c17 => ?_) (fun c17 => ?_)
            · skip
              have i17_x_0 : iv_R 2 2 x_0 := iv_ne_lo c17 i15_x_0 q_1 (by decide)
              refine lv_iload hx hb dX12_quarrels_123 (lv_at hl 1 rfl) ?_
              exact iv_iret X hr hlocks hB ⟨hM, (i_x9.wk (by decide))⟩ dX12_quarrels_125
            · skip
              have i18_x_0 : iv_R 1 1 x_0 := (i15_x_0.cutHi (n := 1) (iv_eq_r c17 q_1).2)
              refine lv_iload_n hx hb dX12_quarrels_119 rfl (lv_at hl 2 rfl) ?_
              refine lv_goto (tgt := 125) hx hb dX12_quarrels_120 (by decide) ?_
              exact iv_iret X hr hlocks hB ⟨hM, (i_x8.wk (by decide))⟩ dX12_quarrels_125
          · skip
            have i19_x_0 : iv_R 0 0 x_0 := (i5_x_0.cutHi (n := 0) (iv_eq_r c15 q_0).2)
            refine lv_iload_n hx hb dX12_quarrels_110 rfl (lv_at hl 3 rfl) ?_
            refine lv_goto (tgt := 125) hx hb dX12_quarrels_111 (by decide) ?_
            exact iv_iret X hr hlocks hB ⟨hM, i_x7⟩ dX12_quarrels_125
        · skip
          have i20_x10 : iv_R 0 9 x10 := (i_x10.cutHi (n := 9) (iv_lt_r (iv_nle c14) i_x13 (by decide)))
          have i21_x13 : iv_R 1 10 x13 := (i_x13.cutLo (n := 1) (iv_lt_l (iv_nle c14) i_x10 (by decide)))
          refine lv_iload hx hb dX12_quarrels_34 (lv_at hl 0 rfl) ?_
          refine lv_iconst (v := 1) hx hb dX12_quarrels_36 (by decide) ?_
          refine iv_iadd hx hb i20_x10 q_1 (lo := 1) (hi := 10) (by decide) dX12_quarrels_37 (fun x23 e_x23 i_x23 => ?_)
          refine lv_istore (lv' := [(6, .int x23), (5, .int x10), (4, .int x9), (3, .int x8), (2, .int x7), (0, .ref h0), (1, .int x_0)]) hx hb dX12_quarrels_38 hl (by decide) rfl (fun ls hl => ?_)
          have L_40 : ∀ (n_40 : Nat) (G28 : iv_G) (hM : iv_Md [67, 68] G G28) (H : Heap) (locs : List Loc) (hB : iv_B iv_sh D classes tys base G28 s.heap H locs) (a_h0 : G28 h0 = some (12, g_h0, r_h0)) (a_b12 : G28 b12 = some (60, g_b12, r_b12)) (x24 : Int32) (i_x24 : iv_R (-2147483648) 2147483647 x24) (x25 : Int32) (i_x25 : iv_R (-1) 9 x25) (x26 : Int32) (i_x26 : iv_R (-1) 9 x26) (x27 : Int32) (i_x27 : iv_R 1 10 x27) (hn_40 : (11 - x27.toInt).toNat < n_40) (ls : Array Slot) (hl : lv_has ls 7 [(6, .int x27), (5, .int x10), (4, .int x26), (3, .int x25), (2, .int x24), (0, .ref h0), (1, .int x_0)]), W p l e ({ frames := 7, cells := 0, slots := 0, locals := 165 } : Room) s m args below meth c H locs 0 0 (MQ below (iv_Qi iv_sh D classes tys base (fun v G' => iv_Md [67, 68] G G' ∧ iv_R (-2147483648) 2147483647 v)) args s 0 0 (iv_A base)) (F0 m 40 ls []) := by
            intro n_40
            induction n_40 with
            | zero => intro G28 hM H locs hB a_h0 a_b12 x24 i_x24 x25 i_x25 x26 i_x26 x27 i_x27 hn_40 ls hl; exact absurd hn_40 (Nat.not_lt_zero _)
            | succ n_40 ih_40 =>
              intro G28 hM H locs hB a_h0 a_b12 x24 i_x24 x25 i_x25 x26 i_x26 x27 i_x27 hn_40 ls hl
              refine lv_iload hx hb dX12_quarrels_40 (lv_at hl 0 rfl) ?_
              refine lv_aload_n hx hb dX12_quarrels_42 rfl (lv_at hl 5 rfl) ?_
              refine iv_getr0 X ft_X12 hB a_h0 sh_12 0 (by decide) rfl k_fl_X12_7 dX12_quarrels_43 e_b12 ?_
              refine lv_sipush (v := 146) hx hb dX12_quarrels_46 (by decide) ?_
              refine iv_wald_c X hB a_b12 q_146 (by decide) (lo := 0) (hi' := 10) (by decide) dX12_quarrels_49 (fun x29 e_x29 k_x29 => ?_)
              obtain rfl : x13 = x29 := e_x13.trans e_x29.symm
              refine lv_icmp_ge (tgt := 100) hx hb dX12_quarrels_50 (by decide) (fun c30 => ?_) (fun c30 => ?_)
              · skip
                refine iv_iinc hx hb i20_x10 (lo := 1) (hi := 10) (by decide) dX12_quarrels_100 hl (k := 1) rfl (by decide) (fun x31 ls e_x31 i_x31 hl => ?_)
                have hl : lv_has ls 7 [(5, .int x31), (6, .int x27), (4, .int x26), (3, .int x25), (2, .int x24), (0, .ref h0), (1, .int x_0)] := hl
                refine lv_goto (tgt := 21) hx hb dX12_quarrels_103 (by decide) ?_
                exact ih_21 G28 hM _ _ hB a_h0 x24 i_x24 x25 i_x25 x26 i_x26 x31 (i_x31.wk (by decide)) (iv_mup (c := 1) i_x10 (by decide) (by decide) (by omega) hn_21) _ (lv_sub hl [0, 2, 3, 4, 5, 6] rfl)
              · skip
                have i31_x27 : iv_R 1 9 x27 := (i_x27.cutHi (n := 9) (iv_lt_r (iv_nle c30) i21_x13 (by decide)))
                have i32_x13 : iv_R 2 10 x13 := (i21_x13.cutLo (n := 2) (iv_lt_l (iv_nle c30) i_x27 (by decide)))
                refine lv_aload_n hx hb dX12_quarrels_53 rfl (lv_at hl 5 rfl) ?_
                refine lv_iload hx hb dX12_quarrels_54 (lv_at hl 1 rfl) ?_
                refine lv_iload hx hb dX12_quarrels_56 (lv_at hl 0 rfl) ?_
                refine iv_cVi X k_good k_mf_X12_doQuarrel k_im_X12_doQuarrel k_sel_X12_doQuarrel k_ml_X12_392 ft_X12 hB a_h0 sh_12 (As := [.int x10, .int x27]) (c_X12_doQuarrel l D tys base G28 h0 g_h0 r_h0 a_h0 x10 i20_x10 x27 i31_x27) ⟨rfl, rfl⟩ ⟨Nat.le_of_ble_eq_true rfl, Nat.le_of_ble_eq_true rfl⟩ ⟨Nat.le_of_ble_eq_true rfl, Nat.le_of_ble_eq_true rfl⟩ rfl rfl hl.1 (Nat.le_of_ble_eq_true rfl) dX12_quarrels_58 (fun x34 G9 H locs hq hB => ?_)
                obtain ⟨hm, i_x34⟩ := hq
                obtain ⟨G35, hG9⟩ : ∃ g, g = G9 := ⟨_, rfl⟩
                rw [← hG9] at hm hB
                have hM := hM.stp hm (by decide)
                have a_h0 := hm.at a_h0 (by decide)
                have a_b12 := hm.at a_b12 (by decide)
                refine lv_if_ne (tgt := 67) hx hb dX12_quarrels_61 (by decide) (fun c36 => ?_) (fun c36 => ?_)
                · skip
                  have i36_x34 : iv_R 1 1 x34 := iv_ne_lo c36 i_x34 q_0 (by decide)
                  refine lv_iload_n hx hb dX12_quarrels_67 rfl (lv_at hl 4 rfl) ?_
                  refine lv_if_ne (tgt := 76) hx hb dX12_quarrels_68 (by decide) (fun c38 => ?_) (fun c38 => ?_)
                  · skip
                    refine lv_iload_n hx hb dX12_quarrels_76 rfl (lv_at hl 3 rfl) ?_
                    refine lv_istore_n (lv' := [(3, .int x25), (6, .int x27), (5, .int x10), (4, .int x26), (2, .int x24), (0, .ref h0), (1, .int x_0)]) hx hb dX12_quarrels_77 rfl hl (by decide) rfl (fun ls hl => ?_)
                    refine lv_iload_n hx hb dX12_quarrels_78 rfl (lv_at hl 4 rfl) ?_
                    refine lv_if_ne (tgt := 87) hx hb dX12_quarrels_79 (by decide) (fun c39 => ?_) (fun c39 => ?_)
                    · skip
                      refine lv_iload hx hb dX12_quarrels_87 (lv_at hl 3 rfl) ?_
                      refine lv_istore (lv' := [(4, .int x26), (3, .int x25), (6, .int x27), (5, .int x10), (2, .int x24), (0, .ref h0), (1, .int x_0)]) hx hb dX12_quarrels_89 hl (by decide) rfl (fun ls hl => ?_)
                      obtain ⟨x40, e_x40⟩ : ∃ y : Int32, y = x24 + Int32.ofInt 1 := ⟨_, rfl⟩
                      refine lv_iinc (v := x40) (lv' := [(2, .int x40), (4, .int x26), (3, .int x25), (6, .int x27), (5, .int x10), (0, .ref h0), (1, .int x_0)]) hx hb dX12_quarrels_91 hl (k := 4) rfl e_x40.symm (by decide) rfl (fun ls hl => ?_)
                      have i_x40 := iv_R.all x40
                      refine iv_iinc hx hb i31_x27 (lo := 2) (hi := 10) (by decide) dX12_quarrels_94 hl (k := 3) rfl (by decide) (fun x41 ls e_x41 i_x41 hl => ?_)
                      have hl : lv_has ls 7 [(6, .int x41), (2, .int x40), (4, .int x26), (3, .int x25), (5, .int x10), (0, .ref h0), (1, .int x_0)] := hl
                      refine lv_goto (tgt := 40) hx hb dX12_quarrels_97 (by decide) ?_
                      exact ih_40 G35 hM _ _ hB a_h0 a_b12 x40 i_x40 x25 i_x25 x26 i_x26 x41 (i_x41.wk (by decide)) (iv_mup (c := 1) i_x27 (by decide) (by decide) (by omega) hn_40) _ (lv_sub hl [0, 4, 2, 3, 1, 5, 6] rfl)
                    · skip
                      exact absurd c39 c38
                  · skip
                    have i41_x24 : iv_R 0 0 x24 := ((i_x24.cutLo (n := 0) (iv_eq_r c38 q_0).1).cutHi (n := 0) (iv_eq_r c38 q_0).2)
                    refine lv_iload hx hb dX12_quarrels_71 (lv_at hl 1 rfl) ?_
                    refine lv_goto (tgt := 77) hx hb dX12_quarrels_73 (by decide) ?_
                    refine lv_istore_n (lv' := [(3, .int x10), (6, .int x27), (5, .int x10), (4, .int x26), (2, .int x24), (0, .ref h0), (1, .int x_0)]) hx hb dX12_quarrels_77 rfl hl (by decide) rfl (fun ls hl => ?_)
                    refine lv_iload_n hx hb dX12_quarrels_78 rfl (lv_at hl 4 rfl) ?_
                    refine lv_if_ne (tgt := 87) hx hb dX12_quarrels_79 (by decide) (fun c43 => ?_) (fun c43 => ?_)
                    · skip
                      exact (iv_ne_lo c43 i41_x24 q_0 (a' := 1) (by decide)).no (by decide)
                    · skip
                      refine lv_iload hx hb dX12_quarrels_82 (lv_at hl 1 rfl) ?_
                      refine lv_goto (tgt := 89) hx hb dX12_quarrels_84 (by decide) ?_
                      refine lv_istore (lv' := [(4, .int x27), (3, .int x10), (6, .int x27), (5, .int x10), (2, .int x24), (0, .ref h0), (1, .int x_0)]) hx hb dX12_quarrels_89 hl (by decide) rfl (fun ls hl => ?_)
                      refine iv_iinc hx hb i41_x24 (lo := 1) (hi := 1) (by decide) dX12_quarrels_91 hl (k := 4) rfl (by decide) (fun x44 ls e_x44 i_x44 hl => ?_)
                      have hl : lv_has ls 7 [(2, .int x44), (4, .int x27), (3, .int x10), (6, .int x27), (5, .int x10), (0, .ref h0), (1, .int x_0)] := hl
                      refine iv_iinc hx hb i31_x27 (lo := 2) (hi := 10) (by decide) dX12_quarrels_94 hl (k := 3) rfl (by decide) (fun x45 ls e_x45 i_x45 hl => ?_)
                      have hl : lv_has ls 7 [(6, .int x45), (2, .int x44), (4, .int x27), (3, .int x10), (5, .int x10), (0, .ref h0), (1, .int x_0)] := hl
                      refine lv_goto (tgt := 40) hx hb dX12_quarrels_97 (by decide) ?_
                      exact ih_40 G35 hM _ _ hB a_h0 a_b12 x44 (i_x44.wk (by decide)) x10 (i20_x10.wk (by decide)) x27 (i31_x27.wk (by decide)) x45 (i_x45.wk (by decide)) (iv_mup (c := 1) i_x27 (by decide) (by decide) (by omega) hn_40) _ (lv_sub hl [0, 4, 2, 3, 1, 5, 6] rfl)
                · skip
                  have i45_x34 : iv_R 0 0 x34 := (i_x34.cutHi (n := 0) (iv_eq_r c36 q_0).2)
                  refine lv_goto (tgt := 94) hx hb dX12_quarrels_64 (by decide) ?_
                  refine iv_iinc hx hb i31_x27 (lo := 2) (hi := 10) (by decide) dX12_quarrels_94 hl (k := 0) rfl (by decide) (fun x47 ls e_x47 i_x47 hl => ?_)
                  have hl : lv_has ls 7 [(6, .int x47), (5, .int x10), (4, .int x26), (3, .int x25), (2, .int x24), (0, .ref h0), (1, .int x_0)] := hl
                  refine lv_goto (tgt := 40) hx hb dX12_quarrels_97 (by decide) ?_
                  exact ih_40 G35 hM _ _ hB a_h0 a_b12 x24 i_x24 x25 i_x25 x26 i_x26 x47 (i_x47.wk (by decide)) (iv_mup (c := 1) i_x27 (by decide) (by decide) (by omega) hn_40) _ (lv_sub hl [0, 1, 2, 3, 4, 5, 6] rfl)
          exact L_40 _ G11 hM _ _ hB a_h0 a_b12 x7 i_x7 x8 i_x8 x9 i_x9 x23 i_x23 (Nat.lt_succ_self _) _ (lv_sub hl [0, 1, 2, 3, 4, 5, 6] rfl)
    exact L_21 _ G hM _ _ hB a_h0 0 (q_0.wk (by decide)) (-1) (q_n1.wk (by decide)) (-1) (q_n1.wk (by decide)) 0 (q_0.wk (by decide)) (Nat.lt_succ_self _) _ (lv_sub hl [0, 1, 2, 3, 4, 5] rfl)
  · skip
    have i47_x1 : iv_R 0 0 x1 := (i_x1.cutHi (n := 0) (iv_eq_r c4 q_0).2)
    refine lv_iconst (v := (-1)) hx hb dX12_quarrels_9 (by decide) ?_
    exact iv_iret X hr hlocks hB ⟨hM, (q_n1.wk (by decide))⟩ dX12_quarrels_10
theorem dX12_raised_0 : decode cX12_raised 0 = .ok (.iload_n 1, 1) := by decide +kernel
theorem dX12_raised_1 : decode cX12_raised 1 = .ok (.iconst 1, 1) := by decide +kernel
theorem dX12_raised_2 : decode cX12_raised 2 = .ok (.iconst 1, 1) := by decide +kernel
theorem dX12_raised_3 : decode cX12_raised 3 = .ok (.aload_n 0, 1) := by decide +kernel
theorem dX12_raised_4 : decode cX12_raised 4 = .ok (.getfield 7, 3) := by decide +kernel
theorem dX12_raised_7 : decode cX12_raised 7 = .ok (.sipush 146, 3) := by decide +kernel
theorem dX12_raised_10 : decode cX12_raised 10 = .ok (.iaload, 1) := by decide +kernel
theorem dX12_raised_11 : decode cX12_raised 11 = .ok (.ishl, 1) := by decide +kernel
theorem dX12_raised_12 : decode cX12_raised 12 = .ok (.iconst 1, 1) := by decide +kernel
theorem dX12_raised_13 : decode cX12_raised 13 = .ok (.isub, 1) := by decide +kernel
theorem dX12_raised_14 : decode cX12_raised 14 = .ok (.invokestatic 56, 3) := by decide +kernel
theorem dX12_raised_17 : decode cX12_raised 17 = .ok (.ifCond .ne 5, 3) := by decide +kernel
theorem dX12_raised_20 : decode cX12_raised 20 = .ok (.iconst (-1), 1) := by decide +kernel
theorem dX12_raised_21 : decode cX12_raised 21 = .ok (.ireturn, 1) := by decide +kernel
theorem dX12_raised_22 : decode cX12_raised 22 = .ok (.bipush 47, 2) := by decide +kernel
theorem dX12_raised_24 : decode cX12_raised 24 = .ok (.istore_n 2, 1) := by decide +kernel
theorem dX12_raised_25 : decode cX12_raised 25 = .ok (.iload_n 2, 1) := by decide +kernel
theorem dX12_raised_26 : decode cX12_raised 26 = .ok (.ifCond .lt 20, 3) := by decide +kernel
theorem dX12_raised_29 : decode cX12_raised 29 = .ok (.aload_n 0, 1) := by decide +kernel
theorem dX12_raised_30 : decode cX12_raised 30 = .ok (.iload_n 1, 1) := by decide +kernel
theorem dX12_raised_31 : decode cX12_raised 31 = .ok (.iload_n 2, 1) := by decide +kernel
theorem dX12_raised_32 : decode cX12_raised 32 = .ok (.invokevirtual 396, 3) := by decide +kernel
theorem dX12_raised_35 : decode cX12_raised 35 = .ok (.ifCond .eq 5, 3) := by decide +kernel
theorem dX12_raised_38 : decode cX12_raised 38 = .ok (.iload_n 2, 1) := by decide +kernel
theorem dX12_raised_39 : decode cX12_raised 39 = .ok (.ireturn, 1) := by decide +kernel
theorem dX12_raised_40 : decode cX12_raised 40 = .ok (.iinc 2 (-1), 3) := by decide +kernel
theorem dX12_raised_43 : decode cX12_raised 43 = .ok (.goto (-18), 3) := by decide +kernel
theorem dX12_raised_46 : decode cX12_raised 46 = .ok (.iconst (-1), 1) := by decide +kernel
theorem dX12_raised_47 : decode cX12_raised 47 = .ok (.ireturn, 1) := by decide +kernel
set_option maxHeartbeats 4000000 in
set_option maxRecDepth 100000 in
theorem c_X12_raised (l : Launch) (D : va_G) (tys : List (ClassId × FieldType)) (base : Nat) (G : iv_G) (h0 : Nat) (g_h0 : Nat → Int32) (r_h0 : Nat → Nat) (a_h0 : G h0 = some (12, g_h0, r_h0)) (x_0 : Int32) (i_x_0 : iv_R (-2147483648) 2147483647 x_0) : Met l yX12_raised (Cond.code yX12_raised cX12_raised 3 (some .int) :: iv_W0) ({ frames := 2, cells := 0, slots := 0, locals := 47 }) (iv_Pc iv_sh D classes tys base G [.ref h0, .int x_0]) (iv_Qi iv_sh D classes tys base (fun v G' => G = G' ∧ iv_R (-1) 47 v)) 0 0 (iv_A base) := by
  refine iv_head (by decide) (Nat.le_of_ble_eq_true rfl) ?_
  intro p e s m args below meth c ls X hr hlocks hname hB hl
  have X := X
  have hx := X.1.1
  have hb := X.1.2.1
  have hl : lv_has ls 3 [(0, .ref h0), (1, .int x_0)] := hl
  refine lv_iload_n hx hb dX12_raised_0 rfl (lv_at hl 1 rfl) ?_
  refine lv_iconst (v := 1) hx hb dX12_raised_1 (by decide) ?_
  refine lv_iconst (v := 1) hx hb dX12_raised_2 (by decide) ?_
  refine lv_aload_n hx hb dX12_raised_3 rfl (lv_at hl 0 rfl) ?_
  refine iv_getr X ft_X12 hB a_h0 sh_12 0 (by decide) rfl k_fl_X12_7 dX12_raised_4 (fun b1 g_b1 r_b1 e_b1 a_b1 => ?_)
  refine lv_sipush (v := 146) hx hb dX12_raised_7 (by decide) ?_
  refine iv_wald_c X hB a_b1 q_146 (by decide) (lo := 0) (hi' := 10) (by decide) dX12_raised_10 (fun x2 e_x2 i_x2 => ?_)
  refine iv_shl1 hx hb i_x2 (lo := 1) (hi := 1024) (by decide) dX12_raised_11 (fun x3 e_x3 i_x3 => ?_)
  refine lv_iconst (v := 1) hx hb dX12_raised_12 (by decide) ?_
  refine iv_isub hx hb i_x3 q_1 (lo := 0) (hi := 1023) (by decide) dX12_raised_13 (fun x4 e_x4 i_x4 => ?_)
  refine iv_cSi X k_good k_mf_X12_isIn k_st_X12_isIn k_ml_X12_56 hB (As := [.int x_0, .int 1, .int x4]) (c_X12_isIn l D tys base G x_0 i_x_0 1 (q_1.wk (by decide)) x4 (i_x4.wk (by decide))) ⟨rfl, rfl⟩ ⟨Nat.le_of_ble_eq_true rfl, Nat.le_of_ble_eq_true rfl⟩ ⟨Nat.le_of_ble_eq_true rfl, Nat.le_of_ble_eq_true rfl⟩ rfl rfl hl.1 (Nat.le_of_ble_eq_true rfl) dX12_raised_14 (fun x5 G9 H locs hq hB => ?_)
  obtain ⟨rfl, i_x5, hp6⟩ := hq
  have k7 : ¬ x5 = 0 → iv_R 1 1023 x_0 := fun h => ⟨iv_max i_x_0.1 (Int.le_trans q_1.1 (hp6.1 h).1) (by decide), iv_min i_x_0.2 (Int.le_trans (hp6.1 h).2 i_x4.2) (by decide)⟩
  refine lv_if_ne (tgt := 22) hx hb dX12_raised_17 (by decide) (fun c8 => ?_) (fun c8 => ?_)
  · skip
    have i8_x5 : iv_R 1 1 x5 := iv_ne_lo c8 i_x5 q_0 (by decide)
    have i9_x_0 : iv_R 1 1023 x_0 := ((i_x_0.cutLo (n := 1) (k7 c8).1).cutHi (n := 1023) (k7 c8).2)
    refine lv_bipush (v := 47) hx hb dX12_raised_22 (by decide) ?_
    refine lv_istore_n (lv' := [(2, .int 47), (0, .ref h0), (1, .int x_0)]) hx hb dX12_raised_24 rfl hl (by decide) rfl (fun ls hl => ?_)
    have L_25 : ∀ (n_25 : Nat) (H : Heap) (locs : List Loc) (hB : iv_B iv_sh D classes tys base G s.heap H locs) (x11 : Int32) (i_x11 : iv_R (-1) 47 x11) (hn_25 : (x11.toInt - (-2)).toNat < n_25) (ls : Array Slot) (hl : lv_has ls 3 [(2, .int x11), (0, .ref h0), (1, .int x_0)]), W p l e ({ frames := 2, cells := 0, slots := 0, locals := 47 } : Room) s m args below meth c H locs 0 0 (MQ below (iv_Qi iv_sh D classes tys base (fun v G' => G = G' ∧ iv_R (-1) 47 v)) args s 0 0 (iv_A base)) (F0 m 25 ls []) := by
      intro n_25
      induction n_25 with
      | zero => intro H locs hB x11 i_x11 hn_25 ls hl; exact absurd hn_25 (Nat.not_lt_zero _)
      | succ n_25 ih_25 =>
        intro H locs hB x11 i_x11 hn_25 ls hl
        refine lv_iload_n hx hb dX12_raised_25 rfl (lv_at hl 0 rfl) ?_
        refine lv_if_lt (tgt := 46) hx hb dX12_raised_26 (by decide) (fun c12 => ?_) (fun c12 => ?_)
        · skip
          have i12_x11 : iv_R (-1) (-1) x11 := (i_x11.cutHi (n := (-1)) (iv_lt_r c12 q_0 (by decide)))
          refine lv_iconst (v := (-1)) hx hb dX12_raised_46 (by decide) ?_
          exact iv_iret X hr hlocks hB ⟨rfl, (q_n1.wk (by decide))⟩ dX12_raised_47
        · skip
          have i13_x11 : iv_R 0 47 x11 := (i_x11.cutLo (n := 0) (iv_le_l (iv_nlt c12) q_0))
          refine lv_aload_n hx hb dX12_raised_29 rfl (lv_at hl 1 rfl) ?_
          refine lv_iload_n hx hb dX12_raised_30 rfl (lv_at hl 2 rfl) ?_
          refine lv_iload_n hx hb dX12_raised_31 rfl (lv_at hl 0 rfl) ?_
          refine iv_cVi X k_good k_mf_X12_canBeRaised k_im_X12_canBeRaised k_sel_X12_canBeRaised k_ml_X12_396 ft_X12 hB a_h0 sh_12 (As := [.int x_0, .int x11]) (c_X12_canBeRaised l D tys base G h0 g_h0 r_h0 a_h0 x_0 i9_x_0 x11 i13_x11) ⟨rfl, rfl⟩ ⟨Nat.le_of_ble_eq_true rfl, Nat.le_of_ble_eq_true rfl⟩ ⟨Nat.le_of_ble_eq_true rfl, Nat.le_of_ble_eq_true rfl⟩ rfl rfl hl.1 (Nat.le_of_ble_eq_true rfl) dX12_raised_32 (fun x15 G9 H locs hq hB => ?_)
          obtain ⟨rfl, i_x15⟩ := hq
          refine lv_if_eq (tgt := 40) hx hb dX12_raised_35 (by decide) (fun c16 => ?_) (fun c16 => ?_)
          · skip
            have i16_x15 : iv_R 0 0 x15 := (i_x15.cutHi (n := 0) (iv_eq_r c16 q_0).2)
            refine iv_iinc hx hb i13_x11 (lo := (-1)) (hi := 46) (by decide) dX12_raised_40 hl (k := 0) rfl (by decide) (fun x18 ls e_x18 i_x18 hl => ?_)
            have hl : lv_has ls 3 [(2, .int x18), (0, .ref h0), (1, .int x_0)] := hl
            refine lv_goto (tgt := 25) hx hb dX12_raised_43 (by decide) ?_
            exact ih_25 _ _ hB x18 (i_x18.wk (by decide)) (iv_mdn (c := 1) i_x11 (by decide) (by decide) (by omega) hn_25) _ (lv_sub hl [0, 1, 2] rfl)
          · skip
            have i18_x15 : iv_R 1 1 x15 := iv_ne_lo c16 i_x15 q_0 (by decide)
            refine lv_iload_n hx hb dX12_raised_38 rfl (lv_at hl 0 rfl) ?_
            exact iv_iret X hr hlocks hB ⟨rfl, (i13_x11.wk (by decide))⟩ dX12_raised_39
    exact L_25 _ _ _ hB 47 (q_47.wk (by decide)) (Nat.lt_succ_self _) _ (lv_sub hl [0, 1, 2] rfl)
  · skip
    have i19_x5 : iv_R 0 0 x5 := (i_x5.cutHi (n := 0) (iv_eq_r c8 q_0).2)
    refine lv_iconst (v := (-1)) hx hb dX12_raised_20 (by decide) ?_
    exact iv_iret X hr hlocks hB ⟨rfl, (q_n1.wk (by decide))⟩ dX12_raised_21
theorem dX12_soundingIn_0 : decode cX12_soundingIn 0 = .ok (.iconst 0, 1) := by decide +kernel
theorem dX12_soundingIn_1 : decode cX12_soundingIn 1 = .ok (.istore_n 2, 1) := by decide +kernel
theorem dX12_soundingIn_2 : decode cX12_soundingIn 2 = .ok (.iconst 0, 1) := by decide +kernel
theorem dX12_soundingIn_3 : decode cX12_soundingIn 3 = .ok (.istore_n 3, 1) := by decide +kernel
theorem dX12_soundingIn_4 : decode cX12_soundingIn 4 = .ok (.iload_n 3, 1) := by decide +kernel
theorem dX12_soundingIn_5 : decode cX12_soundingIn 5 = .ok (.aload_n 0, 1) := by decide +kernel
theorem dX12_soundingIn_6 : decode cX12_soundingIn 6 = .ok (.getfield 7, 3) := by decide +kernel
theorem dX12_soundingIn_9 : decode cX12_soundingIn 9 = .ok (.sipush 146, 3) := by decide +kernel
theorem dX12_soundingIn_12 : decode cX12_soundingIn 12 = .ok (.iaload, 1) := by decide +kernel
theorem dX12_soundingIn_13 : decode cX12_soundingIn 13 = .ok (.if_icmp .ge 26, 3) := by decide +kernel
theorem dX12_soundingIn_16 : decode cX12_soundingIn 16 = .ok (.iload_n 2, 1) := by decide +kernel
theorem dX12_soundingIn_17 : decode cX12_soundingIn 17 = .ok (.aload_n 0, 1) := by decide +kernel
theorem dX12_soundingIn_18 : decode cX12_soundingIn 18 = .ok (.iload_n 3, 1) := by decide +kernel
theorem dX12_soundingIn_19 : decode cX12_soundingIn 19 = .ok (.iload_n 1, 1) := by decide +kernel
theorem dX12_soundingIn_20 : decode cX12_soundingIn 20 = .ok (.invokevirtual 302, 3) := by decide +kernel
theorem dX12_soundingIn_23 : decode cX12_soundingIn 23 = .ok (.ifCond .eq 7, 3) := by decide +kernel
theorem dX12_soundingIn_26 : decode cX12_soundingIn 26 = .ok (.iconst 1, 1) := by decide +kernel
theorem dX12_soundingIn_27 : decode cX12_soundingIn 27 = .ok (.goto 4, 3) := by decide +kernel
theorem dX12_soundingIn_30 : decode cX12_soundingIn 30 = .ok (.iconst 0, 1) := by decide +kernel
theorem dX12_soundingIn_31 : decode cX12_soundingIn 31 = .ok (.iadd, 1) := by decide +kernel
theorem dX12_soundingIn_32 : decode cX12_soundingIn 32 = .ok (.istore_n 2, 1) := by decide +kernel
theorem dX12_soundingIn_33 : decode cX12_soundingIn 33 = .ok (.iinc 3 1, 3) := by decide +kernel
theorem dX12_soundingIn_36 : decode cX12_soundingIn 36 = .ok (.goto (-32), 3) := by decide +kernel
theorem dX12_soundingIn_39 : decode cX12_soundingIn 39 = .ok (.iload_n 2, 1) := by decide +kernel
theorem dX12_soundingIn_40 : decode cX12_soundingIn 40 = .ok (.ireturn, 1) := by decide +kernel
set_option maxHeartbeats 4000000 in
set_option maxRecDepth 100000 in
theorem c_X12_soundingIn (l : Launch) (D : va_G) (tys : List (ClassId × FieldType)) (base : Nat) (G : iv_G) (h0 : Nat) (g_h0 : Nat → Int32) (r_h0 : Nat → Nat) (a_h0 : G h0 = some (12, g_h0, r_h0)) (x_0 : Int32) (i_x_0 : iv_R 0 23 x_0) : Met l yX12_soundingIn (Cond.code yX12_soundingIn cX12_soundingIn 4 (some .int) :: iv_W0) ({ frames := 3, cells := 0, slots := 0, locals := 67 }) (iv_Pc iv_sh D classes tys base G [.ref h0, .int x_0]) (iv_Qi iv_sh D classes tys base (fun v G' => G = G' ∧ iv_R (-2147483648) 2147483647 v)) 0 0 (iv_A base) := by
  refine iv_head (by decide) (Nat.le_of_ble_eq_true rfl) ?_
  intro p e s m args below meth c ls X hr hlocks hname hB hl
  have X := X
  have hx := X.1.1
  have hb := X.1.2.1
  have hl : lv_has ls 4 [(0, .ref h0), (1, .int x_0)] := hl
  refine lv_iconst (v := 0) hx hb dX12_soundingIn_0 (by decide) ?_
  refine lv_istore_n (lv' := [(2, .int 0), (0, .ref h0), (1, .int x_0)]) hx hb dX12_soundingIn_1 rfl hl (by decide) rfl (fun ls hl => ?_)
  refine lv_iconst (v := 0) hx hb dX12_soundingIn_2 (by decide) ?_
  refine lv_istore_n (lv' := [(3, .int 0), (2, .int 0), (0, .ref h0), (1, .int x_0)]) hx hb dX12_soundingIn_3 rfl hl (by decide) rfl (fun ls hl => ?_)
  have L_4 : ∀ (n_4 : Nat) (H : Heap) (locs : List Loc) (hB : iv_B iv_sh D classes tys base G s.heap H locs) (x1 : Int32) (i_x1 : iv_R (-2147483648) 2147483647 x1) (x2 : Int32) (i_x2 : iv_R 0 10 x2) (hn_4 : (11 - x2.toInt).toNat < n_4) (ls : Array Slot) (hl : lv_has ls 4 [(3, .int x2), (2, .int x1), (0, .ref h0), (1, .int x_0)]), W p l e ({ frames := 3, cells := 0, slots := 0, locals := 67 } : Room) s m args below meth c H locs 0 0 (MQ below (iv_Qi iv_sh D classes tys base (fun v G' => G = G' ∧ iv_R (-2147483648) 2147483647 v)) args s 0 0 (iv_A base)) (F0 m 4 ls []) := by
    intro n_4
    induction n_4 with
    | zero => intro H locs hB x1 i_x1 x2 i_x2 hn_4 ls hl; exact absurd hn_4 (Nat.not_lt_zero _)
    | succ n_4 ih_4 =>
      intro H locs hB x1 i_x1 x2 i_x2 hn_4 ls hl
      refine lv_iload_n hx hb dX12_soundingIn_4 rfl (lv_at hl 0 rfl) ?_
      refine lv_aload_n hx hb dX12_soundingIn_5 rfl (lv_at hl 2 rfl) ?_
      refine iv_getr X ft_X12 hB a_h0 sh_12 0 (by decide) rfl k_fl_X12_7 dX12_soundingIn_6 (fun b3 g_b3 r_b3 e_b3 a_b3 => ?_)
      refine lv_sipush (v := 146) hx hb dX12_soundingIn_9 (by decide) ?_
      refine iv_wald_c X hB a_b3 q_146 (by decide) (lo := 0) (hi' := 10) (by decide) dX12_soundingIn_12 (fun x4 e_x4 i_x4 => ?_)
      refine lv_icmp_ge (tgt := 39) hx hb dX12_soundingIn_13 (by decide) (fun c5 => ?_) (fun c5 => ?_)
      · skip
        refine lv_iload_n hx hb dX12_soundingIn_39 rfl (lv_at hl 1 rfl) ?_
        exact iv_iret X hr hlocks hB ⟨rfl, i_x1⟩ dX12_soundingIn_40
      · skip
        have i5_x2 : iv_R 0 9 x2 := (i_x2.cutHi (n := 9) (iv_lt_r (iv_nle c5) i_x4 (by decide)))
        have i6_x4 : iv_R 1 10 x4 := (i_x4.cutLo (n := 1) (iv_lt_l (iv_nle c5) i_x2 (by decide)))
        refine lv_iload_n hx hb dX12_soundingIn_16 rfl (lv_at hl 1 rfl) ?_
        refine lv_aload_n hx hb dX12_soundingIn_17 rfl (lv_at hl 2 rfl) ?_
        refine lv_iload_n hx hb dX12_soundingIn_18 rfl (lv_at hl 0 rfl) ?_
        refine lv_iload_n hx hb dX12_soundingIn_19 rfl (lv_at hl 3 rfl) ?_
        refine iv_cVi X k_good k_mf_X12_sounds k_im_X12_sounds k_sel_X12_sounds k_ml_X12_302 ft_X12 hB a_h0 sh_12 (As := [.int x2, .int x_0]) (c_X12_sounds l D tys base G h0 g_h0 r_h0 a_h0 x2 i5_x2 x_0 i_x_0) ⟨rfl, rfl⟩ ⟨Nat.le_of_ble_eq_true rfl, Nat.le_of_ble_eq_true rfl⟩ ⟨Nat.le_of_ble_eq_true rfl, Nat.le_of_ble_eq_true rfl⟩ rfl rfl hl.1 (Nat.le_of_ble_eq_true rfl) dX12_soundingIn_20 (fun x8 G9 H locs hq hB => ?_)
        obtain ⟨rfl, i_x8⟩ := hq
        refine lv_if_eq (tgt := 30) hx hb dX12_soundingIn_23 (by decide) (fun c9 => ?_) (fun c9 => ?_)
        · skip
          have i9_x8 : iv_R 0 0 x8 := (i_x8.cutHi (n := 0) (iv_eq_r c9 q_0).2)
          refine lv_iconst (v := 0) hx hb dX12_soundingIn_30 (by decide) ?_
          refine iv_iadd hx hb i_x1 q_0 (lo := (-2147483648)) (hi := 2147483647) (by decide) dX12_soundingIn_31 (fun x11 e_x11 i_x11 => ?_)
          refine lv_istore_n (lv' := [(2, .int x11), (3, .int x2), (0, .ref h0), (1, .int x_0)]) hx hb dX12_soundingIn_32 rfl hl (by decide) rfl (fun ls hl => ?_)
          refine iv_iinc hx hb i5_x2 (lo := 1) (hi := 10) (by decide) dX12_soundingIn_33 hl (k := 1) rfl (by decide) (fun x12 ls e_x12 i_x12 hl => ?_)
          have hl : lv_has ls 4 [(3, .int x12), (2, .int x11), (0, .ref h0), (1, .int x_0)] := hl
          refine lv_goto (tgt := 4) hx hb dX12_soundingIn_36 (by decide) ?_
          exact ih_4 _ _ hB x11 i_x11 x12 (i_x12.wk (by decide)) (iv_mup (c := 1) i_x2 (by decide) (by decide) (by omega) hn_4) _ (lv_sub hl [0, 1, 2, 3] rfl)
        · skip
          have i12_x8 : iv_R 1 1 x8 := iv_ne_lo c9 i_x8 q_0 (by decide)
          refine lv_iconst (v := 1) hx hb dX12_soundingIn_26 (by decide) ?_
          refine lv_goto (tgt := 31) hx hb dX12_soundingIn_27 (by decide) ?_
          refine lv_iadd hx hb dX12_soundingIn_31 ?_
          refine lv_topi (fun x14 e_x14 => ?_)
          have i_x14 := iv_R.all x14
          refine lv_istore_n (lv' := [(2, .int x14), (3, .int x2), (0, .ref h0), (1, .int x_0)]) hx hb dX12_soundingIn_32 rfl hl (by decide) rfl (fun ls hl => ?_)
          refine iv_iinc hx hb i5_x2 (lo := 1) (hi := 10) (by decide) dX12_soundingIn_33 hl (k := 1) rfl (by decide) (fun x15 ls e_x15 i_x15 hl => ?_)
          have hl : lv_has ls 4 [(3, .int x15), (2, .int x14), (0, .ref h0), (1, .int x_0)] := hl
          refine lv_goto (tgt := 4) hx hb dX12_soundingIn_36 (by decide) ?_
          exact ih_4 _ _ hB x14 i_x14 x15 (i_x15.wk (by decide)) (iv_mup (c := 1) i_x2 (by decide) (by decide) (by omega) hn_4) _ (lv_sub hl [0, 1, 2, 3] rfl)
  exact L_4 _ _ _ hB 0 (q_0.wk (by decide)) 0 (q_0.wk (by decide)) (Nat.lt_succ_self _) _ (lv_sub hl [0, 1, 2, 3] rfl)
theorem dX12_ropes_0 : decode cX12_ropes 0 = .ok (.iload_n 1, 1) := by decide +kernel
theorem dX12_ropes_1 : decode cX12_ropes 1 = .ok (.iconst 0, 1) := by decide +kernel
theorem dX12_ropes_2 : decode cX12_ropes 2 = .ok (.iconst 1, 1) := by decide +kernel
theorem dX12_ropes_3 : decode cX12_ropes 3 = .ok (.invokestatic 56, 3) := by decide +kernel
theorem dX12_ropes_6 : decode cX12_ropes 6 = .ok (.ifCond .ne 5, 3) := by decide +kernel
theorem dX12_ropes_9 : decode cX12_ropes 9 = .ok (.iconst (-1), 1) := by decide +kernel
theorem dX12_ropes_10 : decode cX12_ropes 10 = .ok (.ireturn, 1) := by decide +kernel
theorem dX12_ropes_11 : decode cX12_ropes 11 = .ok (.iconst 0, 1) := by decide +kernel
theorem dX12_ropes_12 : decode cX12_ropes 12 = .ok (.istore_n 2, 1) := by decide +kernel
theorem dX12_ropes_13 : decode cX12_ropes 13 = .ok (.iconst (-1), 1) := by decide +kernel
theorem dX12_ropes_14 : decode cX12_ropes 14 = .ok (.istore_n 3, 1) := by decide +kernel
theorem dX12_ropes_15 : decode cX12_ropes 15 = .ok (.iconst 0, 1) := by decide +kernel
theorem dX12_ropes_16 : decode cX12_ropes 16 = .ok (.istore 4, 2) := by decide +kernel
theorem dX12_ropes_18 : decode cX12_ropes 18 = .ok (.iload 4, 2) := by decide +kernel
theorem dX12_ropes_20 : decode cX12_ropes 20 = .ok (.bipush 24, 2) := by decide +kernel
theorem dX12_ropes_22 : decode cX12_ropes 22 = .ok (.if_icmp .ge 32, 3) := by decide +kernel
theorem dX12_ropes_25 : decode cX12_ropes 25 = .ok (.aload_n 0, 1) := by decide +kernel
theorem dX12_ropes_26 : decode cX12_ropes 26 = .ok (.iload 4, 2) := by decide +kernel
theorem dX12_ropes_28 : decode cX12_ropes 28 = .ok (.invokevirtual 380, 3) := by decide +kernel
theorem dX12_ropes_31 : decode cX12_ropes 31 = .ok (.iload_n 2, 1) := by decide +kernel
theorem dX12_ropes_32 : decode cX12_ropes 32 = .ok (.if_icmp .gt 6, 3) := by decide +kernel
theorem dX12_ropes_35 : decode cX12_ropes 35 = .ok (.goto 13, 3) := by decide +kernel
theorem dX12_ropes_38 : decode cX12_ropes 38 = .ok (.aload_n 0, 1) := by decide +kernel
theorem dX12_ropes_39 : decode cX12_ropes 39 = .ok (.iload 4, 2) := by decide +kernel
theorem dX12_ropes_41 : decode cX12_ropes 41 = .ok (.invokevirtual 380, 3) := by decide +kernel
theorem dX12_ropes_44 : decode cX12_ropes 44 = .ok (.istore_n 2, 1) := by decide +kernel
theorem dX12_ropes_45 : decode cX12_ropes 45 = .ok (.iload 4, 2) := by decide +kernel
theorem dX12_ropes_47 : decode cX12_ropes 47 = .ok (.istore_n 3, 1) := by decide +kernel
theorem dX12_ropes_48 : decode cX12_ropes 48 = .ok (.iinc 4 1, 3) := by decide +kernel
theorem dX12_ropes_51 : decode cX12_ropes 51 = .ok (.goto (-33), 3) := by decide +kernel
theorem dX12_ropes_54 : decode cX12_ropes 54 = .ok (.iload_n 1, 1) := by decide +kernel
theorem dX12_ropes_55 : decode cX12_ropes 55 = .ok (.ifCond .ne 7, 3) := by decide +kernel
theorem dX12_ropes_58 : decode cX12_ropes 58 = .ok (.iload_n 3, 1) := by decide +kernel
theorem dX12_ropes_59 : decode cX12_ropes 59 = .ok (.goto 4, 3) := by decide +kernel
theorem dX12_ropes_62 : decode cX12_ropes 62 = .ok (.iload_n 2, 1) := by decide +kernel
theorem dX12_ropes_63 : decode cX12_ropes 63 = .ok (.ireturn, 1) := by decide +kernel
set_option maxHeartbeats 4000000 in
set_option maxRecDepth 100000 in
theorem c_X12_ropes (l : Launch) (D : va_G) (tys : List (ClassId × FieldType)) (base : Nat) (G : iv_G) (h0 : Nat) (g_h0 : Nat → Int32) (r_h0 : Nat → Nat) (a_h0 : G h0 = some (12, g_h0, r_h0)) (x_0 : Int32) (i_x_0 : iv_R (-2147483648) 2147483647 x_0) : Met l yX12_ropes (Cond.code yX12_ropes cX12_ropes 5 (some .int) :: iv_W0) ({ frames := 4, cells := 0, slots := 0, locals := 90 }) (iv_Pc iv_sh D classes tys base G [.ref h0, .int x_0]) (iv_Qi iv_sh D classes tys base (fun v G' => G = G' ∧ iv_R (-2147483648) 2147483647 v)) 0 0 (iv_A base) := by
  refine iv_head (by decide) (Nat.le_of_ble_eq_true rfl) ?_
  intro p e s m args below meth c ls X hr hlocks hname hB hl
  have X := X
  have hx := X.1.1
  have hb := X.1.2.1
  have hl : lv_has ls 5 [(0, .ref h0), (1, .int x_0)] := hl
  refine lv_iload_n hx hb dX12_ropes_0 rfl (lv_at hl 1 rfl) ?_
  refine lv_iconst (v := 0) hx hb dX12_ropes_1 (by decide) ?_
  refine lv_iconst (v := 1) hx hb dX12_ropes_2 (by decide) ?_
  refine iv_cSi X k_good k_mf_X12_isIn k_st_X12_isIn k_ml_X12_56 hB (As := [.int x_0, .int 0, .int 1]) (c_X12_isIn l D tys base G x_0 i_x_0 0 (q_0.wk (by decide)) 1 (q_1.wk (by decide))) ⟨rfl, rfl⟩ ⟨Nat.le_of_ble_eq_true rfl, Nat.le_of_ble_eq_true rfl⟩ ⟨Nat.le_of_ble_eq_true rfl, Nat.le_of_ble_eq_true rfl⟩ rfl rfl hl.1 (Nat.le_of_ble_eq_true rfl) dX12_ropes_3 (fun x1 G9 H locs hq hB => ?_)
  obtain ⟨rfl, i_x1, hp2⟩ := hq
  have k3 : ¬ x1 = 0 → iv_R 0 1 x_0 := fun h => ⟨iv_max i_x_0.1 (Int.le_trans q_0.1 (hp2.1 h).1) (by decide), iv_min i_x_0.2 (Int.le_trans (hp2.1 h).2 q_1.2) (by decide)⟩
  refine lv_if_ne (tgt := 11) hx hb dX12_ropes_6 (by decide) (fun c4 => ?_) (fun c4 => ?_)
  · skip
    have i4_x1 : iv_R 1 1 x1 := iv_ne_lo c4 i_x1 q_0 (by decide)
    have i5_x_0 : iv_R 0 1 x_0 := ((i_x_0.cutLo (n := 0) (k3 c4).1).cutHi (n := 1) (k3 c4).2)
    refine lv_iconst (v := 0) hx hb dX12_ropes_11 (by decide) ?_
    refine lv_istore_n (lv' := [(2, .int 0), (0, .ref h0), (1, .int x_0)]) hx hb dX12_ropes_12 rfl hl (by decide) rfl (fun ls hl => ?_)
    refine lv_iconst (v := (-1)) hx hb dX12_ropes_13 (by decide) ?_
    refine lv_istore_n (lv' := [(3, .int (-1)), (2, .int 0), (0, .ref h0), (1, .int x_0)]) hx hb dX12_ropes_14 rfl hl (by decide) rfl (fun ls hl => ?_)
    refine lv_iconst (v := 0) hx hb dX12_ropes_15 (by decide) ?_
    refine lv_istore (lv' := [(4, .int 0), (3, .int (-1)), (2, .int 0), (0, .ref h0), (1, .int x_0)]) hx hb dX12_ropes_16 hl (by decide) rfl (fun ls hl => ?_)
    have L_18 : ∀ (n_18 : Nat) (H : Heap) (locs : List Loc) (hB : iv_B iv_sh D classes tys base G s.heap H locs) (x7 : Int32) (i_x7 : iv_R (-2147483648) 2147483647 x7) (x8 : Int32) (i_x8 : iv_R (-1) 23 x8) (x9 : Int32) (i_x9 : iv_R 0 24 x9) (hn_18 : (25 - x9.toInt).toNat < n_18) (ls : Array Slot) (hl : lv_has ls 5 [(4, .int x9), (3, .int x8), (2, .int x7), (0, .ref h0), (1, .int x_0)]), W p l e ({ frames := 4, cells := 0, slots := 0, locals := 90 } : Room) s m args below meth c H locs 0 0 (MQ below (iv_Qi iv_sh D classes tys base (fun v G' => G = G' ∧ iv_R (-2147483648) 2147483647 v)) args s 0 0 (iv_A base)) (F0 m 18 ls []) := by
      intro n_18
      induction n_18 with
      | zero => intro H locs hB x7 i_x7 x8 i_x8 x9 i_x9 hn_18 ls hl; exact absurd hn_18 (Nat.not_lt_zero _)
      | succ n_18 ih_18 =>
        intro H locs hB x7 i_x7 x8 i_x8 x9 i_x9 hn_18 ls hl
        refine lv_iload hx hb dX12_ropes_18 (lv_at hl 0 rfl) ?_
        refine lv_bipush (v := 24) hx hb dX12_ropes_20 (by decide) ?_
        refine lv_icmp_ge (tgt := 54) hx hb dX12_ropes_22 (by decide) (fun c10 => ?_) (fun c10 => ?_)
        · skip
          have i10_x9 : iv_R 24 24 x9 := (i_x9.cutLo (n := 24) (iv_le_l c10 q_24))
          refine lv_iload_n hx hb dX12_ropes_54 rfl (lv_at hl 4 rfl) ?_
          refine lv_if_ne (tgt := 62) hx hb dX12_ropes_55 (by decide) (fun c12 => ?_) (fun c12 => ?_)
          · skip
            have i12_x_0 : iv_R 1 1 x_0 := iv_ne_lo c12 i5_x_0 q_0 (by decide)
            refine lv_iload_n hx hb dX12_ropes_62 rfl (lv_at hl 2 rfl) ?_
            exact iv_iret X hr hlocks hB ⟨rfl, i_x7⟩ dX12_ropes_63
          · skip
            have i13_x_0 : iv_R 0 0 x_0 := (i5_x_0.cutHi (n := 0) (iv_eq_r c12 q_0).2)
            refine lv_iload_n hx hb dX12_ropes_58 rfl (lv_at hl 1 rfl) ?_
            refine lv_goto (tgt := 63) hx hb dX12_ropes_59 (by decide) ?_
            exact iv_iret X hr hlocks hB ⟨rfl, (i_x8.wk (by decide))⟩ dX12_ropes_63
        · skip
          have i14_x9 : iv_R 0 23 x9 := (i_x9.cutHi (n := 23) (iv_lt_r (iv_nle c10) q_24 (by decide)))
          refine lv_aload_n hx hb dX12_ropes_25 rfl (lv_at hl 3 rfl) ?_
          refine lv_iload hx hb dX12_ropes_26 (lv_at hl 0 rfl) ?_
          refine iv_cVi X k_good k_mf_X12_soundingIn k_im_X12_soundingIn k_sel_X12_soundingIn k_ml_X12_380 ft_X12 hB a_h0 sh_12 (As := [.int x9]) (c_X12_soundingIn l D tys base G h0 g_h0 r_h0 a_h0 x9 i14_x9) ⟨rfl, rfl⟩ ⟨Nat.le_of_ble_eq_true rfl, Nat.le_of_ble_eq_true rfl⟩ ⟨Nat.le_of_ble_eq_true rfl, Nat.le_of_ble_eq_true rfl⟩ rfl rfl hl.1 (Nat.le_of_ble_eq_true rfl) dX12_ropes_28 (fun x16 G9 H locs hq hB => ?_)
          obtain ⟨rfl, i_x16⟩ := hq
          refine lv_iload_n hx hb dX12_ropes_31 rfl (lv_at hl 2 rfl) ?_
          refine lv_icmp_gt (tgt := 38) hx hb dX12_ropes_32 (by decide) (fun c17 => ?_) (fun c17 => ?_)
          · skip
            have i17_x7 : iv_R (-2147483648) 2147483646 x7 := (i_x7.cutHi (n := 2147483646) (iv_lt_r c17 i_x16 (by decide)))
            have i18_x16 : iv_R (-2147483647) 2147483647 x16 := (i_x16.cutLo (n := (-2147483647)) (iv_lt_l c17 i_x7 (by decide)))
            refine lv_aload_n hx hb dX12_ropes_38 rfl (lv_at hl 3 rfl) ?_
            refine lv_iload hx hb dX12_ropes_39 (lv_at hl 0 rfl) ?_
            refine iv_cVi X k_good k_mf_X12_soundingIn k_im_X12_soundingIn k_sel_X12_soundingIn k_ml_X12_380 ft_X12 hB a_h0 sh_12 (As := [.int x9]) (c_X12_soundingIn l D tys base G h0 g_h0 r_h0 a_h0 x9 i14_x9) ⟨rfl, rfl⟩ ⟨Nat.le_of_ble_eq_true rfl, Nat.le_of_ble_eq_true rfl⟩ ⟨Nat.le_of_ble_eq_true rfl, Nat.le_of_ble_eq_true rfl⟩ rfl rfl hl.1 (Nat.le_of_ble_eq_true rfl) dX12_ropes_41 (fun x20 G9 H locs hq hB => ?_)
            obtain ⟨rfl, i_x20⟩ := hq
            refine lv_istore_n (lv' := [(2, .int x20), (4, .int x9), (3, .int x8), (0, .ref h0), (1, .int x_0)]) hx hb dX12_ropes_44 rfl hl (by decide) rfl (fun ls hl => ?_)
            refine lv_iload hx hb dX12_ropes_45 (lv_at hl 1 rfl) ?_
            refine lv_istore_n (lv' := [(3, .int x9), (2, .int x20), (4, .int x9), (0, .ref h0), (1, .int x_0)]) hx hb dX12_ropes_47 rfl hl (by decide) rfl (fun ls hl => ?_)
            refine iv_iinc hx hb i14_x9 (lo := 1) (hi := 24) (by decide) dX12_ropes_48 hl (k := 2) rfl (by decide) (fun x21 ls e_x21 i_x21 hl => ?_)
            have hl : lv_has ls 5 [(4, .int x21), (3, .int x9), (2, .int x20), (0, .ref h0), (1, .int x_0)] := hl
            refine lv_goto (tgt := 18) hx hb dX12_ropes_51 (by decide) ?_
            exact ih_18 _ _ hB x20 i_x20 x9 (i14_x9.wk (by decide)) x21 (i_x21.wk (by decide)) (iv_mup (c := 1) i_x9 (by decide) (by decide) (by omega) hn_18) _ (lv_sub hl [0, 1, 2, 3, 4] rfl)
          · skip
            refine lv_goto (tgt := 48) hx hb dX12_ropes_35 (by decide) ?_
            refine iv_iinc hx hb i14_x9 (lo := 1) (hi := 24) (by decide) dX12_ropes_48 hl (k := 0) rfl (by decide) (fun x22 ls e_x22 i_x22 hl => ?_)
            have hl : lv_has ls 5 [(4, .int x22), (3, .int x8), (2, .int x7), (0, .ref h0), (1, .int x_0)] := hl
            refine lv_goto (tgt := 18) hx hb dX12_ropes_51 (by decide) ?_
            exact ih_18 _ _ hB x7 i_x7 x8 i_x8 x22 (i_x22.wk (by decide)) (iv_mup (c := 1) i_x9 (by decide) (by decide) (by omega) hn_18) _ (lv_sub hl [0, 1, 2, 3, 4] rfl)
    exact L_18 _ _ _ hB 0 (q_0.wk (by decide)) (-1) (q_n1.wk (by decide)) 0 (q_0.wk (by decide)) (Nat.lt_succ_self _) _ (lv_sub hl [0, 1, 2, 3, 4] rfl)
  · skip
    have i22_x1 : iv_R 0 0 x1 := (i_x1.cutHi (n := 0) (iv_eq_r c4 q_0).2)
    refine lv_iconst (v := (-1)) hx hb dX12_ropes_9 (by decide) ?_
    exact iv_iret X hr hlocks hB ⟨rfl, (q_n1.wk (by decide))⟩ dX12_ropes_10
theorem dX12_rowsFrom_0 : decode cX12_rowsFrom 0 = .ok (.iload_n 1, 1) := by decide +kernel
theorem dX12_rowsFrom_1 : decode cX12_rowsFrom 1 = .ok (.aload_n 0, 1) := by decide +kernel
theorem dX12_rowsFrom_2 : decode cX12_rowsFrom 2 = .ok (.getfield 7, 3) := by decide +kernel
theorem dX12_rowsFrom_5 : decode cX12_rowsFrom 5 = .ok (.sipush 146, 3) := by decide +kernel
theorem dX12_rowsFrom_8 : decode cX12_rowsFrom 8 = .ok (.iaload, 1) := by decide +kernel
theorem dX12_rowsFrom_9 : decode cX12_rowsFrom 9 = .ok (.if_icmp .ne 5, 3) := by decide +kernel
theorem dX12_rowsFrom_12 : decode cX12_rowsFrom 12 = .ok (.iconst 1, 1) := by decide +kernel
theorem dX12_rowsFrom_13 : decode cX12_rowsFrom 13 = .ok (.ireturn, 1) := by decide +kernel
theorem dX12_rowsFrom_14 : decode cX12_rowsFrom 14 = .ok (.aload_n 0, 1) := by decide +kernel
theorem dX12_rowsFrom_15 : decode cX12_rowsFrom 15 = .ok (.iload_n 1, 1) := by decide +kernel
theorem dX12_rowsFrom_16 : decode cX12_rowsFrom 16 = .ok (.bipush 6, 2) := by decide +kernel
theorem dX12_rowsFrom_18 : decode cX12_rowsFrom 18 = .ok (.invokevirtual 282, 3) := by decide +kernel
theorem dX12_rowsFrom_21 : decode cX12_rowsFrom 21 = .ok (.ifCond .eq 19, 3) := by decide +kernel
theorem dX12_rowsFrom_24 : decode cX12_rowsFrom 24 = .ok (.aload_n 0, 1) := by decide +kernel
theorem dX12_rowsFrom_25 : decode cX12_rowsFrom 25 = .ok (.getfield 44, 3) := by decide +kernel
theorem dX12_rowsFrom_28 : decode cX12_rowsFrom 28 = .ok (.iload_n 1, 1) := by decide +kernel
theorem dX12_rowsFrom_29 : decode cX12_rowsFrom 29 = .ok (.iconst (-1), 1) := by decide +kernel
theorem dX12_rowsFrom_30 : decode cX12_rowsFrom 30 = .ok (.iastore, 1) := by decide +kernel
theorem dX12_rowsFrom_31 : decode cX12_rowsFrom 31 = .ok (.aload_n 0, 1) := by decide +kernel
theorem dX12_rowsFrom_32 : decode cX12_rowsFrom 32 = .ok (.iload_n 1, 1) := by decide +kernel
theorem dX12_rowsFrom_33 : decode cX12_rowsFrom 33 = .ok (.iconst 1, 1) := by decide +kernel
theorem dX12_rowsFrom_34 : decode cX12_rowsFrom 34 = .ok (.iadd, 1) := by decide +kernel
theorem dX12_rowsFrom_35 : decode cX12_rowsFrom 35 = .ok (.iload_n 2, 1) := by decide +kernel
theorem dX12_rowsFrom_36 : decode cX12_rowsFrom 36 = .ok (.invokevirtual 399, 3) := by decide +kernel
theorem dX12_rowsFrom_39 : decode cX12_rowsFrom 39 = .ok (.ireturn, 1) := by decide +kernel
theorem dX12_rowsFrom_40 : decode cX12_rowsFrom 40 = .ok (.iconst 0, 1) := by decide +kernel
theorem dX12_rowsFrom_41 : decode cX12_rowsFrom 41 = .ok (.istore_n 3, 1) := by decide +kernel
theorem dX12_rowsFrom_42 : decode cX12_rowsFrom 42 = .ok (.iload_n 3, 1) := by decide +kernel
theorem dX12_rowsFrom_43 : decode cX12_rowsFrom 43 = .ok (.iload_n 2, 1) := by decide +kernel
theorem dX12_rowsFrom_44 : decode cX12_rowsFrom 44 = .ok (.if_icmp .ge 38, 3) := by decide +kernel
theorem dX12_rowsFrom_47 : decode cX12_rowsFrom 47 = .ok (.aload_n 0, 1) := by decide +kernel
theorem dX12_rowsFrom_48 : decode cX12_rowsFrom 48 = .ok (.getfield 44, 3) := by decide +kernel
theorem dX12_rowsFrom_51 : decode cX12_rowsFrom 51 = .ok (.iload_n 1, 1) := by decide +kernel
theorem dX12_rowsFrom_52 : decode cX12_rowsFrom 52 = .ok (.iload_n 3, 1) := by decide +kernel
theorem dX12_rowsFrom_53 : decode cX12_rowsFrom 53 = .ok (.iastore, 1) := by decide +kernel
theorem dX12_rowsFrom_54 : decode cX12_rowsFrom 54 = .ok (.aload_n 0, 1) := by decide +kernel
theorem dX12_rowsFrom_55 : decode cX12_rowsFrom 55 = .ok (.iload_n 1, 1) := by decide +kernel
theorem dX12_rowsFrom_56 : decode cX12_rowsFrom 56 = .ok (.iload_n 3, 1) := by decide +kernel
theorem dX12_rowsFrom_57 : decode cX12_rowsFrom 57 = .ok (.invokevirtual 402, 3) := by decide +kernel
theorem dX12_rowsFrom_60 : decode cX12_rowsFrom 60 = .ok (.ifCond .eq 16, 3) := by decide +kernel
theorem dX12_rowsFrom_63 : decode cX12_rowsFrom 63 = .ok (.aload_n 0, 1) := by decide +kernel
theorem dX12_rowsFrom_64 : decode cX12_rowsFrom 64 = .ok (.iload_n 1, 1) := by decide +kernel
theorem dX12_rowsFrom_65 : decode cX12_rowsFrom 65 = .ok (.iconst 1, 1) := by decide +kernel
theorem dX12_rowsFrom_66 : decode cX12_rowsFrom 66 = .ok (.iadd, 1) := by decide +kernel
theorem dX12_rowsFrom_67 : decode cX12_rowsFrom 67 = .ok (.iload_n 2, 1) := by decide +kernel
theorem dX12_rowsFrom_68 : decode cX12_rowsFrom 68 = .ok (.invokevirtual 399, 3) := by decide +kernel
theorem dX12_rowsFrom_71 : decode cX12_rowsFrom 71 = .ok (.ifCond .eq 5, 3) := by decide +kernel
theorem dX12_rowsFrom_74 : decode cX12_rowsFrom 74 = .ok (.iconst 1, 1) := by decide +kernel
theorem dX12_rowsFrom_75 : decode cX12_rowsFrom 75 = .ok (.ireturn, 1) := by decide +kernel
theorem dX12_rowsFrom_76 : decode cX12_rowsFrom 76 = .ok (.iinc 3 1, 3) := by decide +kernel
theorem dX12_rowsFrom_79 : decode cX12_rowsFrom 79 = .ok (.goto (-37), 3) := by decide +kernel
theorem dX12_rowsFrom_82 : decode cX12_rowsFrom 82 = .ok (.iconst 0, 1) := by decide +kernel
theorem dX12_rowsFrom_83 : decode cX12_rowsFrom 83 = .ok (.ireturn, 1) := by decide +kernel
set_option maxHeartbeats 4000000 in
set_option maxRecDepth 100000 in
theorem c_X12_rowsFrom_rec (l : Launch) (D : va_G) (tys : List (ClassId × FieldType)) (base : Nat) : ∀ (d : Nat) (G : iv_G) (h0 : Nat) (g_h0 : Nat → Int32) (r_h0 : Nat → Nat) (a_h0 : G h0 = some (12, g_h0, r_h0)) (x_0 : Int32) (i_x_0 : iv_R 0 10 x_0) (x_1 : Int32) (i_x_1 : iv_R (-2147483648) 2147483647 x_1) (gw : Nat → Int32) (rw : Nat → Nat) (hw : G (r_h0 0) = some (60, gw, rw)) (le : x_0.toInt ≤ (gw 146).toInt) (hd : (11 - x_0.toInt).toNat ≤ d), Met l yX12_rowsFrom (Cond.code yX12_rowsFrom cX12_rowsFrom 4 (some .boolean) :: iv_W0) ({ frames := 2 + d, cells := 0, slots := 0, locals := 45 + 23 * d }) (iv_Pc iv_sh D classes tys base G [.ref h0, .int x_0, .int x_1]) (iv_Qi iv_sh D classes tys base (fun v G' => iv_Md [70] G G' ∧ iv_R 0 1 v ∧ (v = 0 → iv_R 0 9 x_0))) 0 0 (iv_A base) := by
  intro d
  induction d with
  | zero => intro G h0 g_h0 r_h0 a_h0 x_0 i_x_0 x_1 i_x_1 gw rw hw le hd; exact absurd hd (by have := i_x_0.2; omega)
  | succ d ih =>
    intro G h0 g_h0 r_h0 a_h0 x_0 i_x_0 x_1 i_x_1 gw rw hw le hd
    refine iv_head (by decide) (Nat.le_of_ble_eq_true rfl) ?_
    intro p e s m args below meth c ls X hr hlocks hname hB hl
    have X := X
    have hx := X.1.1
    have hb := X.1.2.1
    have hM : iv_Md [70] G G := iv_Md.rf
    have hl : lv_has ls 4 [(0, .ref h0), (1, .int x_0), (2, .int x_1)] := hl
    refine lv_iload_n hx hb dX12_rowsFrom_0 rfl (lv_at hl 1 rfl) ?_
    refine lv_aload_n hx hb dX12_rowsFrom_1 rfl (lv_at hl 0 rfl) ?_
    refine iv_getr X ft_X12 hB a_h0 sh_12 0 (by decide) rfl k_fl_X12_7 dX12_rowsFrom_2 (fun b1 g_b1 r_b1 e_b1 a_b1 => ?_)
    refine lv_sipush (v := 146) hx hb dX12_rowsFrom_5 (by decide) ?_
    refine iv_wald_c X hB a_b1 q_146 (by decide) (lo := 0) (hi' := 10) (by decide) dX12_rowsFrom_8 (fun x2 e_x2 i_x2 => ?_)
    refine lv_icmp_ne (tgt := 14) hx hb dX12_rowsFrom_9 (by decide) (fun c3 => ?_) (fun c3 => ?_)
    · skip
      have hg2 : g_b1 = gw := iv_samew hw e_b1 a_b1
      have hl2 : x_0.toInt < (gw 146).toInt := by have w1 : x2 = gw 146 := (by rw [e_x2, hg2]; rfl); have w2 : ¬ x_0.toInt = x2.toInt := fun h => (by assumption : ¬ x_0 = x2) (Int32.toInt_inj.mp h); rw [← w1] at le ⊢; omega
      have hk2 : x_0.toInt ≤ 9 := by have w1 : x2 = gw 146 := (by rw [e_x2, hg2]; rfl); have w2 := i_x2.2; rw [w1] at w2; omega
      have i3_x_0 : iv_R 0 9 x_0 := i_x_0.cutHi hk2
      refine lv_aload_n hx hb dX12_rowsFrom_14 rfl (lv_at hl 0 rfl) ?_
      refine lv_iload_n hx hb dX12_rowsFrom_15 rfl (lv_at hl 1 rfl) ?_
      refine lv_bipush (v := 6) hx hb dX12_rowsFrom_16 (by decide) ?_
      refine iv_cVi X k_good k_mf_X12_ofBell k_im_X12_ofBell k_sel_X12_ofBell k_ml_X12_282 ft_X12 hB a_h0 sh_12 (As := [.int x_0, .int 6]) (c_X12_ofBell l D tys base G h0 g_h0 r_h0 a_h0 x_0 i3_x_0 6 (q_6.wk (by decide))) ⟨rfl, rfl⟩ ⟨by dsimp only; omega, by dsimp only; omega⟩ ⟨Nat.le_of_ble_eq_true rfl, Nat.le_of_ble_eq_true rfl⟩ rfl rfl hl.1 (Nat.le_of_ble_eq_true rfl) dX12_rowsFrom_18 (fun x5 G9 H locs hq hB => ?_)
      obtain ⟨rfl, i_x5, cp6, cp7⟩ := hq
      refine lv_if_eq (tgt := 40) hx hb dX12_rowsFrom_21 (by decide) (fun c8 => ?_) (fun c8 => ?_)
      · skip
        have i8_x5 : iv_R 0 0 x5 := ((i_x5.cutLo (n := 0) (iv_eq_r c8 q_0).1).cutHi (n := 0) (iv_eq_r c8 q_0).2)
        refine lv_iconst (v := 0) hx hb dX12_rowsFrom_40 (by decide) ?_
        refine lv_istore_n (lv' := [(3, .int 0), (0, .ref h0), (1, .int x_0), (2, .int x_1)]) hx hb dX12_rowsFrom_41 rfl hl (by decide) rfl (fun ls hl => ?_)
        have L_42 : ∀ (n_42 : Nat) (G11 : iv_G) (hM : iv_Md [70] G G11) (H : Heap) (locs : List Loc) (hB : iv_B iv_sh D classes tys base G11 s.heap H locs) (a_h0 : G11 h0 = some (12, g_h0, r_h0)) (a_b1 : G11 b1 = some (60, g_b1, r_b1)) (x10 : Int32) (i_x10 : iv_R 0 2147483647 x10) (hn_42 : (2147483648 - x10.toInt).toNat < n_42) (ls : Array Slot) (hl : lv_has ls 4 [(3, .int x10), (0, .ref h0), (1, .int x_0), (2, .int x_1)]), W p l e ({ frames := 2 + (d + 1), cells := 0, slots := 0, locals := 45 + 23 * (d + 1) } : Room) s m args below meth c H locs 0 0 (MQ below (iv_Qi iv_sh D classes tys base (fun v G' => iv_Md [70] G G' ∧ iv_R 0 1 v ∧ (v = 0 → iv_R 0 9 x_0))) args s 0 0 (iv_A base)) (F0 m 42 ls []) := by
          intro n_42
          induction n_42 with
          | zero => intro G11 hM H locs hB a_h0 a_b1 x10 i_x10 hn_42 ls hl; exact absurd hn_42 (Nat.not_lt_zero _)
          | succ n_42 ih_42 =>
            intro G11 hM H locs hB a_h0 a_b1 x10 i_x10 hn_42 ls hl
            refine lv_iload_n hx hb dX12_rowsFrom_42 rfl (lv_at hl 0 rfl) ?_
            refine lv_iload_n hx hb dX12_rowsFrom_43 rfl (lv_at hl 3 rfl) ?_
            refine lv_icmp_ge (tgt := 82) hx hb dX12_rowsFrom_44 (by decide) (fun c12 => ?_) (fun c12 => ?_)
            · skip
              refine lv_iconst (v := 0) hx hb dX12_rowsFrom_82 (by decide) ?_
              exact iv_zret X hr hlocks hB (q_0.wk (by decide)) ⟨hM, (q_0.wk (by decide)), fun _ => i3_x_0⟩ dX12_rowsFrom_83
            · skip
              have i12_x10 : iv_R 0 2147483646 x10 := (i_x10.cutHi (n := 2147483646) (iv_lt_r (iv_nle c12) i_x_1 (by decide)))
              have i13_x_1 : iv_R 1 2147483647 x_1 := (i_x_1.cutLo (n := 1) (iv_lt_l (iv_nle c12) i_x10 (by decide)))
              refine lv_aload_n hx hb dX12_rowsFrom_47 rfl (lv_at hl 1 rfl) ?_
              refine iv_getr X ft_X12 hB a_h0 sh_12 27 (by decide) rfl k_fl_X12_44 dX12_rowsFrom_48 (fun b15 g_b15 r_b15 e_b15 a_b15 => ?_)
              refine lv_iload_n hx hb dX12_rowsFrom_51 rfl (lv_at hl 2 rfl) ?_
              refine lv_iload_n hx hb dX12_rowsFrom_52 rfl (lv_at hl 0 rfl) ?_
              refine iv_ast X hB a_b15 sh_70 (iv_in i3_x_0 (by decide)) (i12_x10.wk (by decide)) dX12_rowsFrom_53 (fun H locs hB => ?_)
              have hm := iv_Md.ast (j := x_0.toNatClampNeg) (x := x10) a_b15 rfl (by decide)
              have h9 := iv_up_eq (G := G11) (a := b15) (k := (70, upd g_b15 x_0.toNatClampNeg x10, r_b15))
              generalize iv_up G11 b15 _ = G16 at hB hm h9
              have hM := hM.stp hm (by decide)
              have a_h0 := hm.at a_h0 (by decide)
              have a_b1 := hm.at a_b1 (by decide)
              refine lv_aload_n hx hb dX12_rowsFrom_54 rfl (lv_at hl 1 rfl) ?_
              refine lv_iload_n hx hb dX12_rowsFrom_55 rfl (lv_at hl 2 rfl) ?_
              refine lv_iload_n hx hb dX12_rowsFrom_56 rfl (lv_at hl 0 rfl) ?_
              refine iv_cVi X k_good k_mf_X12_canRing k_im_X12_canRing k_sel_X12_canRing k_ml_X12_402 ft_X12 hB a_h0 sh_12 (As := [.int x_0, .int x10]) (c_X12_canRing l D tys base G16 h0 g_h0 r_h0 a_h0 x_0 i3_x_0 x10 i12_x10) ⟨rfl, rfl⟩ ⟨by dsimp only; omega, by dsimp only; omega⟩ ⟨Nat.le_of_ble_eq_true rfl, Nat.le_of_ble_eq_true rfl⟩ rfl rfl hl.1 (Nat.le_of_ble_eq_true rfl) dX12_rowsFrom_57 (fun x18 G9 H locs hq hB => ?_)
              obtain ⟨rfl, i_x18, hp19⟩ := hq
              refine lv_if_eq (tgt := 76) hx hb dX12_rowsFrom_60 (by decide) (fun c20 => ?_) (fun c20 => ?_)
              · skip
                have i20_x18 : iv_R 0 0 x18 := (i_x18.cutHi (n := 0) (iv_eq_r c20 q_0).2)
                have i21_x_0 : iv_R 1 9 x_0 := (i3_x_0.cutLo (n := 1) (hp19 c20).1)
                refine iv_iinc hx hb i12_x10 (lo := 1) (hi := 2147483647) (by decide) dX12_rowsFrom_76 hl (k := 0) rfl (by decide) (fun x23 ls e_x23 i_x23 hl => ?_)
                have hl : lv_has ls 4 [(3, .int x23), (0, .ref h0), (1, .int x_0), (2, .int x_1)] := hl
                refine lv_goto (tgt := 42) hx hb dX12_rowsFrom_79 (by decide) ?_
                exact ih_42 G16 hM _ _ hB a_h0 a_b1 x23 (i_x23.wk (by decide)) (iv_mup (c := 1) i_x10 (by decide) (by decide) (by omega) hn_42) _ (lv_sub hl [0, 1, 2, 3] rfl)
              · skip
                have i23_x18 : iv_R 1 1 x18 := iv_ne_lo c20 i_x18 q_0 (by decide)
                refine lv_aload_n hx hb dX12_rowsFrom_63 rfl (lv_at hl 1 rfl) ?_
                refine lv_iload_n hx hb dX12_rowsFrom_64 rfl (lv_at hl 2 rfl) ?_
                refine lv_iconst (v := 1) hx hb dX12_rowsFrom_65 (by decide) ?_
                refine iv_iadd hx hb i3_x_0 q_1 (lo := 1) (hi := 10) (by decide) dX12_rowsFrom_66 (fun x25 e_x25 i_x25 => ?_)
                refine lv_iload_n hx hb dX12_rowsFrom_67 rfl (lv_at hl 3 rfl) ?_
                have hw3 := hM.at hw (by decide)
                refine iv_cVi X k_good k_mf_X12_rowsFrom k_im_X12_rowsFrom k_sel_X12_rowsFrom k_ml_X12_399 ft_X12 hB a_h0 sh_12 (As := [.int x25, .int x_1]) (ih G16 h0 g_h0 r_h0 a_h0 x25 (i_x25.wk (by decide)) x_1 (i13_x_1.wk (by decide)) gw rw hw3 (by have w1 : x25.toInt = x_0.toInt + 1 := e_x25; have w2 := hl2; omega) (by have e9 : x25.toInt = x_0.toInt + 1 := e_x25; have e8 := i_x_0.2; omega)) ⟨rfl, rfl⟩ ⟨by dsimp only; omega, by dsimp only; omega⟩ ⟨Nat.le_of_ble_eq_true rfl, Nat.le_of_ble_eq_true rfl⟩ rfl rfl hl.1 (Nat.le_of_ble_eq_true rfl) dX12_rowsFrom_68 (fun x26 G9 H locs hq hB => ?_)
                obtain ⟨hm, i_x26, hp27⟩ := hq
                obtain ⟨G28, hG9⟩ : ∃ g, g = G9 := ⟨_, rfl⟩
                rw [← hG9] at hm hB
                have hM := hM.stp hm (by decide)
                have a_h0 := hm.at a_h0 (by decide)
                have a_b1 := hm.at a_b1 (by decide)
                refine lv_if_eq (tgt := 76) hx hb dX12_rowsFrom_71 (by decide) (fun c29 => ?_) (fun c29 => ?_)
                · skip
                  have i29_x26 : iv_R 0 0 x26 := (i_x26.cutHi (n := 0) (iv_eq_r c29 q_0).2)
                  have i30_x25 : iv_R 1 9 x25 := (i_x25.cutHi (n := 9) (hp27 c29).2)
                  refine iv_iinc hx hb i12_x10 (lo := 1) (hi := 2147483647) (by decide) dX12_rowsFrom_76 hl (k := 0) rfl (by decide) (fun x32 ls e_x32 i_x32 hl => ?_)
                  have hl : lv_has ls 4 [(3, .int x32), (0, .ref h0), (1, .int x_0), (2, .int x_1)] := hl
                  refine lv_goto (tgt := 42) hx hb dX12_rowsFrom_79 (by decide) ?_
                  exact ih_42 G28 hM _ _ hB a_h0 a_b1 x32 (i_x32.wk (by decide)) (iv_mup (c := 1) i_x10 (by decide) (by decide) (by omega) hn_42) _ (lv_sub hl [0, 1, 2, 3] rfl)
                · skip
                  have i32_x26 : iv_R 1 1 x26 := iv_ne_lo c29 i_x26 q_0 (by decide)
                  refine lv_iconst (v := 1) hx hb dX12_rowsFrom_74 (by decide) ?_
                  exact iv_zret X hr hlocks hB (q_1.wk (by decide)) ⟨hM, (q_1.wk (by decide)), fun _ => i3_x_0⟩ dX12_rowsFrom_75
        exact L_42 _ G hM _ _ hB a_h0 a_b1 0 (q_0.wk (by decide)) (Nat.lt_succ_self _) _ (lv_sub hl [0, 1, 2, 3] rfl)
      · skip
        refine lv_aload_n hx hb dX12_rowsFrom_24 rfl (lv_at hl 0 rfl) ?_
        refine iv_getr X ft_X12 hB a_h0 sh_12 27 (by decide) rfl k_fl_X12_44 dX12_rowsFrom_25 (fun b34 g_b34 r_b34 e_b34 a_b34 => ?_)
        refine lv_iload_n hx hb dX12_rowsFrom_28 rfl (lv_at hl 1 rfl) ?_
        refine lv_iconst (v := (-1)) hx hb dX12_rowsFrom_29 (by decide) ?_
        refine iv_ast X hB a_b34 sh_70 (iv_in i3_x_0 (by decide)) (q_n1.wk (by decide)) dX12_rowsFrom_30 (fun H locs hB => ?_)
        have hm := iv_Md.ast (j := x_0.toNatClampNeg) (x := (-1)) a_b34 rfl (by decide)
        have h9 := iv_up_eq (G := G) (a := b34) (k := (70, upd g_b34 x_0.toNatClampNeg (-1), r_b34))
        generalize iv_up G b34 _ = G35 at hB hm h9
        have hM := hM.stp hm (by decide)
        have a_h0 := hm.at a_h0 (by decide)
        have a_b1 := hm.at a_b1 (by decide)
        refine lv_aload_n hx hb dX12_rowsFrom_31 rfl (lv_at hl 0 rfl) ?_
        refine lv_iload_n hx hb dX12_rowsFrom_32 rfl (lv_at hl 1 rfl) ?_
        refine lv_iconst (v := 1) hx hb dX12_rowsFrom_33 (by decide) ?_
        refine iv_iadd hx hb i3_x_0 q_1 (lo := 1) (hi := 10) (by decide) dX12_rowsFrom_34 (fun x37 e_x37 i_x37 => ?_)
        refine lv_iload_n hx hb dX12_rowsFrom_35 rfl (lv_at hl 2 rfl) ?_
        have hw4 := hM.at hw (by decide)
        refine iv_cVi X k_good k_mf_X12_rowsFrom k_im_X12_rowsFrom k_sel_X12_rowsFrom k_ml_X12_399 ft_X12 hB a_h0 sh_12 (As := [.int x37, .int x_1]) (ih G35 h0 g_h0 r_h0 a_h0 x37 (i_x37.wk (by decide)) x_1 i_x_1 gw rw hw4 (by have w1 : x37.toInt = x_0.toInt + 1 := e_x37; have w2 := hl2; omega) (by have e9 : x37.toInt = x_0.toInt + 1 := e_x37; have e8 := i_x_0.2; omega)) ⟨rfl, rfl⟩ ⟨by dsimp only; omega, by dsimp only; omega⟩ ⟨Nat.le_of_ble_eq_true rfl, Nat.le_of_ble_eq_true rfl⟩ rfl rfl hl.1 (Nat.le_of_ble_eq_true rfl) dX12_rowsFrom_36 (fun x38 G9 H locs hq hB => ?_)
        obtain ⟨hm, i_x38, hp39⟩ := hq
        obtain ⟨G40, hG9⟩ : ∃ g, g = G9 := ⟨_, rfl⟩
        rw [← hG9] at hm hB
        have hM := hM.stp hm (by decide)
        have a_h0 := hm.at a_h0 (by decide)
        have a_b1 := hm.at a_b1 (by decide)
        exact iv_zret X hr hlocks hB i_x38 ⟨hM, i_x38, fun _ => i3_x_0⟩ dX12_rowsFrom_39
    · skip
      refine lv_iconst (v := 1) hx hb dX12_rowsFrom_12 (by decide) ?_
      exact iv_zret X hr hlocks hB (q_1.wk (by decide)) ⟨hM, (q_1.wk (by decide)), fun h => absurd h (iv_nz q_1 (by decide))⟩ dX12_rowsFrom_13
theorem c_X12_rowsFrom (l : Launch) (D : va_G) (tys : List (ClassId × FieldType)) (base : Nat) (G : iv_G) (h0 : Nat) (g_h0 : Nat → Int32) (r_h0 : Nat → Nat) (a_h0 : G h0 = some (12, g_h0, r_h0)) (x_0 : Int32) (i_x_0 : iv_R 0 10 x_0) (x_1 : Int32) (i_x_1 : iv_R (-2147483648) 2147483647 x_1) (gw : Nat → Int32) (rw : Nat → Nat) (hw : G (r_h0 0) = some (60, gw, rw)) (le : x_0.toInt ≤ (gw 146).toInt) : Met l yX12_rowsFrom (Cond.code yX12_rowsFrom cX12_rowsFrom 4 (some .boolean) :: iv_W0) ({ frames := 13, cells := 0, slots := 0, locals := 298 }) (iv_Pc iv_sh D classes tys base G [.ref h0, .int x_0, .int x_1]) (iv_Qi iv_sh D classes tys base (fun v G' => iv_Md [70] G G' ∧ iv_R 0 1 v ∧ (v = 0 → iv_R 0 9 x_0))) 0 0 (iv_A base) := c_X12_rowsFrom_rec l D tys base 11 G h0 g_h0 r_h0 a_h0 x_0 i_x_0 x_1 i_x_1 gw rw hw le (by have := i_x_0.1; omega)
theorem dX12_rows_0 : decode cX12_rows 0 = .ok (.iload_n 1, 1) := by decide +kernel
theorem dX12_rows_1 : decode cX12_rows 1 = .ok (.iconst 1, 1) := by decide +kernel
theorem dX12_rows_2 : decode cX12_rows 2 = .ok (.bipush 10, 2) := by decide +kernel
theorem dX12_rows_4 : decode cX12_rows 4 = .ok (.invokestatic 56, 3) := by decide +kernel
theorem dX12_rows_7 : decode cX12_rows 7 = .ok (.ifCond .eq 27, 3) := by decide +kernel
theorem dX12_rows_10 : decode cX12_rows 10 = .ok (.iload_n 2, 1) := by decide +kernel
theorem dX12_rows_11 : decode cX12_rows 11 = .ok (.ifCond .eq 25, 3) := by decide +kernel
theorem dX12_rows_14 : decode cX12_rows 14 = .ok (.iload_n 2, 1) := by decide +kernel
theorem dX12_rows_15 : decode cX12_rows 15 = .ok (.bipush 10, 2) := by decide +kernel
theorem dX12_rows_17 : decode cX12_rows 17 = .ok (.bipush 9, 2) := by decide +kernel
theorem dX12_rows_19 : decode cX12_rows 19 = .ok (.aload_n 0, 1) := by decide +kernel
theorem dX12_rows_20 : decode cX12_rows 20 = .ok (.getfield 7, 3) := by decide +kernel
theorem dX12_rows_23 : decode cX12_rows 23 = .ok (.sipush 146, 3) := by decide +kernel
theorem dX12_rows_26 : decode cX12_rows 26 = .ok (.iaload, 1) := by decide +kernel
theorem dX12_rows_27 : decode cX12_rows 27 = .ok (.iadd, 1) := by decide +kernel
theorem dX12_rows_28 : decode cX12_rows 28 = .ok (.invokestatic 56, 3) := by decide +kernel
theorem dX12_rows_31 : decode cX12_rows 31 = .ok (.ifCond .ne 5, 3) := by decide +kernel
theorem dX12_rows_34 : decode cX12_rows 34 = .ok (.iconst (-1), 1) := by decide +kernel
theorem dX12_rows_35 : decode cX12_rows 35 = .ok (.ireturn, 1) := by decide +kernel
theorem dX12_rows_36 : decode cX12_rows 36 = .ok (.iconst 0, 1) := by decide +kernel
theorem dX12_rows_37 : decode cX12_rows 37 = .ok (.istore_n 3, 1) := by decide +kernel
theorem dX12_rows_38 : decode cX12_rows 38 = .ok (.iload_n 3, 1) := by decide +kernel
theorem dX12_rows_39 : decode cX12_rows 39 = .ok (.iload_n 1, 1) := by decide +kernel
theorem dX12_rows_40 : decode cX12_rows 40 = .ok (.if_icmp .gt 36, 3) := by decide +kernel
theorem dX12_rows_43 : decode cX12_rows 43 = .ok (.aload_n 0, 1) := by decide +kernel
theorem dX12_rows_44 : decode cX12_rows 44 = .ok (.iconst 0, 1) := by decide +kernel
theorem dX12_rows_45 : decode cX12_rows 45 = .ok (.iload_n 3, 1) := by decide +kernel
theorem dX12_rows_46 : decode cX12_rows 46 = .ok (.invokevirtual 399, 3) := by decide +kernel
theorem dX12_rows_49 : decode cX12_rows 49 = .ok (.ifCond .eq 21, 3) := by decide +kernel
theorem dX12_rows_52 : decode cX12_rows 52 = .ok (.iload_n 2, 1) := by decide +kernel
theorem dX12_rows_53 : decode cX12_rows 53 = .ok (.ifCond .ne 7, 3) := by decide +kernel
theorem dX12_rows_56 : decode cX12_rows 56 = .ok (.iload_n 3, 1) := by decide +kernel
theorem dX12_rows_57 : decode cX12_rows 57 = .ok (.goto 12, 3) := by decide +kernel
theorem dX12_rows_60 : decode cX12_rows 60 = .ok (.aload_n 0, 1) := by decide +kernel
theorem dX12_rows_61 : decode cX12_rows 61 = .ok (.getfield 44, 3) := by decide +kernel
theorem dX12_rows_64 : decode cX12_rows 64 = .ok (.iload_n 2, 1) := by decide +kernel
theorem dX12_rows_65 : decode cX12_rows 65 = .ok (.bipush 10, 2) := by decide +kernel
theorem dX12_rows_67 : decode cX12_rows 67 = .ok (.isub, 1) := by decide +kernel
theorem dX12_rows_68 : decode cX12_rows 68 = .ok (.iaload, 1) := by decide +kernel
theorem dX12_rows_69 : decode cX12_rows 69 = .ok (.ireturn, 1) := by decide +kernel
theorem dX12_rows_70 : decode cX12_rows 70 = .ok (.iinc 3 1, 3) := by decide +kernel
theorem dX12_rows_73 : decode cX12_rows 73 = .ok (.goto (-35), 3) := by decide +kernel
theorem dX12_rows_76 : decode cX12_rows 76 = .ok (.iconst (-1), 1) := by decide +kernel
theorem dX12_rows_77 : decode cX12_rows 77 = .ok (.ireturn, 1) := by decide +kernel
set_option maxHeartbeats 4000000 in
set_option maxRecDepth 100000 in
theorem c_X12_rows (l : Launch) (D : va_G) (tys : List (ClassId × FieldType)) (base : Nat) (G : iv_G) (h0 : Nat) (g_h0 : Nat → Int32) (r_h0 : Nat → Nat) (a_h0 : G h0 = some (12, g_h0, r_h0)) (x_0 : Int32) (i_x_0 : iv_R (-2147483648) 2147483647 x_0) (x_1 : Int32) (i_x_1 : iv_R (-2147483648) 2147483647 x_1) : Met l yX12_rows (Cond.code yX12_rows cX12_rows 4 (some .int) :: iv_W0) ({ frames := 14, cells := 0, slots := 0, locals := 321 }) (iv_Pc iv_sh D classes tys base G [.ref h0, .int x_0, .int x_1]) (iv_Qi iv_sh D classes tys base (fun v G' => iv_Md [70] G G' ∧ iv_R (-2147483648) 2147483647 v)) 0 0 (iv_A base) := by
  refine iv_head (by decide) (Nat.le_of_ble_eq_true rfl) ?_
  intro p e s m args below meth c ls X hr hlocks hname hB hl
  have X := X
  have hx := X.1.1
  have hb := X.1.2.1
  have hM : iv_Md [70] G G := iv_Md.rf
  have hl : lv_has ls 4 [(0, .ref h0), (1, .int x_0), (2, .int x_1)] := hl
  refine lv_iload_n hx hb dX12_rows_0 rfl (lv_at hl 1 rfl) ?_
  refine lv_iconst (v := 1) hx hb dX12_rows_1 (by decide) ?_
  refine lv_bipush (v := 10) hx hb dX12_rows_2 (by decide) ?_
  refine iv_cSi X k_good k_mf_X12_isIn k_st_X12_isIn k_ml_X12_56 hB (As := [.int x_0, .int 1, .int 10]) (c_X12_isIn l D tys base G x_0 i_x_0 1 (q_1.wk (by decide)) 10 (q_10.wk (by decide))) ⟨rfl, rfl⟩ ⟨Nat.le_of_ble_eq_true rfl, Nat.le_of_ble_eq_true rfl⟩ ⟨Nat.le_of_ble_eq_true rfl, Nat.le_of_ble_eq_true rfl⟩ rfl rfl hl.1 (Nat.le_of_ble_eq_true rfl) dX12_rows_4 (fun x1 G9 H locs hq hB => ?_)
  obtain ⟨rfl, i_x1, hp2⟩ := hq
  have k3 : ¬ x1 = 0 → iv_R 1 10 x_0 := fun h => ⟨iv_max i_x_0.1 (Int.le_trans q_1.1 (hp2.1 h).1) (by decide), iv_min i_x_0.2 (Int.le_trans (hp2.1 h).2 q_10.2) (by decide)⟩
  refine lv_if_eq (tgt := 34) hx hb dX12_rows_7 (by decide) (fun c4 => ?_) (fun c4 => ?_)
  · skip
    have i4_x1 : iv_R 0 0 x1 := (i_x1.cutHi (n := 0) (iv_eq_r c4 q_0).2)
    refine lv_iconst (v := (-1)) hx hb dX12_rows_34 (by decide) ?_
    exact iv_iret X hr hlocks hB ⟨hM, (q_n1.wk (by decide))⟩ dX12_rows_35
  · skip
    have i5_x1 : iv_R 1 1 x1 := iv_ne_lo c4 i_x1 q_0 (by decide)
    have i6_x_0 : iv_R 1 10 x_0 := ((i_x_0.cutLo (n := 1) (k3 c4).1).cutHi (n := 10) (k3 c4).2)
    refine lv_iload_n hx hb dX12_rows_10 rfl (lv_at hl 2 rfl) ?_
    refine lv_if_eq (tgt := 36) hx hb dX12_rows_11 (by decide) (fun c8 => ?_) (fun c8 => ?_)
    · skip
      have i8_x_1 : iv_R 0 0 x_1 := ((i_x_1.cutLo (n := 0) (iv_eq_r c8 q_0).1).cutHi (n := 0) (iv_eq_r c8 q_0).2)
      refine lv_iconst (v := 0) hx hb dX12_rows_36 (by decide) ?_
      refine lv_istore_n (lv' := [(3, .int 0), (0, .ref h0), (1, .int x_0), (2, .int x_1)]) hx hb dX12_rows_37 rfl hl (by decide) rfl (fun ls hl => ?_)
      have L_38 : ∀ (n_38 : Nat) (G11 : iv_G) (hM : iv_Md [70] G G11) (H : Heap) (locs : List Loc) (hB : iv_B iv_sh D classes tys base G11 s.heap H locs) (a_h0 : G11 h0 = some (12, g_h0, r_h0)) (x10 : Int32) (i_x10 : iv_R 0 11 x10) (hn_38 : (12 - x10.toInt).toNat < n_38) (ls : Array Slot) (hl : lv_has ls 4 [(3, .int x10), (0, .ref h0), (1, .int x_0), (2, .int x_1)]), W p l e ({ frames := 14, cells := 0, slots := 0, locals := 321 } : Room) s m args below meth c H locs 0 0 (MQ below (iv_Qi iv_sh D classes tys base (fun v G' => iv_Md [70] G G' ∧ iv_R (-2147483648) 2147483647 v)) args s 0 0 (iv_A base)) (F0 m 38 ls []) := by
        intro n_38
        induction n_38 with
        | zero => intro G11 hM H locs hB a_h0 x10 i_x10 hn_38 ls hl; exact absurd hn_38 (Nat.not_lt_zero _)
        | succ n_38 ih_38 =>
          intro G11 hM H locs hB a_h0 x10 i_x10 hn_38 ls hl
          refine lv_iload_n hx hb dX12_rows_38 rfl (lv_at hl 0 rfl) ?_
          refine lv_iload_n hx hb dX12_rows_39 rfl (lv_at hl 2 rfl) ?_
          refine lv_icmp_gt (tgt := 76) hx hb dX12_rows_40 (by decide) (fun c12 => ?_) (fun c12 => ?_)
          · skip
            have i12_x10 : iv_R 2 11 x10 := (i_x10.cutLo (n := 2) (iv_lt_l c12 i6_x_0 (by decide)))
            refine lv_iconst (v := (-1)) hx hb dX12_rows_76 (by decide) ?_
            exact iv_iret X hr hlocks hB ⟨hM, (q_n1.wk (by decide))⟩ dX12_rows_77
          · skip
            have i13_x10 : iv_R 0 10 x10 := (i_x10.cutHi (n := 10) (iv_le_r (iv_nlt c12) i6_x_0))
            refine lv_aload_n hx hb dX12_rows_43 rfl (lv_at hl 1 rfl) ?_
            refine lv_iconst (v := 0) hx hb dX12_rows_44 (by decide) ?_
            refine lv_iload_n hx hb dX12_rows_45 rfl (lv_at hl 0 rfl) ?_
            obtain ⟨gv1, rv1, hv1, hz1⟩ := iv_getwP hB a_h0
            refine iv_cVi X k_good k_mf_X12_rowsFrom k_im_X12_rowsFrom k_sel_X12_rowsFrom k_ml_X12_399 ft_X12 hB a_h0 sh_12 (As := [.int 0, .int x10]) (c_X12_rowsFrom l D tys base G11 h0 g_h0 r_h0 a_h0 0 (q_0.wk (by decide)) x10 (i13_x10.wk (by decide)) gv1 rv1 hv1 (by have w1 : (0 : Int32).toInt = 0 := rfl; omega)) ⟨rfl, rfl⟩ ⟨Nat.le_of_ble_eq_true rfl, Nat.le_of_ble_eq_true rfl⟩ ⟨Nat.le_of_ble_eq_true rfl, Nat.le_of_ble_eq_true rfl⟩ rfl rfl hl.1 (Nat.le_of_ble_eq_true rfl) dX12_rows_46 (fun x15 G9 H locs hq hB => ?_)
            obtain ⟨hm, i_x15, hp16⟩ := hq
            obtain ⟨G17, hG9⟩ : ∃ g, g = G9 := ⟨_, rfl⟩
            rw [← hG9] at hm hB
            have hM := hM.stp hm (by decide)
            have a_h0 := hm.at a_h0 (by decide)
            refine lv_if_eq (tgt := 70) hx hb dX12_rows_49 (by decide) (fun c18 => ?_) (fun c18 => ?_)
            · skip
              have i18_x15 : iv_R 0 0 x15 := (i_x15.cutHi (n := 0) (iv_eq_r c18 q_0).2)
              refine iv_iinc hx hb i13_x10 (lo := 1) (hi := 11) (by decide) dX12_rows_70 hl (k := 0) rfl (by decide) (fun x20 ls e_x20 i_x20 hl => ?_)
              have hl : lv_has ls 4 [(3, .int x20), (0, .ref h0), (1, .int x_0), (2, .int x_1)] := hl
              refine lv_goto (tgt := 38) hx hb dX12_rows_73 (by decide) ?_
              exact ih_38 G17 hM _ _ hB a_h0 x20 (i_x20.wk (by decide)) (iv_mup (c := 1) i_x10 (by decide) (by decide) (by omega) hn_38) _ (lv_sub hl [0, 1, 2, 3] rfl)
            · skip
              have i20_x15 : iv_R 1 1 x15 := iv_ne_lo c18 i_x15 q_0 (by decide)
              refine lv_iload_n hx hb dX12_rows_52 rfl (lv_at hl 3 rfl) ?_
              refine lv_if_ne (tgt := 60) hx hb dX12_rows_53 (by decide) (fun c22 => ?_) (fun c22 => ?_)
              · skip
                exact (iv_ne_lo c22 i8_x_1 q_0 (a' := 1) (by decide)).no (by decide)
              · skip
                refine lv_iload_n hx hb dX12_rows_56 rfl (lv_at hl 0 rfl) ?_
                refine lv_goto (tgt := 69) hx hb dX12_rows_57 (by decide) ?_
                exact iv_iret X hr hlocks hB ⟨hM, (i13_x10.wk (by decide))⟩ dX12_rows_69
      exact L_38 _ G hM _ _ hB a_h0 0 (q_0.wk (by decide)) (Nat.lt_succ_self _) _ (lv_sub hl [0, 1, 2, 3] rfl)
    · skip
      refine lv_iload_n hx hb dX12_rows_14 rfl (lv_at hl 2 rfl) ?_
      refine lv_bipush (v := 10) hx hb dX12_rows_15 (by decide) ?_
      refine lv_bipush (v := 9) hx hb dX12_rows_17 (by decide) ?_
      refine lv_aload_n hx hb dX12_rows_19 rfl (lv_at hl 0 rfl) ?_
      refine iv_getr X ft_X12 hB a_h0 sh_12 0 (by decide) rfl k_fl_X12_7 dX12_rows_20 (fun b23 g_b23 r_b23 e_b23 a_b23 => ?_)
      refine lv_sipush (v := 146) hx hb dX12_rows_23 (by decide) ?_
      refine iv_wald_c X hB a_b23 q_146 (by decide) (lo := 0) (hi' := 10) (by decide) dX12_rows_26 (fun x24 e_x24 i_x24 => ?_)
      refine iv_iadd hx hb q_9 i_x24 (lo := 9) (hi := 19) (by decide) dX12_rows_27 (fun x25 e_x25 i_x25 => ?_)
      refine iv_cSi X k_good k_mf_X12_isIn k_st_X12_isIn k_ml_X12_56 hB (As := [.int x_1, .int 10, .int x25]) (c_X12_isIn l D tys base G x_1 i_x_1 10 (q_10.wk (by decide)) x25 (i_x25.wk (by decide))) ⟨rfl, rfl⟩ ⟨Nat.le_of_ble_eq_true rfl, Nat.le_of_ble_eq_true rfl⟩ ⟨Nat.le_of_ble_eq_true rfl, Nat.le_of_ble_eq_true rfl⟩ rfl rfl hl.1 (Nat.le_of_ble_eq_true rfl) dX12_rows_28 (fun x26 G9 H locs hq hB => ?_)
      obtain ⟨rfl, i_x26, hp27⟩ := hq
      have k28 : ¬ x26 = 0 → iv_R 10 19 x_1 := fun h => ⟨iv_max i_x_1.1 (Int.le_trans q_10.1 (hp27.1 h).1) (by decide), iv_min i_x_1.2 (Int.le_trans (hp27.1 h).2 i_x25.2) (by decide)⟩
      refine lv_if_ne (tgt := 36) hx hb dX12_rows_31 (by decide) (fun c29 => ?_) (fun c29 => ?_)
      · skip
        have i29_x26 : iv_R 1 1 x26 := iv_ne_lo c29 i_x26 q_0 (by decide)
        have i30_x_1 : iv_R 10 19 x_1 := ((i_x_1.cutLo (n := 10) (k28 c29).1).cutHi (n := 19) (k28 c29).2)
        refine lv_iconst (v := 0) hx hb dX12_rows_36 (by decide) ?_
        refine lv_istore_n (lv' := [(3, .int 0), (0, .ref h0), (1, .int x_0), (2, .int x_1)]) hx hb dX12_rows_37 rfl hl (by decide) rfl (fun ls hl => ?_)
        have L_38 : ∀ (n_38 : Nat) (G33 : iv_G) (hM : iv_Md [70] G G33) (H : Heap) (locs : List Loc) (hB : iv_B iv_sh D classes tys base G33 s.heap H locs) (a_h0 : G33 h0 = some (12, g_h0, r_h0)) (a_b23 : G33 b23 = some (60, g_b23, r_b23)) (x32 : Int32) (i_x32 : iv_R 0 11 x32) (hn_38 : (12 - x32.toInt).toNat < n_38) (ls : Array Slot) (hl : lv_has ls 4 [(3, .int x32), (0, .ref h0), (1, .int x_0), (2, .int x_1)]), W p l e ({ frames := 14, cells := 0, slots := 0, locals := 321 } : Room) s m args below meth c H locs 0 0 (MQ below (iv_Qi iv_sh D classes tys base (fun v G' => iv_Md [70] G G' ∧ iv_R (-2147483648) 2147483647 v)) args s 0 0 (iv_A base)) (F0 m 38 ls []) := by
          intro n_38
          induction n_38 with
          | zero => intro G33 hM H locs hB a_h0 a_b23 x32 i_x32 hn_38 ls hl; exact absurd hn_38 (Nat.not_lt_zero _)
          | succ n_38 ih_38 =>
            intro G33 hM H locs hB a_h0 a_b23 x32 i_x32 hn_38 ls hl
            refine lv_iload_n hx hb dX12_rows_38 rfl (lv_at hl 0 rfl) ?_
            refine lv_iload_n hx hb dX12_rows_39 rfl (lv_at hl 2 rfl) ?_
            refine lv_icmp_gt (tgt := 76) hx hb dX12_rows_40 (by decide) (fun c34 => ?_) (fun c34 => ?_)
            · skip
              have i34_x32 : iv_R 2 11 x32 := (i_x32.cutLo (n := 2) (iv_lt_l c34 i6_x_0 (by decide)))
              refine lv_iconst (v := (-1)) hx hb dX12_rows_76 (by decide) ?_
              exact iv_iret X hr hlocks hB ⟨hM, (q_n1.wk (by decide))⟩ dX12_rows_77
            · skip
              have i35_x32 : iv_R 0 10 x32 := (i_x32.cutHi (n := 10) (iv_le_r (iv_nlt c34) i6_x_0))
              refine lv_aload_n hx hb dX12_rows_43 rfl (lv_at hl 1 rfl) ?_
              refine lv_iconst (v := 0) hx hb dX12_rows_44 (by decide) ?_
              refine lv_iload_n hx hb dX12_rows_45 rfl (lv_at hl 0 rfl) ?_
              obtain ⟨gv2, rv2, hv2, hz2⟩ := iv_getwP hB a_h0
              refine iv_cVi X k_good k_mf_X12_rowsFrom k_im_X12_rowsFrom k_sel_X12_rowsFrom k_ml_X12_399 ft_X12 hB a_h0 sh_12 (As := [.int 0, .int x32]) (c_X12_rowsFrom l D tys base G33 h0 g_h0 r_h0 a_h0 0 (q_0.wk (by decide)) x32 (i35_x32.wk (by decide)) gv2 rv2 hv2 (by have w1 : (0 : Int32).toInt = 0 := rfl; omega)) ⟨rfl, rfl⟩ ⟨Nat.le_of_ble_eq_true rfl, Nat.le_of_ble_eq_true rfl⟩ ⟨Nat.le_of_ble_eq_true rfl, Nat.le_of_ble_eq_true rfl⟩ rfl rfl hl.1 (Nat.le_of_ble_eq_true rfl) dX12_rows_46 (fun x37 G9 H locs hq hB => ?_)
              obtain ⟨hm, i_x37, hp38⟩ := hq
              obtain ⟨G39, hG9⟩ : ∃ g, g = G9 := ⟨_, rfl⟩
              rw [← hG9] at hm hB
              have hM := hM.stp hm (by decide)
              have a_h0 := hm.at a_h0 (by decide)
              have a_b23 := hm.at a_b23 (by decide)
              refine lv_if_eq (tgt := 70) hx hb dX12_rows_49 (by decide) (fun c40 => ?_) (fun c40 => ?_)
              · skip
                have i40_x37 : iv_R 0 0 x37 := (i_x37.cutHi (n := 0) (iv_eq_r c40 q_0).2)
                refine iv_iinc hx hb i35_x32 (lo := 1) (hi := 11) (by decide) dX12_rows_70 hl (k := 0) rfl (by decide) (fun x42 ls e_x42 i_x42 hl => ?_)
                have hl : lv_has ls 4 [(3, .int x42), (0, .ref h0), (1, .int x_0), (2, .int x_1)] := hl
                refine lv_goto (tgt := 38) hx hb dX12_rows_73 (by decide) ?_
                exact ih_38 G39 hM _ _ hB a_h0 a_b23 x42 (i_x42.wk (by decide)) (iv_mup (c := 1) i_x32 (by decide) (by decide) (by omega) hn_38) _ (lv_sub hl [0, 1, 2, 3] rfl)
              · skip
                have i42_x37 : iv_R 1 1 x37 := iv_ne_lo c40 i_x37 q_0 (by decide)
                refine lv_iload_n hx hb dX12_rows_52 rfl (lv_at hl 3 rfl) ?_
                refine lv_if_ne (tgt := 60) hx hb dX12_rows_53 (by decide) (fun c44 => ?_) (fun c44 => ?_)
                · skip
                  refine lv_aload_n hx hb dX12_rows_60 rfl (lv_at hl 1 rfl) ?_
                  refine iv_getr X ft_X12 hB a_h0 sh_12 27 (by decide) rfl k_fl_X12_44 dX12_rows_61 (fun b45 g_b45 r_b45 e_b45 a_b45 => ?_)
                  refine lv_iload_n hx hb dX12_rows_64 rfl (lv_at hl 3 rfl) ?_
                  refine lv_bipush (v := 10) hx hb dX12_rows_65 (by decide) ?_
                  refine iv_isub hx hb i30_x_1 q_10 (lo := 0) (hi := 9) (by decide) dX12_rows_67 (fun x46 e_x46 i_x46 => ?_)
                  refine iv_ald X hB a_b45 sh_70 (iv_in i_x46 (by decide)) dX12_rows_68 (fun x47 e_x47 i_x47 => ?_)
                  exact iv_iret X hr hlocks hB ⟨hM, i_x47⟩ dX12_rows_69
                · skip
                  exact absurd c44 c8
        exact L_38 _ G hM _ _ hB a_h0 a_b23 0 (q_0.wk (by decide)) (Nat.lt_succ_self _) _ (lv_sub hl [0, 1, 2, 3] rfl)
      · skip
        have i47_x26 : iv_R 0 0 x26 := (i_x26.cutHi (n := 0) (iv_eq_r c29 q_0).2)
        refine lv_iconst (v := (-1)) hx hb dX12_rows_34 (by decide) ?_
        exact iv_iret X hr hlocks hB ⟨hM, (q_n1.wk (by decide))⟩ dX12_rows_35
theorem dX12_set_0 : decode cX12_set 0 = .ok (.aload_n 0, 1) := by decide +kernel
theorem dX12_set_1 : decode cX12_set 1 = .ok (.iload_n 1, 1) := by decide +kernel
theorem dX12_set_2 : decode cX12_set 2 = .ok (.iload_n 2, 1) := by decide +kernel
theorem dX12_set_3 : decode cX12_set 3 = .ok (.iload_n 3, 1) := by decide +kernel
theorem dX12_set_4 : decode cX12_set 4 = .ok (.invokevirtual 79, 3) := by decide +kernel
theorem dX12_set_7 : decode cX12_set 7 = .ok (.ifCond .ne 5, 3) := by decide +kernel
theorem dX12_set_10 : decode cX12_set 10 = .ok (.iconst 0, 1) := by decide +kernel
theorem dX12_set_11 : decode cX12_set 11 = .ok (.ireturn, 1) := by decide +kernel
theorem dX12_set_12 : decode cX12_set 12 = .ok (.iload_n 1, 1) := by decide +kernel
theorem dX12_set_13 : decode cX12_set 13 = .ok (.iconst 3, 1) := by decide +kernel
theorem dX12_set_14 : decode cX12_set 14 = .ok (.if_icmp .ge 34, 3) := by decide +kernel
theorem dX12_set_17 : decode cX12_set 17 = .ok (.aload_n 0, 1) := by decide +kernel
theorem dX12_set_18 : decode cX12_set 18 = .ok (.getfield 7, 3) := by decide +kernel
theorem dX12_set_21 : decode cX12_set 21 = .ok (.iload_n 1, 1) := by decide +kernel
theorem dX12_set_22 : decode cX12_set 22 = .ok (.ifCond .ne 9, 3) := by decide +kernel
theorem dX12_set_25 : decode cX12_set 25 = .ok (.sipush 147, 3) := by decide +kernel
theorem dX12_set_28 : decode cX12_set 28 = .ok (.goto 15, 3) := by decide +kernel
theorem dX12_set_31 : decode cX12_set 31 = .ok (.iload_n 1, 1) := by decide +kernel
theorem dX12_set_32 : decode cX12_set 32 = .ok (.iconst 1, 1) := by decide +kernel
theorem dX12_set_33 : decode cX12_set 33 = .ok (.if_icmp .ne 7, 3) := by decide +kernel
theorem dX12_set_36 : decode cX12_set 36 = .ok (.iconst 1, 1) := by decide +kernel
theorem dX12_set_37 : decode cX12_set 37 = .ok (.goto 6, 3) := by decide +kernel
theorem dX12_set_40 : decode cX12_set 40 = .ok (.sipush 148, 3) := by decide +kernel
theorem dX12_set_43 : decode cX12_set 43 = .ok (.iload_n 3, 1) := by decide +kernel
theorem dX12_set_44 : decode cX12_set 44 = .ok (.iastore, 1) := by decide +kernel
theorem dX12_set_45 : decode cX12_set 45 = .ok (.goto 28, 3) := by decide +kernel
theorem dX12_set_48 : decode cX12_set 48 = .ok (.aload_n 0, 1) := by decide +kernel
theorem dX12_set_49 : decode cX12_set 49 = .ok (.iload_n 2, 1) := by decide +kernel
theorem dX12_set_50 : decode cX12_set 50 = .ok (.iload_n 1, 1) := by decide +kernel
theorem dX12_set_51 : decode cX12_set 51 = .ok (.iconst 3, 1) := by decide +kernel
theorem dX12_set_52 : decode cX12_set 52 = .ok (.if_icmp .ne 7, 3) := by decide +kernel
theorem dX12_set_55 : decode cX12_set 55 = .ok (.iconst 3, 1) := by decide +kernel
theorem dX12_set_56 : decode cX12_set 56 = .ok (.goto 13, 3) := by decide +kernel
theorem dX12_set_59 : decode cX12_set 59 = .ok (.iload_n 1, 1) := by decide +kernel
theorem dX12_set_60 : decode cX12_set 60 = .ok (.iconst 4, 1) := by decide +kernel
theorem dX12_set_61 : decode cX12_set 61 = .ok (.if_icmp .ne 7, 3) := by decide +kernel
theorem dX12_set_64 : decode cX12_set 64 = .ok (.iconst 4, 1) := by decide +kernel
theorem dX12_set_65 : decode cX12_set 65 = .ok (.goto 4, 3) := by decide +kernel
theorem dX12_set_68 : decode cX12_set 68 = .ok (.iconst 1, 1) := by decide +kernel
theorem dX12_set_69 : decode cX12_set 69 = .ok (.iload_n 3, 1) := by decide +kernel
theorem dX12_set_70 : decode cX12_set 70 = .ok (.invokevirtual 72, 3) := by decide +kernel
theorem dX12_set_73 : decode cX12_set 73 = .ok (.aload_n 0, 1) := by decide +kernel
theorem dX12_set_74 : decode cX12_set 74 = .ok (.invokevirtual 63, 3) := by decide +kernel
theorem dX12_set_77 : decode cX12_set 77 = .ok (.iconst 1, 1) := by decide +kernel
theorem dX12_set_78 : decode cX12_set 78 = .ok (.ireturn, 1) := by decide +kernel
set_option maxHeartbeats 4000000 in
set_option maxRecDepth 100000 in
theorem c_X12_set (l : Launch) (D : va_G) (tys : List (ClassId × FieldType)) (base : Nat) (G : iv_G) (h0 : Nat) (g_h0 : Nat → Int32) (r_h0 : Nat → Nat) (a_h0 : G h0 = some (12, g_h0, r_h0)) (x_0 : Int32) (i_x_0 : iv_R (-2147483648) 2147483647 x_0) (x_1 : Int32) (i_x_1 : iv_R (-2147483648) 2147483647 x_1) (x_2 : Int32) (i_x_2 : iv_R (-2147483648) 2147483647 x_2) : Met l yX12_set (Cond.code yX12_set cX12_set 4 (some .boolean) :: iv_W0) ({ frames := 3, cells := 0, slots := 0, locals := 66 }) (iv_Pc iv_sh D classes tys base G [.ref h0, .int x_0, .int x_1, .int x_2]) (iv_Qi iv_sh D classes tys base (fun v G' => iv_Md [12, 60] G G' ∧ iv_R 0 1 v ∧ ((¬ v = 0 → iv_R 0 5 x_0) ∧ (¬ v = 0 → iv_R 0 1000 x_2)))) 0 0 (iv_A base) := by
  refine iv_head (by decide) (Nat.le_of_ble_eq_true rfl) ?_
  intro p e s m args below meth c ls X hr hlocks hname hB hl
  have X := X
  have hx := X.1.1
  have hb := X.1.2.1
  have hM : iv_Md [12, 60] G G := iv_Md.rf
  have hl : lv_has ls 4 [(0, .ref h0), (1, .int x_0), (2, .int x_1), (3, .int x_2)] := hl
  refine lv_aload_n hx hb dX12_set_0 rfl (lv_at hl 0 rfl) ?_
  refine lv_iload_n hx hb dX12_set_1 rfl (lv_at hl 1 rfl) ?_
  refine lv_iload_n hx hb dX12_set_2 rfl (lv_at hl 2 rfl) ?_
  refine lv_iload_n hx hb dX12_set_3 rfl (lv_at hl 3 rfl) ?_
  refine iv_cVi X k_good k_mf_X12_canSet k_im_X12_canSet k_sel_X12_canSet k_ml_X12_79 ft_X12 hB a_h0 sh_12 (As := [.int x_0, .int x_1, .int x_2]) (c_X12_canSet l D tys base G h0 g_h0 r_h0 a_h0 x_0 i_x_0 x_1 i_x_1 x_2 i_x_2) ⟨rfl, rfl⟩ ⟨Nat.le_of_ble_eq_true rfl, Nat.le_of_ble_eq_true rfl⟩ ⟨Nat.le_of_ble_eq_true rfl, Nat.le_of_ble_eq_true rfl⟩ rfl rfl hl.1 (Nat.le_of_ble_eq_true rfl) dX12_set_4 (fun x1 G9 H locs hq hB => ?_)
  obtain ⟨rfl, i_x1, hp2, ip3, ip4⟩ := hq
  refine lv_if_ne (tgt := 12) hx hb dX12_set_7 (by decide) (fun c5 => ?_) (fun c5 => ?_)
  · skip
    have i5_x1 : iv_R 1 1 x1 := iv_ne_lo c5 i_x1 q_0 (by decide)
    have i6_x_0 : iv_R 0 5 x_0 := ((i_x_0.cutLo (n := 0) (hp2.1 c5).1).cutHi (n := 5) (hp2.1 c5).2)
    have i7_x_2 : iv_R 0 1000 x_2 := ((i_x_2.cutLo (n := 0) (hp2.2 c5).1).cutHi (n := 1000) (hp2.2 c5).2)
    refine lv_iload_n hx hb dX12_set_12 rfl (lv_at hl 1 rfl) ?_
    refine lv_iconst (v := 3) hx hb dX12_set_13 (by decide) ?_
    refine lv_icmp_ge (tgt := 48) hx hb dX12_set_14 (by decide) (fun c9 => ?_) (fun c9 => ?_)
    · skip
      have i9_x_0 : iv_R 3 5 x_0 := (i6_x_0.cutLo (n := 3) (iv_le_l c9 q_3))
      have i10_x_1 : iv_R 0 9 x_1 := ((i_x_1.cutLo (n := 0) ((ip3 c5) (Int.le_trans (by decide) i9_x_0.1)).1).cutHi (n := 9) ((ip3 c5) (Int.le_trans (by decide) i9_x_0.1)).2)
      refine lv_aload_n hx hb dX12_set_48 rfl (lv_at hl 0 rfl) ?_
      refine lv_iload_n hx hb dX12_set_49 rfl (lv_at hl 2 rfl) ?_
      refine lv_iload_n hx hb dX12_set_50 rfl (lv_at hl 1 rfl) ?_
      refine lv_iconst (v := 3) hx hb dX12_set_51 (by decide) ?_
      refine lv_icmp_ne (tgt := 59) hx hb dX12_set_52 (by decide) (fun c12 => ?_) (fun c12 => ?_)
      · skip
        have i12_x_0 : iv_R 4 5 x_0 := iv_ne_lo c12 i9_x_0 q_3 (by decide)
        refine lv_iload_n hx hb dX12_set_59 rfl (lv_at hl 1 rfl) ?_
        refine lv_iconst (v := 4) hx hb dX12_set_60 (by decide) ?_
        refine lv_icmp_ne (tgt := 68) hx hb dX12_set_61 (by decide) (fun c14 => ?_) (fun c14 => ?_)
        · skip
          have i14_x_0 : iv_R 5 5 x_0 := iv_ne_lo c14 i12_x_0 q_4 (by decide)
          have i15_x_2 : iv_R 0 47 x_2 := (i7_x_2.cutHi (n := 47) ((ip4 c5) (Int.le_trans (by decide) i14_x_0.1)).2)
          refine lv_iconst (v := 1) hx hb dX12_set_68 (by decide) ?_
          refine lv_iload_n hx hb dX12_set_69 rfl (lv_at hl 3 rfl) ?_
          refine iv_cVv X k_good k_mf_X12_bells k_im_X12_bells k_sel_X12_bells k_ml_X12_72 ft_X12 hB a_h0 sh_12 (As := [.int x_1, .int 1, .int x_2]) (c_X12_bells l D tys base G h0 g_h0 r_h0 a_h0 x_1 i10_x_1 1 (q_1.wk (by decide)) x_2 (i15_x_2.wk (by decide)) (fun h => absurd h (by decide)) (fun _ => i15_x_2)) ⟨rfl, rfl⟩ ⟨Nat.le_of_ble_eq_true rfl, Nat.le_of_ble_eq_true rfl⟩ ⟨Nat.le_of_ble_eq_true rfl, Nat.le_of_ble_eq_true rfl⟩ rfl rfl hl.1 (Nat.le_of_ble_eq_true rfl) dX12_set_70 (fun G9 H locs hq hB => ?_)
          have hm := hq
          obtain ⟨G17, hG9⟩ : ∃ g, g = G9 := ⟨_, rfl⟩
          rw [← hG9] at hm hB
          have hM := hM.stp hm (by decide)
          have a_h0 := hm.at a_h0 (by decide)
          refine lv_aload_n hx hb dX12_set_73 rfl (lv_at hl 0 rfl) ?_
          refine iv_cVv X k_good k_mf_X12_forgets k_im_X12_forgets k_sel_X12_forgets k_ml_X12_63 ft_X12 hB a_h0 sh_12 (As := []) (c_X12_forgets l D tys base G17 h0 g_h0 r_h0 a_h0) ⟨rfl, rfl⟩ ⟨Nat.le_of_ble_eq_true rfl, Nat.le_of_ble_eq_true rfl⟩ ⟨Nat.le_of_ble_eq_true rfl, Nat.le_of_ble_eq_true rfl⟩ rfl rfl hl.1 (Nat.le_of_ble_eq_true rfl) dX12_set_74 (fun G9 H locs hq hB => ?_)
          have hm := hq
          obtain ⟨G18, hG9⟩ : ∃ g, g = G9 := ⟨_, rfl⟩
          rw [← hG9] at hm hB
          have hM := hM.stp hm (by decide)
          obtain ⟨g19, r20, a_h0, f_g19⟩ := hm.ex a_h0
          refine lv_iconst (v := 1) hx hb dX12_set_77 (by decide) ?_
          exact iv_zret X hr hlocks hB (q_1.wk (by decide)) ⟨hM, (q_1.wk (by decide)), ⟨fun _ => (i14_x_0.wk (by decide)), fun _ => (i15_x_2.wk (by decide))⟩⟩ dX12_set_78
        · skip
          have i20_x_0 : iv_R 4 4 x_0 := (i12_x_0.cutHi (n := 4) (iv_eq_r c14 q_4).2)
          refine lv_iconst (v := 4) hx hb dX12_set_64 (by decide) ?_
          refine lv_goto (tgt := 69) hx hb dX12_set_65 (by decide) ?_
          refine lv_iload_n hx hb dX12_set_69 rfl (lv_at hl 3 rfl) ?_
          refine iv_cVv X k_good k_mf_X12_bells k_im_X12_bells k_sel_X12_bells k_ml_X12_72 ft_X12 hB a_h0 sh_12 (As := [.int x_1, .int 4, .int x_2]) (c_X12_bells l D tys base G h0 g_h0 r_h0 a_h0 x_1 i10_x_1 4 (q_4.wk (by decide)) x_2 (i7_x_2.wk (by decide)) (fun h => absurd h (by decide)) (fun h => absurd h (by decide))) ⟨rfl, rfl⟩ ⟨Nat.le_of_ble_eq_true rfl, Nat.le_of_ble_eq_true rfl⟩ ⟨Nat.le_of_ble_eq_true rfl, Nat.le_of_ble_eq_true rfl⟩ rfl rfl hl.1 (Nat.le_of_ble_eq_true rfl) dX12_set_70 (fun G9 H locs hq hB => ?_)
          have hm := hq
          obtain ⟨G22, hG9⟩ : ∃ g, g = G9 := ⟨_, rfl⟩
          rw [← hG9] at hm hB
          have hM := hM.stp hm (by decide)
          have a_h0 := hm.at a_h0 (by decide)
          refine lv_aload_n hx hb dX12_set_73 rfl (lv_at hl 0 rfl) ?_
          refine iv_cVv X k_good k_mf_X12_forgets k_im_X12_forgets k_sel_X12_forgets k_ml_X12_63 ft_X12 hB a_h0 sh_12 (As := []) (c_X12_forgets l D tys base G22 h0 g_h0 r_h0 a_h0) ⟨rfl, rfl⟩ ⟨Nat.le_of_ble_eq_true rfl, Nat.le_of_ble_eq_true rfl⟩ ⟨Nat.le_of_ble_eq_true rfl, Nat.le_of_ble_eq_true rfl⟩ rfl rfl hl.1 (Nat.le_of_ble_eq_true rfl) dX12_set_74 (fun G9 H locs hq hB => ?_)
          have hm := hq
          obtain ⟨G23, hG9⟩ : ∃ g, g = G9 := ⟨_, rfl⟩
          rw [← hG9] at hm hB
          have hM := hM.stp hm (by decide)
          obtain ⟨g24, r25, a_h0, f_g24⟩ := hm.ex a_h0
          refine lv_iconst (v := 1) hx hb dX12_set_77 (by decide) ?_
          exact iv_zret X hr hlocks hB (q_1.wk (by decide)) ⟨hM, (q_1.wk (by decide)), ⟨fun _ => (i20_x_0.wk (by decide)), fun _ => i7_x_2⟩⟩ dX12_set_78
      · skip
        have i25_x_0 : iv_R 3 3 x_0 := (i9_x_0.cutHi (n := 3) (iv_eq_r c12 q_3).2)
        refine lv_iconst (v := 3) hx hb dX12_set_55 (by decide) ?_
        refine lv_goto (tgt := 69) hx hb dX12_set_56 (by decide) ?_
        refine lv_iload_n hx hb dX12_set_69 rfl (lv_at hl 3 rfl) ?_
        refine iv_cVv X k_good k_mf_X12_bells k_im_X12_bells k_sel_X12_bells k_ml_X12_72 ft_X12 hB a_h0 sh_12 (As := [.int x_1, .int 3, .int x_2]) (c_X12_bells l D tys base G h0 g_h0 r_h0 a_h0 x_1 i10_x_1 3 (q_3.wk (by decide)) x_2 (i7_x_2.wk (by decide)) (fun h => absurd h (by decide)) (fun h => absurd h (by decide))) ⟨rfl, rfl⟩ ⟨Nat.le_of_ble_eq_true rfl, Nat.le_of_ble_eq_true rfl⟩ ⟨Nat.le_of_ble_eq_true rfl, Nat.le_of_ble_eq_true rfl⟩ rfl rfl hl.1 (Nat.le_of_ble_eq_true rfl) dX12_set_70 (fun G9 H locs hq hB => ?_)
        have hm := hq
        obtain ⟨G27, hG9⟩ : ∃ g, g = G9 := ⟨_, rfl⟩
        rw [← hG9] at hm hB
        have hM := hM.stp hm (by decide)
        have a_h0 := hm.at a_h0 (by decide)
        refine lv_aload_n hx hb dX12_set_73 rfl (lv_at hl 0 rfl) ?_
        refine iv_cVv X k_good k_mf_X12_forgets k_im_X12_forgets k_sel_X12_forgets k_ml_X12_63 ft_X12 hB a_h0 sh_12 (As := []) (c_X12_forgets l D tys base G27 h0 g_h0 r_h0 a_h0) ⟨rfl, rfl⟩ ⟨Nat.le_of_ble_eq_true rfl, Nat.le_of_ble_eq_true rfl⟩ ⟨Nat.le_of_ble_eq_true rfl, Nat.le_of_ble_eq_true rfl⟩ rfl rfl hl.1 (Nat.le_of_ble_eq_true rfl) dX12_set_74 (fun G9 H locs hq hB => ?_)
        have hm := hq
        obtain ⟨G28, hG9⟩ : ∃ g, g = G9 := ⟨_, rfl⟩
        rw [← hG9] at hm hB
        have hM := hM.stp hm (by decide)
        obtain ⟨g29, r30, a_h0, f_g29⟩ := hm.ex a_h0
        refine lv_iconst (v := 1) hx hb dX12_set_77 (by decide) ?_
        exact iv_zret X hr hlocks hB (q_1.wk (by decide)) ⟨hM, (q_1.wk (by decide)), ⟨fun _ => (i25_x_0.wk (by decide)), fun _ => i7_x_2⟩⟩ dX12_set_78
    · skip
      have i30_x_0 : iv_R 0 2 x_0 := (i6_x_0.cutHi (n := 2) (iv_lt_r (iv_nle c9) q_3 (by decide)))
      refine lv_aload_n hx hb dX12_set_17 rfl (lv_at hl 0 rfl) ?_
      refine iv_getr X ft_X12 hB a_h0 sh_12 0 (by decide) rfl k_fl_X12_7 dX12_set_18 (fun b32 g_b32 r_b32 e_b32 a_b32 => ?_)
      refine lv_iload_n hx hb dX12_set_21 rfl (lv_at hl 1 rfl) ?_
      refine lv_if_ne (tgt := 31) hx hb dX12_set_22 (by decide) (fun c33 => ?_) (fun c33 => ?_)
      · skip
        have i33_x_0 : iv_R 1 2 x_0 := iv_ne_lo c33 i30_x_0 q_0 (by decide)
        refine lv_iload_n hx hb dX12_set_31 rfl (lv_at hl 1 rfl) ?_
        refine lv_iconst (v := 1) hx hb dX12_set_32 (by decide) ?_
        refine lv_icmp_ne (tgt := 40) hx hb dX12_set_33 (by decide) (fun c35 => ?_) (fun c35 => ?_)
        · skip
          have i35_x_0 : iv_R 2 2 x_0 := iv_ne_lo c35 i33_x_0 q_1 (by decide)
          refine lv_sipush (v := 148) hx hb dX12_set_40 (by decide) ?_
          refine lv_iload_n hx hb dX12_set_43 rfl (lv_at hl 3 rfl) ?_
          refine iv_wast_c X hB a_b32 q_148 (by decide) (lo := (-2147483648)) (hi' := 2147483647) (by decide) (i7_x_2.wk (by decide)) dX12_set_44 (fun H locs hB => ?_)
          have hB : iv_B iv_sh D classes tys base (iv_up G b32 (60, upd g_b32 148 x_2, r_b32)) s.heap H locs := hB
          have hm := iv_Md.put (x := x_2) a_b32 (j := 148) (by decide) (fun h => absurd h (by decide))
          have h9 := iv_up_eq (G := G) (a := b32) (k := (60, upd g_b32 148 x_2, r_b32))
          generalize iv_up G b32 _ = G37 at hB hm h9
          have hM := hM.stp hm (by decide)
          generalize hgn_g38 : upd g_b32 _ _ = g38 at h9
          have a_h0 := hm.at a_h0 (by decide)
          have a_b32 := h9
          have e39 : x_2 = g38 148 := by rw [← hgn_g38]; simp [upd]
          refine lv_goto (tgt := 73) hx hb dX12_set_45 (by decide) ?_
          refine lv_aload_n hx hb dX12_set_73 rfl (lv_at hl 0 rfl) ?_
          refine iv_cVv X k_good k_mf_X12_forgets k_im_X12_forgets k_sel_X12_forgets k_ml_X12_63 ft_X12 hB a_h0 sh_12 (As := []) (c_X12_forgets l D tys base G37 h0 g_h0 r_h0 a_h0) ⟨rfl, rfl⟩ ⟨Nat.le_of_ble_eq_true rfl, Nat.le_of_ble_eq_true rfl⟩ ⟨Nat.le_of_ble_eq_true rfl, Nat.le_of_ble_eq_true rfl⟩ rfl rfl hl.1 (Nat.le_of_ble_eq_true rfl) dX12_set_74 (fun G9 H locs hq hB => ?_)
          have hm := hq
          obtain ⟨G40, hG9⟩ : ∃ g, g = G9 := ⟨_, rfl⟩
          rw [← hG9] at hm hB
          have hM := hM.stp hm (by decide)
          obtain ⟨g41, r42, a_h0, f_g41⟩ := hm.ex a_h0
          have e43 : b32 = r42 0 := e_b32.trans (f_g41.1 0 (fun h => absurd (show (12 : Nat) = 5 from h) (by decide))).symm
          have a_b32 := hm.at a_b32 (by decide)
          refine lv_iconst (v := 1) hx hb dX12_set_77 (by decide) ?_
          exact iv_zret X hr hlocks hB (q_1.wk (by decide)) ⟨hM, (q_1.wk (by decide)), ⟨fun _ => (i35_x_0.wk (by decide)), fun _ => i7_x_2⟩⟩ dX12_set_78
        · skip
          have i43_x_0 : iv_R 1 1 x_0 := (i33_x_0.cutHi (n := 1) (iv_eq_r c35 q_1).2)
          refine lv_iconst (v := 1) hx hb dX12_set_36 (by decide) ?_
          refine lv_goto (tgt := 43) hx hb dX12_set_37 (by decide) ?_
          refine lv_iload_n hx hb dX12_set_43 rfl (lv_at hl 3 rfl) ?_
          refine iv_wast_c X hB a_b32 q_1 (by decide) (lo := (-2147483648)) (hi' := 2147483647) (by decide) (i7_x_2.wk (by decide)) dX12_set_44 (fun H locs hB => ?_)
          have hB : iv_B iv_sh D classes tys base (iv_up G b32 (60, upd g_b32 1 x_2, r_b32)) s.heap H locs := hB
          have hm := iv_Md.put (x := x_2) a_b32 (j := 1) (by decide) (fun h => absurd h (by decide))
          have h9 := iv_up_eq (G := G) (a := b32) (k := (60, upd g_b32 1 x_2, r_b32))
          generalize iv_up G b32 _ = G45 at hB hm h9
          have hM := hM.stp hm (by decide)
          generalize hgn_g46 : upd g_b32 _ _ = g46 at h9
          have a_h0 := hm.at a_h0 (by decide)
          have a_b32 := h9
          have e47 : x_2 = g46 1 := by rw [← hgn_g46]; simp [upd]
          refine lv_goto (tgt := 73) hx hb dX12_set_45 (by decide) ?_
          refine lv_aload_n hx hb dX12_set_73 rfl (lv_at hl 0 rfl) ?_
          refine iv_cVv X k_good k_mf_X12_forgets k_im_X12_forgets k_sel_X12_forgets k_ml_X12_63 ft_X12 hB a_h0 sh_12 (As := []) (c_X12_forgets l D tys base G45 h0 g_h0 r_h0 a_h0) ⟨rfl, rfl⟩ ⟨Nat.le_of_ble_eq_true rfl, Nat.le_of_ble_eq_true rfl⟩ ⟨Nat.le_of_ble_eq_true rfl, Nat.le_of_ble_eq_true rfl⟩ rfl rfl hl.1 (Nat.le_of_ble_eq_true rfl) dX12_set_74 (fun G9 H locs hq hB => ?_)
          have hm := hq
          obtain ⟨G48, hG9⟩ : ∃ g, g = G9 := ⟨_, rfl⟩
          rw [← hG9] at hm hB
          have hM := hM.stp hm (by decide)
          obtain ⟨g49, r50, a_h0, f_g49⟩ := hm.ex a_h0
          have e51 : b32 = r50 0 := e_b32.trans (f_g49.1 0 (fun h => absurd (show (12 : Nat) = 5 from h) (by decide))).symm
          have a_b32 := hm.at a_b32 (by decide)
          refine lv_iconst (v := 1) hx hb dX12_set_77 (by decide) ?_
          exact iv_zret X hr hlocks hB (q_1.wk (by decide)) ⟨hM, (q_1.wk (by decide)), ⟨fun _ => (i43_x_0.wk (by decide)), fun _ => i7_x_2⟩⟩ dX12_set_78
      · skip
        have i51_x_0 : iv_R 0 0 x_0 := (i30_x_0.cutHi (n := 0) (iv_eq_r c33 q_0).2)
        refine lv_sipush (v := 147) hx hb dX12_set_25 (by decide) ?_
        refine lv_goto (tgt := 43) hx hb dX12_set_28 (by decide) ?_
        refine lv_iload_n hx hb dX12_set_43 rfl (lv_at hl 3 rfl) ?_
        refine iv_wast_c X hB a_b32 q_147 (by decide) (lo := (-2147483648)) (hi' := 2147483647) (by decide) (i7_x_2.wk (by decide)) dX12_set_44 (fun H locs hB => ?_)
        have hB : iv_B iv_sh D classes tys base (iv_up G b32 (60, upd g_b32 147 x_2, r_b32)) s.heap H locs := hB
        have hm := iv_Md.put (x := x_2) a_b32 (j := 147) (by decide) (fun h => absurd h (by decide))
        have h9 := iv_up_eq (G := G) (a := b32) (k := (60, upd g_b32 147 x_2, r_b32))
        generalize iv_up G b32 _ = G53 at hB hm h9
        have hM := hM.stp hm (by decide)
        generalize hgn_g54 : upd g_b32 _ _ = g54 at h9
        have a_h0 := hm.at a_h0 (by decide)
        have a_b32 := h9
        have e55 : x_2 = g54 147 := by rw [← hgn_g54]; simp [upd]
        refine lv_goto (tgt := 73) hx hb dX12_set_45 (by decide) ?_
        refine lv_aload_n hx hb dX12_set_73 rfl (lv_at hl 0 rfl) ?_
        refine iv_cVv X k_good k_mf_X12_forgets k_im_X12_forgets k_sel_X12_forgets k_ml_X12_63 ft_X12 hB a_h0 sh_12 (As := []) (c_X12_forgets l D tys base G53 h0 g_h0 r_h0 a_h0) ⟨rfl, rfl⟩ ⟨Nat.le_of_ble_eq_true rfl, Nat.le_of_ble_eq_true rfl⟩ ⟨Nat.le_of_ble_eq_true rfl, Nat.le_of_ble_eq_true rfl⟩ rfl rfl hl.1 (Nat.le_of_ble_eq_true rfl) dX12_set_74 (fun G9 H locs hq hB => ?_)
        have hm := hq
        obtain ⟨G56, hG9⟩ : ∃ g, g = G9 := ⟨_, rfl⟩
        rw [← hG9] at hm hB
        have hM := hM.stp hm (by decide)
        obtain ⟨g57, r58, a_h0, f_g57⟩ := hm.ex a_h0
        have e59 : b32 = r58 0 := e_b32.trans (f_g57.1 0 (fun h => absurd (show (12 : Nat) = 5 from h) (by decide))).symm
        have a_b32 := hm.at a_b32 (by decide)
        refine lv_iconst (v := 1) hx hb dX12_set_77 (by decide) ?_
        exact iv_zret X hr hlocks hB (q_1.wk (by decide)) ⟨hM, (q_1.wk (by decide)), ⟨fun _ => (i51_x_0.wk (by decide)), fun _ => i7_x_2⟩⟩ dX12_set_78
  · skip
    have i59_x1 : iv_R 0 0 x1 := (i_x1.cutHi (n := 0) (iv_eq_r c5 q_0).2)
    refine lv_iconst (v := 0) hx hb dX12_set_10 (by decide) ?_
    exact iv_zret X hr hlocks hB (q_0.wk (by decide)) ⟨hM, (q_0.wk (by decide)), ⟨fun h => absurd (iv_z q_0) h, fun h => absurd (iv_z q_0) h⟩⟩ dX12_set_11
theorem dX12_siblings_0 : decode cX12_siblings 0 = .ok (.iload_n 1, 1) := by decide +kernel
theorem dX12_siblings_1 : decode cX12_siblings 1 = .ok (.iconst 1, 1) := by decide +kernel
theorem dX12_siblings_2 : decode cX12_siblings 2 = .ok (.bipush 24, 2) := by decide +kernel
theorem dX12_siblings_4 : decode cX12_siblings 4 = .ok (.invokestatic 56, 3) := by decide +kernel
theorem dX12_siblings_7 : decode cX12_siblings 7 = .ok (.ifCond .eq 12, 3) := by decide +kernel
theorem dX12_siblings_10 : decode cX12_siblings 10 = .ok (.iload_n 2, 1) := by decide +kernel
theorem dX12_siblings_11 : decode cX12_siblings 11 = .ok (.iconst 0, 1) := by decide +kernel
theorem dX12_siblings_12 : decode cX12_siblings 12 = .ok (.iconst 1, 1) := by decide +kernel
theorem dX12_siblings_13 : decode cX12_siblings 13 = .ok (.invokestatic 56, 3) := by decide +kernel
theorem dX12_siblings_16 : decode cX12_siblings 16 = .ok (.ifCond .ne 5, 3) := by decide +kernel
theorem dX12_siblings_19 : decode cX12_siblings 19 = .ok (.iconst (-1), 1) := by decide +kernel
theorem dX12_siblings_20 : decode cX12_siblings 20 = .ok (.ireturn, 1) := by decide +kernel
theorem dX12_siblings_21 : decode cX12_siblings 21 = .ok (.iconst 0, 1) := by decide +kernel
theorem dX12_siblings_22 : decode cX12_siblings 22 = .ok (.istore_n 3, 1) := by decide +kernel
theorem dX12_siblings_23 : decode cX12_siblings 23 = .ok (.iconst (-1), 1) := by decide +kernel
theorem dX12_siblings_24 : decode cX12_siblings 24 = .ok (.istore 4, 2) := by decide +kernel
theorem dX12_siblings_26 : decode cX12_siblings 26 = .ok (.iconst 0, 1) := by decide +kernel
theorem dX12_siblings_27 : decode cX12_siblings 27 = .ok (.istore 5, 2) := by decide +kernel
theorem dX12_siblings_29 : decode cX12_siblings 29 = .ok (.iload 5, 2) := by decide +kernel
theorem dX12_siblings_31 : decode cX12_siblings 31 = .ok (.bipush 47, 2) := by decide +kernel
theorem dX12_siblings_33 : decode cX12_siblings 33 = .ok (.if_icmp .gt 48, 3) := by decide +kernel
theorem dX12_siblings_36 : decode cX12_siblings 36 = .ok (.iconst 0, 1) := by decide +kernel
theorem dX12_siblings_37 : decode cX12_siblings 37 = .ok (.istore 6, 2) := by decide +kernel
theorem dX12_siblings_39 : decode cX12_siblings 39 = .ok (.aload_n 0, 1) := by decide +kernel
theorem dX12_siblings_40 : decode cX12_siblings 40 = .ok (.iload 5, 2) := by decide +kernel
theorem dX12_siblings_42 : decode cX12_siblings 42 = .ok (.iload 6, 2) := by decide +kernel
theorem dX12_siblings_44 : decode cX12_siblings 44 = .ok (.iload_n 1, 1) := by decide +kernel
theorem dX12_siblings_45 : decode cX12_siblings 45 = .ok (.imul, 1) := by decide +kernel
theorem dX12_siblings_46 : decode cX12_siblings 46 = .ok (.iadd, 1) := by decide +kernel
theorem dX12_siblings_47 : decode cX12_siblings 47 = .ok (.invokevirtual 414, 3) := by decide +kernel
theorem dX12_siblings_50 : decode cX12_siblings 50 = .ok (.ifCond .eq 9, 3) := by decide +kernel
theorem dX12_siblings_53 : decode cX12_siblings 53 = .ok (.iinc 6 1, 3) := by decide +kernel
theorem dX12_siblings_56 : decode cX12_siblings 56 = .ok (.goto (-17), 3) := by decide +kernel
theorem dX12_siblings_59 : decode cX12_siblings 59 = .ok (.iload 6, 2) := by decide +kernel
theorem dX12_siblings_61 : decode cX12_siblings 61 = .ok (.iload_n 3, 1) := by decide +kernel
theorem dX12_siblings_62 : decode cX12_siblings 62 = .ok (.if_icmp .gt 6, 3) := by decide +kernel
theorem dX12_siblings_65 : decode cX12_siblings 65 = .ok (.goto 10, 3) := by decide +kernel
theorem dX12_siblings_68 : decode cX12_siblings 68 = .ok (.iload 6, 2) := by decide +kernel
theorem dX12_siblings_70 : decode cX12_siblings 70 = .ok (.istore_n 3, 1) := by decide +kernel
theorem dX12_siblings_71 : decode cX12_siblings 71 = .ok (.iload 5, 2) := by decide +kernel
theorem dX12_siblings_73 : decode cX12_siblings 73 = .ok (.istore 4, 2) := by decide +kernel
theorem dX12_siblings_75 : decode cX12_siblings 75 = .ok (.iinc 5 1, 3) := by decide +kernel
theorem dX12_siblings_78 : decode cX12_siblings 78 = .ok (.goto (-49), 3) := by decide +kernel
theorem dX12_siblings_81 : decode cX12_siblings 81 = .ok (.iload_n 2, 1) := by decide +kernel
theorem dX12_siblings_82 : decode cX12_siblings 82 = .ok (.ifCond .ne 7, 3) := by decide +kernel
theorem dX12_siblings_85 : decode cX12_siblings 85 = .ok (.iload_n 3, 1) := by decide +kernel
theorem dX12_siblings_86 : decode cX12_siblings 86 = .ok (.goto 5, 3) := by decide +kernel
theorem dX12_siblings_89 : decode cX12_siblings 89 = .ok (.iload 4, 2) := by decide +kernel
theorem dX12_siblings_91 : decode cX12_siblings 91 = .ok (.ireturn, 1) := by decide +kernel
set_option maxHeartbeats 4000000 in
set_option maxRecDepth 100000 in
theorem c_X12_siblings (l : Launch) (D : va_G) (tys : List (ClassId × FieldType)) (base : Nat) (G : iv_G) (h0 : Nat) (g_h0 : Nat → Int32) (r_h0 : Nat → Nat) (a_h0 : G h0 = some (12, g_h0, r_h0)) (x_0 : Int32) (i_x_0 : iv_R (-2147483648) 2147483647 x_0) (x_1 : Int32) (i_x_1 : iv_R (-2147483648) 2147483647 x_1) : Met l yX12_siblings (Cond.code yX12_siblings cX12_siblings 7 (some .int) :: iv_W0) ({ frames := 2, cells := 0, slots := 0, locals := 44 }) (iv_Pc iv_sh D classes tys base G [.ref h0, .int x_0, .int x_1]) (iv_Qi iv_sh D classes tys base (fun v G' => G = G' ∧ iv_R (-1) 48 v)) 0 0 (iv_A base) := by
  refine iv_head (by decide) (Nat.le_of_ble_eq_true rfl) ?_
  intro p e s m args below meth c ls X hr hlocks hname hB hl
  have X := X
  have hx := X.1.1
  have hb := X.1.2.1
  have hl : lv_has ls 7 [(0, .ref h0), (1, .int x_0), (2, .int x_1)] := hl
  refine lv_iload_n hx hb dX12_siblings_0 rfl (lv_at hl 1 rfl) ?_
  refine lv_iconst (v := 1) hx hb dX12_siblings_1 (by decide) ?_
  refine lv_bipush (v := 24) hx hb dX12_siblings_2 (by decide) ?_
  refine iv_cSi X k_good k_mf_X12_isIn k_st_X12_isIn k_ml_X12_56 hB (As := [.int x_0, .int 1, .int 24]) (c_X12_isIn l D tys base G x_0 i_x_0 1 (q_1.wk (by decide)) 24 (q_24.wk (by decide))) ⟨rfl, rfl⟩ ⟨Nat.le_of_ble_eq_true rfl, Nat.le_of_ble_eq_true rfl⟩ ⟨Nat.le_of_ble_eq_true rfl, Nat.le_of_ble_eq_true rfl⟩ rfl rfl hl.1 (Nat.le_of_ble_eq_true rfl) dX12_siblings_4 (fun x1 G9 H locs hq hB => ?_)
  obtain ⟨rfl, i_x1, hp2⟩ := hq
  have k3 : ¬ x1 = 0 → iv_R 1 24 x_0 := fun h => ⟨iv_max i_x_0.1 (Int.le_trans q_1.1 (hp2.1 h).1) (by decide), iv_min i_x_0.2 (Int.le_trans (hp2.1 h).2 q_24.2) (by decide)⟩
  refine lv_if_eq (tgt := 19) hx hb dX12_siblings_7 (by decide) (fun c4 => ?_) (fun c4 => ?_)
  · skip
    have i4_x1 : iv_R 0 0 x1 := (i_x1.cutHi (n := 0) (iv_eq_r c4 q_0).2)
    refine lv_iconst (v := (-1)) hx hb dX12_siblings_19 (by decide) ?_
    exact iv_iret X hr hlocks hB ⟨rfl, (q_n1.wk (by decide))⟩ dX12_siblings_20
  · skip
    have i5_x1 : iv_R 1 1 x1 := iv_ne_lo c4 i_x1 q_0 (by decide)
    have i6_x_0 : iv_R 1 24 x_0 := ((i_x_0.cutLo (n := 1) (k3 c4).1).cutHi (n := 24) (k3 c4).2)
    refine lv_iload_n hx hb dX12_siblings_10 rfl (lv_at hl 2 rfl) ?_
    refine lv_iconst (v := 0) hx hb dX12_siblings_11 (by decide) ?_
    refine lv_iconst (v := 1) hx hb dX12_siblings_12 (by decide) ?_
    refine iv_cSi X k_good k_mf_X12_isIn k_st_X12_isIn k_ml_X12_56 hB (As := [.int x_1, .int 0, .int 1]) (c_X12_isIn l D tys base G x_1 i_x_1 0 (q_0.wk (by decide)) 1 (q_1.wk (by decide))) ⟨rfl, rfl⟩ ⟨Nat.le_of_ble_eq_true rfl, Nat.le_of_ble_eq_true rfl⟩ ⟨Nat.le_of_ble_eq_true rfl, Nat.le_of_ble_eq_true rfl⟩ rfl rfl hl.1 (Nat.le_of_ble_eq_true rfl) dX12_siblings_13 (fun x8 G9 H locs hq hB => ?_)
    obtain ⟨rfl, i_x8, hp9⟩ := hq
    have k10 : ¬ x8 = 0 → iv_R 0 1 x_1 := fun h => ⟨iv_max i_x_1.1 (Int.le_trans q_0.1 (hp9.1 h).1) (by decide), iv_min i_x_1.2 (Int.le_trans (hp9.1 h).2 q_1.2) (by decide)⟩
    refine lv_if_ne (tgt := 21) hx hb dX12_siblings_16 (by decide) (fun c11 => ?_) (fun c11 => ?_)
    · skip
      have i11_x8 : iv_R 1 1 x8 := iv_ne_lo c11 i_x8 q_0 (by decide)
      have i12_x_1 : iv_R 0 1 x_1 := ((i_x_1.cutLo (n := 0) (k10 c11).1).cutHi (n := 1) (k10 c11).2)
      refine lv_iconst (v := 0) hx hb dX12_siblings_21 (by decide) ?_
      refine lv_istore_n (lv' := [(3, .int 0), (0, .ref h0), (1, .int x_0), (2, .int x_1)]) hx hb dX12_siblings_22 rfl hl (by decide) rfl (fun ls hl => ?_)
      refine lv_iconst (v := (-1)) hx hb dX12_siblings_23 (by decide) ?_
      refine lv_istore (lv' := [(4, .int (-1)), (3, .int 0), (0, .ref h0), (1, .int x_0), (2, .int x_1)]) hx hb dX12_siblings_24 hl (by decide) rfl (fun ls hl => ?_)
      refine lv_iconst (v := 0) hx hb dX12_siblings_26 (by decide) ?_
      refine lv_istore (lv' := [(5, .int 0), (4, .int (-1)), (3, .int 0), (0, .ref h0), (1, .int x_0), (2, .int x_1)]) hx hb dX12_siblings_27 hl (by decide) rfl (fun ls hl => ?_)
      have L_29 : ∀ (n_29 : Nat) (H : Heap) (locs : List Loc) (hB : iv_B iv_sh D classes tys base G s.heap H locs) (x14 : Int32) (i_x14 : iv_R 0 48 x14) (x15 : Int32) (i_x15 : iv_R (-1) 47 x15) (x16 : Int32) (i_x16 : iv_R 0 48 x16) (hn_29 : (49 - x16.toInt).toNat < n_29) (ls : Array Slot) (hl : lv_has ls 7 [(5, .int x16), (4, .int x15), (3, .int x14), (0, .ref h0), (1, .int x_0), (2, .int x_1)]), W p l e ({ frames := 2, cells := 0, slots := 0, locals := 44 } : Room) s m args below meth c H locs 0 0 (MQ below (iv_Qi iv_sh D classes tys base (fun v G' => G = G' ∧ iv_R (-1) 48 v)) args s 0 0 (iv_A base)) (F0 m 29 ls []) := by
        intro n_29
        induction n_29 with
        | zero => intro H locs hB x14 i_x14 x15 i_x15 x16 i_x16 hn_29 ls hl; exact absurd hn_29 (Nat.not_lt_zero _)
        | succ n_29 ih_29 =>
          intro H locs hB x14 i_x14 x15 i_x15 x16 i_x16 hn_29 ls hl
          refine lv_iload hx hb dX12_siblings_29 (lv_at hl 0 rfl) ?_
          refine lv_bipush (v := 47) hx hb dX12_siblings_31 (by decide) ?_
          refine lv_icmp_gt (tgt := 81) hx hb dX12_siblings_33 (by decide) (fun c17 => ?_) (fun c17 => ?_)
          · skip
            have i17_x16 : iv_R 48 48 x16 := (i_x16.cutLo (n := 48) (iv_lt_l c17 q_47 (by decide)))
            refine lv_iload_n hx hb dX12_siblings_81 rfl (lv_at hl 5 rfl) ?_
            refine lv_if_ne (tgt := 89) hx hb dX12_siblings_82 (by decide) (fun c19 => ?_) (fun c19 => ?_)
            · skip
              have i19_x_1 : iv_R 1 1 x_1 := iv_ne_lo c19 i12_x_1 q_0 (by decide)
              refine lv_iload hx hb dX12_siblings_89 (lv_at hl 1 rfl) ?_
              exact iv_iret X hr hlocks hB ⟨rfl, (i_x15.wk (by decide))⟩ dX12_siblings_91
            · skip
              have i20_x_1 : iv_R 0 0 x_1 := (i12_x_1.cutHi (n := 0) (iv_eq_r c19 q_0).2)
              refine lv_iload_n hx hb dX12_siblings_85 rfl (lv_at hl 2 rfl) ?_
              refine lv_goto (tgt := 91) hx hb dX12_siblings_86 (by decide) ?_
              exact iv_iret X hr hlocks hB ⟨rfl, (i_x14.wk (by decide))⟩ dX12_siblings_91
          · skip
            have i21_x16 : iv_R 0 47 x16 := (i_x16.cutHi (n := 47) (iv_le_r (iv_nlt c17) q_47))
            refine lv_iconst (v := 0) hx hb dX12_siblings_36 (by decide) ?_
            refine lv_istore (lv' := [(6, .int 0), (5, .int x16), (4, .int x15), (3, .int x14), (0, .ref h0), (1, .int x_0), (2, .int x_1)]) hx hb dX12_siblings_37 hl (by decide) rfl (fun ls hl => ?_)
            have L_39 : ∀ (n_39 : Nat) (H : Heap) (locs : List Loc) (hB : iv_B iv_sh D classes tys base G s.heap H locs) (x23 : Int32) (i_x23 : iv_R 0 48 x23) (hn_39 : (49 - x23.toInt).toNat < n_39) (ls : Array Slot) (hl : lv_has ls 7 [(6, .int x23), (5, .int x16), (4, .int x15), (3, .int x14), (0, .ref h0), (1, .int x_0), (2, .int x_1)]), W p l e ({ frames := 2, cells := 0, slots := 0, locals := 44 } : Room) s m args below meth c H locs 0 0 (MQ below (iv_Qi iv_sh D classes tys base (fun v G' => G = G' ∧ iv_R (-1) 48 v)) args s 0 0 (iv_A base)) (F0 m 39 ls []) := by
              intro n_39
              induction n_39 with
              | zero => intro H locs hB x23 i_x23 hn_39 ls hl; exact absurd hn_39 (Nat.not_lt_zero _)
              | succ n_39 ih_39 =>
                intro H locs hB x23 i_x23 hn_39 ls hl
                refine lv_aload_n hx hb dX12_siblings_39 rfl (lv_at hl 4 rfl) ?_
                refine lv_iload hx hb dX12_siblings_40 (lv_at hl 1 rfl) ?_
                refine lv_iload hx hb dX12_siblings_42 (lv_at hl 0 rfl) ?_
                refine lv_iload_n hx hb dX12_siblings_44 rfl (lv_at hl 5 rfl) ?_
                refine iv_imul hx hb i_x23 i6_x_0 (lo := 0) (hi := 1152) (by decide) dX12_siblings_45 (fun x24 e_x24 i_x24 => ?_)
                refine iv_iadd hx hb i21_x16 i_x24 (lo := 0) (hi := 1199) (by decide) dX12_siblings_46 (fun x25 e_x25 i_x25 => ?_)
                refine iv_cVi X k_good k_mf_X12_isPitched k_im_X12_isPitched k_sel_X12_isPitched k_ml_X12_414 ft_X12 hB a_h0 sh_12 (As := [.int x25]) (c_X12_isPitched l D tys base G h0 g_h0 r_h0 a_h0 x25 i_x25) ⟨rfl, rfl⟩ ⟨Nat.le_of_ble_eq_true rfl, Nat.le_of_ble_eq_true rfl⟩ ⟨Nat.le_of_ble_eq_true rfl, Nat.le_of_ble_eq_true rfl⟩ rfl rfl hl.1 (Nat.le_of_ble_eq_true rfl) dX12_siblings_47 (fun x26 G9 H locs hq hB => ?_)
                obtain ⟨rfl, i_x26, hp27⟩ := hq
                refine lv_if_eq (tgt := 59) hx hb dX12_siblings_50 (by decide) (fun c28 => ?_) (fun c28 => ?_)
                · skip
                  have i28_x26 : iv_R 0 0 x26 := (i_x26.cutHi (n := 0) (iv_eq_r c28 q_0).2)
                  refine lv_iload hx hb dX12_siblings_59 (lv_at hl 0 rfl) ?_
                  refine lv_iload_n hx hb dX12_siblings_61 rfl (lv_at hl 3 rfl) ?_
                  refine lv_icmp_gt (tgt := 68) hx hb dX12_siblings_62 (by decide) (fun c30 => ?_) (fun c30 => ?_)
                  · skip
                    have i30_x14 : iv_R 0 47 x14 := (i_x14.cutHi (n := 47) (iv_lt_r c30 i_x23 (by decide)))
                    have i31_x23 : iv_R 1 48 x23 := (i_x23.cutLo (n := 1) (iv_lt_l c30 i_x14 (by decide)))
                    refine lv_iload hx hb dX12_siblings_68 (lv_at hl 0 rfl) ?_
                    refine lv_istore_n (lv' := [(3, .int x23), (6, .int x23), (5, .int x16), (4, .int x15), (0, .ref h0), (1, .int x_0), (2, .int x_1)]) hx hb dX12_siblings_70 rfl hl (by decide) rfl (fun ls hl => ?_)
                    refine lv_iload hx hb dX12_siblings_71 (lv_at hl 2 rfl) ?_
                    refine lv_istore (lv' := [(4, .int x16), (3, .int x23), (6, .int x23), (5, .int x16), (0, .ref h0), (1, .int x_0), (2, .int x_1)]) hx hb dX12_siblings_73 hl (by decide) rfl (fun ls hl => ?_)
                    refine iv_iinc hx hb i21_x16 (lo := 1) (hi := 48) (by decide) dX12_siblings_75 hl (k := 3) rfl (by decide) (fun x33 ls e_x33 i_x33 hl => ?_)
                    have hl : lv_has ls 7 [(5, .int x33), (4, .int x16), (3, .int x23), (6, .int x23), (0, .ref h0), (1, .int x_0), (2, .int x_1)] := hl
                    refine lv_goto (tgt := 29) hx hb dX12_siblings_78 (by decide) ?_
                    exact ih_29 _ _ hB x23 (i31_x23.wk (by decide)) x16 (i21_x16.wk (by decide)) x33 (i_x33.wk (by decide)) (iv_mup (c := 1) i_x16 (by decide) (by decide) (by omega) hn_29) _ (lv_sub hl [0, 1, 2, 4, 5, 6] rfl)
                  · skip
                    refine lv_goto (tgt := 75) hx hb dX12_siblings_65 (by decide) ?_
                    refine iv_iinc hx hb i21_x16 (lo := 1) (hi := 48) (by decide) dX12_siblings_75 hl (k := 1) rfl (by decide) (fun x34 ls e_x34 i_x34 hl => ?_)
                    have hl : lv_has ls 7 [(5, .int x34), (6, .int x23), (4, .int x15), (3, .int x14), (0, .ref h0), (1, .int x_0), (2, .int x_1)] := hl
                    refine lv_goto (tgt := 29) hx hb dX12_siblings_78 (by decide) ?_
                    exact ih_29 _ _ hB x14 i_x14 x15 i_x15 x34 (i_x34.wk (by decide)) (iv_mup (c := 1) i_x16 (by decide) (by decide) (by omega) hn_29) _ (lv_sub hl [0, 2, 3, 4, 5, 6] rfl)
                · skip
                  have i34_x26 : iv_R 1 1 x26 := iv_ne_lo c28 i_x26 q_0 (by decide)
                  have i35_x25 : iv_R 0 47 x25 := (i_x25.cutHi (n := 47) (hp27 c28).2)
                  refine iv_iinc hx hb i_x23 (lo := 1) (hi := 49) (by decide) dX12_siblings_53 hl (k := 0) rfl (by decide) (fun x37 ls e_x37 i_x37 hl => ?_)
                  have hl : lv_has ls 7 [(6, .int x37), (5, .int x16), (4, .int x15), (3, .int x14), (0, .ref h0), (1, .int x_0), (2, .int x_1)] := hl
                  refine lv_goto (tgt := 39) hx hb dX12_siblings_56 (by decide) ?_
                  exact ih_39 _ _ hB x37 ⟨by have w3 := i_x23.1; omega, by have w1 := i35_x25.2; have w2 := i21_x16.1; have w3 := i_x23.1; have w4 := i6_x_0.1; have w5 : x23.toInt * 1 ≤ x23.toInt * x_0.toInt := Int.mul_le_mul_of_nonneg_left w4 w3; omega⟩ (iv_mup (c := 1) i_x23 (by decide) (by decide) (by omega) hn_39) _ (lv_sub hl [0, 1, 2, 3, 4, 5, 6] rfl)
            exact L_39 _ _ _ hB 0 (q_0.wk (by decide)) (Nat.lt_succ_self _) _ (lv_sub hl [0, 1, 2, 3, 4, 5, 6] rfl)
      exact L_29 _ _ _ hB 0 (q_0.wk (by decide)) (-1) (q_n1.wk (by decide)) 0 (q_0.wk (by decide)) (Nat.lt_succ_self _) _ (lv_sub hl [0, 1, 2, 3, 4, 5] rfl)
    · skip
      have i37_x8 : iv_R 0 0 x8 := (i_x8.cutHi (n := 0) (iv_eq_r c11 q_0).2)
      refine lv_iconst (v := (-1)) hx hb dX12_siblings_19 (by decide) ?_
      exact iv_iret X hr hlocks hB ⟨rfl, (q_n1.wk (by decide))⟩ dX12_siblings_20
theorem dX12_silentFrom_0 : decode cX12_silentFrom 0 = .ok (.iconst 0, 1) := by decide +kernel
theorem dX12_silentFrom_1 : decode cX12_silentFrom 1 = .ok (.istore_n 2, 1) := by decide +kernel
theorem dX12_silentFrom_2 : decode cX12_silentFrom 2 = .ok (.iload_n 2, 1) := by decide +kernel
theorem dX12_silentFrom_3 : decode cX12_silentFrom 3 = .ok (.bipush 24, 2) := by decide +kernel
theorem dX12_silentFrom_5 : decode cX12_silentFrom 5 = .ok (.if_icmp .ge 22, 3) := by decide +kernel
theorem dX12_silentFrom_8 : decode cX12_silentFrom 8 = .ok (.aload_n 0, 1) := by decide +kernel
theorem dX12_silentFrom_9 : decode cX12_silentFrom 9 = .ok (.iload_n 1, 1) := by decide +kernel
theorem dX12_silentFrom_10 : decode cX12_silentFrom 10 = .ok (.iload_n 2, 1) := by decide +kernel
theorem dX12_silentFrom_11 : decode cX12_silentFrom 11 = .ok (.iadd, 1) := by decide +kernel
theorem dX12_silentFrom_12 : decode cX12_silentFrom 12 = .ok (.bipush 24, 2) := by decide +kernel
theorem dX12_silentFrom_14 : decode cX12_silentFrom 14 = .ok (.irem, 1) := by decide +kernel
theorem dX12_silentFrom_15 : decode cX12_silentFrom 15 = .ok (.invokevirtual 374, 3) := by decide +kernel
theorem dX12_silentFrom_18 : decode cX12_silentFrom 18 = .ok (.ifCond .eq 9, 3) := by decide +kernel
theorem dX12_silentFrom_21 : decode cX12_silentFrom 21 = .ok (.iinc 2 1, 3) := by decide +kernel
theorem dX12_silentFrom_24 : decode cX12_silentFrom 24 = .ok (.goto (-22), 3) := by decide +kernel
theorem dX12_silentFrom_27 : decode cX12_silentFrom 27 = .ok (.iload_n 2, 1) := by decide +kernel
theorem dX12_silentFrom_28 : decode cX12_silentFrom 28 = .ok (.ireturn, 1) := by decide +kernel
set_option maxHeartbeats 4000000 in
set_option maxRecDepth 100000 in
theorem c_X12_silentFrom (l : Launch) (D : va_G) (tys : List (ClassId × FieldType)) (base : Nat) (G : iv_G) (h0 : Nat) (g_h0 : Nat → Int32) (r_h0 : Nat → Nat) (a_h0 : G h0 = some (12, g_h0, r_h0)) (x_0 : Int32) (i_x_0 : iv_R 0 23 x_0) : Met l yX12_silentFrom (Cond.code yX12_silentFrom cX12_silentFrom 3 (some .int) :: iv_W0) ({ frames := 4, cells := 0, slots := 0, locals := 89 }) (iv_Pc iv_sh D classes tys base G [.ref h0, .int x_0]) (iv_Qi iv_sh D classes tys base (fun v G' => G = G' ∧ iv_R 0 24 v)) 0 0 (iv_A base) := by
  refine iv_head (by decide) (Nat.le_of_ble_eq_true rfl) ?_
  intro p e s m args below meth c ls X hr hlocks hname hB hl
  have X := X
  have hx := X.1.1
  have hb := X.1.2.1
  have hl : lv_has ls 3 [(0, .ref h0), (1, .int x_0)] := hl
  refine lv_iconst (v := 0) hx hb dX12_silentFrom_0 (by decide) ?_
  refine lv_istore_n (lv' := [(2, .int 0), (0, .ref h0), (1, .int x_0)]) hx hb dX12_silentFrom_1 rfl hl (by decide) rfl (fun ls hl => ?_)
  have L_2 : ∀ (n_2 : Nat) (H : Heap) (locs : List Loc) (hB : iv_B iv_sh D classes tys base G s.heap H locs) (x1 : Int32) (i_x1 : iv_R 0 24 x1) (hn_2 : (25 - x1.toInt).toNat < n_2) (ls : Array Slot) (hl : lv_has ls 3 [(2, .int x1), (0, .ref h0), (1, .int x_0)]), W p l e ({ frames := 4, cells := 0, slots := 0, locals := 89 } : Room) s m args below meth c H locs 0 0 (MQ below (iv_Qi iv_sh D classes tys base (fun v G' => G = G' ∧ iv_R 0 24 v)) args s 0 0 (iv_A base)) (F0 m 2 ls []) := by
    intro n_2
    induction n_2 with
    | zero => intro H locs hB x1 i_x1 hn_2 ls hl; exact absurd hn_2 (Nat.not_lt_zero _)
    | succ n_2 ih_2 =>
      intro H locs hB x1 i_x1 hn_2 ls hl
      refine lv_iload_n hx hb dX12_silentFrom_2 rfl (lv_at hl 0 rfl) ?_
      refine lv_bipush (v := 24) hx hb dX12_silentFrom_3 (by decide) ?_
      refine lv_icmp_ge (tgt := 27) hx hb dX12_silentFrom_5 (by decide) (fun c2 => ?_) (fun c2 => ?_)
      · skip
        have i2_x1 : iv_R 24 24 x1 := (i_x1.cutLo (n := 24) (iv_le_l c2 q_24))
        refine lv_iload_n hx hb dX12_silentFrom_27 rfl (lv_at hl 0 rfl) ?_
        exact iv_iret X hr hlocks hB ⟨rfl, (i2_x1.wk (by decide))⟩ dX12_silentFrom_28
      · skip
        have i3_x1 : iv_R 0 23 x1 := (i_x1.cutHi (n := 23) (iv_lt_r (iv_nle c2) q_24 (by decide)))
        refine lv_aload_n hx hb dX12_silentFrom_8 rfl (lv_at hl 1 rfl) ?_
        refine lv_iload_n hx hb dX12_silentFrom_9 rfl (lv_at hl 2 rfl) ?_
        refine lv_iload_n hx hb dX12_silentFrom_10 rfl (lv_at hl 0 rfl) ?_
        refine iv_iadd hx hb i_x_0 i3_x1 (lo := 0) (hi := 46) (by decide) dX12_silentFrom_11 (fun x5 e_x5 i_x5 => ?_)
        refine lv_bipush (v := 24) hx hb dX12_silentFrom_12 (by decide) ?_
        refine iv_iremp hx hb i_x5 q_24 (lo := 0) (hi := 23) (by decide) dX12_silentFrom_14 (fun x6 e_x6 i_x6 => ?_)
        refine iv_cVi X k_good k_mf_X12_isSilent k_im_X12_isSilent k_sel_X12_isSilent k_ml_X12_374 ft_X12 hB a_h0 sh_12 (As := [.int x6]) (c_X12_isSilent l D tys base G h0 g_h0 r_h0 a_h0 x6 i_x6) ⟨rfl, rfl⟩ ⟨Nat.le_of_ble_eq_true rfl, Nat.le_of_ble_eq_true rfl⟩ ⟨Nat.le_of_ble_eq_true rfl, Nat.le_of_ble_eq_true rfl⟩ rfl rfl hl.1 (Nat.le_of_ble_eq_true rfl) dX12_silentFrom_15 (fun x7 G9 H locs hq hB => ?_)
        obtain ⟨rfl, i_x7⟩ := hq
        refine lv_if_eq (tgt := 27) hx hb dX12_silentFrom_18 (by decide) (fun c8 => ?_) (fun c8 => ?_)
        · skip
          have i8_x7 : iv_R 0 0 x7 := (i_x7.cutHi (n := 0) (iv_eq_r c8 q_0).2)
          refine lv_iload_n hx hb dX12_silentFrom_27 rfl (lv_at hl 0 rfl) ?_
          exact iv_iret X hr hlocks hB ⟨rfl, (i3_x1.wk (by decide))⟩ dX12_silentFrom_28
        · skip
          have i9_x7 : iv_R 1 1 x7 := iv_ne_lo c8 i_x7 q_0 (by decide)
          refine iv_iinc hx hb i3_x1 (lo := 1) (hi := 24) (by decide) dX12_silentFrom_21 hl (k := 0) rfl (by decide) (fun x11 ls e_x11 i_x11 hl => ?_)
          have hl : lv_has ls 3 [(2, .int x11), (0, .ref h0), (1, .int x_0)] := hl
          refine lv_goto (tgt := 2) hx hb dX12_silentFrom_24 (by decide) ?_
          exact ih_2 _ _ hB x11 (i_x11.wk (by decide)) (iv_mup (c := 1) i_x1 (by decide) (by decide) (by omega) hn_2) _ (lv_sub hl [0, 1, 2] rfl)
  exact L_2 _ _ _ hB 0 (q_0.wk (by decide)) (Nat.lt_succ_self _) _ (lv_sub hl [0, 1, 2] rfl)
theorem dX12_silence_0 : decode cX12_silence 0 = .ok (.iload_n 1, 1) := by decide +kernel
theorem dX12_silence_1 : decode cX12_silence 1 = .ok (.iconst 0, 1) := by decide +kernel
theorem dX12_silence_2 : decode cX12_silence 2 = .ok (.iconst 1, 1) := by decide +kernel
theorem dX12_silence_3 : decode cX12_silence 3 = .ok (.invokestatic 56, 3) := by decide +kernel
theorem dX12_silence_6 : decode cX12_silence 6 = .ok (.ifCond .ne 5, 3) := by decide +kernel
theorem dX12_silence_9 : decode cX12_silence 9 = .ok (.iconst (-1), 1) := by decide +kernel
theorem dX12_silence_10 : decode cX12_silence 10 = .ok (.ireturn, 1) := by decide +kernel
theorem dX12_silence_11 : decode cX12_silence 11 = .ok (.iconst 0, 1) := by decide +kernel
theorem dX12_silence_12 : decode cX12_silence 12 = .ok (.istore_n 2, 1) := by decide +kernel
theorem dX12_silence_13 : decode cX12_silence 13 = .ok (.iconst (-1), 1) := by decide +kernel
theorem dX12_silence_14 : decode cX12_silence 14 = .ok (.istore_n 3, 1) := by decide +kernel
theorem dX12_silence_15 : decode cX12_silence 15 = .ok (.iconst 0, 1) := by decide +kernel
theorem dX12_silence_16 : decode cX12_silence 16 = .ok (.istore 4, 2) := by decide +kernel
theorem dX12_silence_18 : decode cX12_silence 18 = .ok (.iload 4, 2) := by decide +kernel
theorem dX12_silence_20 : decode cX12_silence 20 = .ok (.bipush 24, 2) := by decide +kernel
theorem dX12_silence_22 : decode cX12_silence 22 = .ok (.if_icmp .ge 32, 3) := by decide +kernel
theorem dX12_silence_25 : decode cX12_silence 25 = .ok (.aload_n 0, 1) := by decide +kernel
theorem dX12_silence_26 : decode cX12_silence 26 = .ok (.iload 4, 2) := by decide +kernel
theorem dX12_silence_28 : decode cX12_silence 28 = .ok (.invokevirtual 377, 3) := by decide +kernel
theorem dX12_silence_31 : decode cX12_silence 31 = .ok (.istore 5, 2) := by decide +kernel
theorem dX12_silence_33 : decode cX12_silence 33 = .ok (.iload 5, 2) := by decide +kernel
theorem dX12_silence_35 : decode cX12_silence 35 = .ok (.iload_n 2, 1) := by decide +kernel
theorem dX12_silence_36 : decode cX12_silence 36 = .ok (.if_icmp .gt 6, 3) := by decide +kernel
theorem dX12_silence_39 : decode cX12_silence 39 = .ok (.goto 9, 3) := by decide +kernel
theorem dX12_silence_42 : decode cX12_silence 42 = .ok (.iload 5, 2) := by decide +kernel
theorem dX12_silence_44 : decode cX12_silence 44 = .ok (.istore_n 2, 1) := by decide +kernel
theorem dX12_silence_45 : decode cX12_silence 45 = .ok (.iload 4, 2) := by decide +kernel
theorem dX12_silence_47 : decode cX12_silence 47 = .ok (.istore_n 3, 1) := by decide +kernel
theorem dX12_silence_48 : decode cX12_silence 48 = .ok (.iinc 4 1, 3) := by decide +kernel
theorem dX12_silence_51 : decode cX12_silence 51 = .ok (.goto (-33), 3) := by decide +kernel
theorem dX12_silence_54 : decode cX12_silence 54 = .ok (.iload_n 1, 1) := by decide +kernel
theorem dX12_silence_55 : decode cX12_silence 55 = .ok (.ifCond .ne 7, 3) := by decide +kernel
theorem dX12_silence_58 : decode cX12_silence 58 = .ok (.iload_n 2, 1) := by decide +kernel
theorem dX12_silence_59 : decode cX12_silence 59 = .ok (.goto 4, 3) := by decide +kernel
theorem dX12_silence_62 : decode cX12_silence 62 = .ok (.iload_n 3, 1) := by decide +kernel
theorem dX12_silence_63 : decode cX12_silence 63 = .ok (.ireturn, 1) := by decide +kernel
set_option maxHeartbeats 4000000 in
set_option maxRecDepth 100000 in
theorem c_X12_silence (l : Launch) (D : va_G) (tys : List (ClassId × FieldType)) (base : Nat) (G : iv_G) (h0 : Nat) (g_h0 : Nat → Int32) (r_h0 : Nat → Nat) (a_h0 : G h0 = some (12, g_h0, r_h0)) (x_0 : Int32) (i_x_0 : iv_R (-2147483648) 2147483647 x_0) : Met l yX12_silence (Cond.code yX12_silence cX12_silence 6 (some .int) :: iv_W0) ({ frames := 5, cells := 0, slots := 0, locals := 111 }) (iv_Pc iv_sh D classes tys base G [.ref h0, .int x_0]) (iv_Qi iv_sh D classes tys base (fun v G' => G = G' ∧ iv_R (-1) 24 v)) 0 0 (iv_A base) := by
  refine iv_head (by decide) (Nat.le_of_ble_eq_true rfl) ?_
  intro p e s m args below meth c ls X hr hlocks hname hB hl
  have X := X
  have hx := X.1.1
  have hb := X.1.2.1
  have hl : lv_has ls 6 [(0, .ref h0), (1, .int x_0)] := hl
  refine lv_iload_n hx hb dX12_silence_0 rfl (lv_at hl 1 rfl) ?_
  refine lv_iconst (v := 0) hx hb dX12_silence_1 (by decide) ?_
  refine lv_iconst (v := 1) hx hb dX12_silence_2 (by decide) ?_
  refine iv_cSi X k_good k_mf_X12_isIn k_st_X12_isIn k_ml_X12_56 hB (As := [.int x_0, .int 0, .int 1]) (c_X12_isIn l D tys base G x_0 i_x_0 0 (q_0.wk (by decide)) 1 (q_1.wk (by decide))) ⟨rfl, rfl⟩ ⟨Nat.le_of_ble_eq_true rfl, Nat.le_of_ble_eq_true rfl⟩ ⟨Nat.le_of_ble_eq_true rfl, Nat.le_of_ble_eq_true rfl⟩ rfl rfl hl.1 (Nat.le_of_ble_eq_true rfl) dX12_silence_3 (fun x1 G9 H locs hq hB => ?_)
  obtain ⟨rfl, i_x1, hp2⟩ := hq
  have k3 : ¬ x1 = 0 → iv_R 0 1 x_0 := fun h => ⟨iv_max i_x_0.1 (Int.le_trans q_0.1 (hp2.1 h).1) (by decide), iv_min i_x_0.2 (Int.le_trans (hp2.1 h).2 q_1.2) (by decide)⟩
  refine lv_if_ne (tgt := 11) hx hb dX12_silence_6 (by decide) (fun c4 => ?_) (fun c4 => ?_)
  · skip
    have i4_x1 : iv_R 1 1 x1 := iv_ne_lo c4 i_x1 q_0 (by decide)
    have i5_x_0 : iv_R 0 1 x_0 := ((i_x_0.cutLo (n := 0) (k3 c4).1).cutHi (n := 1) (k3 c4).2)
    refine lv_iconst (v := 0) hx hb dX12_silence_11 (by decide) ?_
    refine lv_istore_n (lv' := [(2, .int 0), (0, .ref h0), (1, .int x_0)]) hx hb dX12_silence_12 rfl hl (by decide) rfl (fun ls hl => ?_)
    refine lv_iconst (v := (-1)) hx hb dX12_silence_13 (by decide) ?_
    refine lv_istore_n (lv' := [(3, .int (-1)), (2, .int 0), (0, .ref h0), (1, .int x_0)]) hx hb dX12_silence_14 rfl hl (by decide) rfl (fun ls hl => ?_)
    refine lv_iconst (v := 0) hx hb dX12_silence_15 (by decide) ?_
    refine lv_istore (lv' := [(4, .int 0), (3, .int (-1)), (2, .int 0), (0, .ref h0), (1, .int x_0)]) hx hb dX12_silence_16 hl (by decide) rfl (fun ls hl => ?_)
    have L_18 : ∀ (n_18 : Nat) (H : Heap) (locs : List Loc) (hB : iv_B iv_sh D classes tys base G s.heap H locs) (x7 : Int32) (i_x7 : iv_R 0 24 x7) (x8 : Int32) (i_x8 : iv_R (-1) 23 x8) (x9 : Int32) (i_x9 : iv_R 0 24 x9) (hn_18 : (25 - x9.toInt).toNat < n_18) (ls : Array Slot) (hl : lv_has ls 6 [(4, .int x9), (3, .int x8), (2, .int x7), (0, .ref h0), (1, .int x_0)]), W p l e ({ frames := 5, cells := 0, slots := 0, locals := 111 } : Room) s m args below meth c H locs 0 0 (MQ below (iv_Qi iv_sh D classes tys base (fun v G' => G = G' ∧ iv_R (-1) 24 v)) args s 0 0 (iv_A base)) (F0 m 18 ls []) := by
      intro n_18
      induction n_18 with
      | zero => intro H locs hB x7 i_x7 x8 i_x8 x9 i_x9 hn_18 ls hl; exact absurd hn_18 (Nat.not_lt_zero _)
      | succ n_18 ih_18 =>
        intro H locs hB x7 i_x7 x8 i_x8 x9 i_x9 hn_18 ls hl
        refine lv_iload hx hb dX12_silence_18 (lv_at hl 0 rfl) ?_
        refine lv_bipush (v := 24) hx hb dX12_silence_20 (by decide) ?_
        refine lv_icmp_ge (tgt := 54) hx hb dX12_silence_22 (by decide) (fun c10 => ?_) (fun c10 => ?_)
        · skip
          have i10_x9 : iv_R 24 24 x9 := (i_x9.cutLo (n := 24) (iv_le_l c10 q_24))
          refine lv_iload_n hx hb dX12_silence_54 rfl (lv_at hl 4 rfl) ?_
          refine lv_if_ne (tgt := 62) hx hb dX12_silence_55 (by decide) (fun c12 => ?_) (fun c12 => ?_)
          · skip
            have i12_x_0 : iv_R 1 1 x_0 := iv_ne_lo c12 i5_x_0 q_0 (by decide)
            refine lv_iload_n hx hb dX12_silence_62 rfl (lv_at hl 1 rfl) ?_
            exact iv_iret X hr hlocks hB ⟨rfl, (i_x8.wk (by decide))⟩ dX12_silence_63
          · skip
            have i13_x_0 : iv_R 0 0 x_0 := (i5_x_0.cutHi (n := 0) (iv_eq_r c12 q_0).2)
            refine lv_iload_n hx hb dX12_silence_58 rfl (lv_at hl 2 rfl) ?_
            refine lv_goto (tgt := 63) hx hb dX12_silence_59 (by decide) ?_
            exact iv_iret X hr hlocks hB ⟨rfl, (i_x7.wk (by decide))⟩ dX12_silence_63
        · skip
          have i14_x9 : iv_R 0 23 x9 := (i_x9.cutHi (n := 23) (iv_lt_r (iv_nle c10) q_24 (by decide)))
          refine lv_aload_n hx hb dX12_silence_25 rfl (lv_at hl 3 rfl) ?_
          refine lv_iload hx hb dX12_silence_26 (lv_at hl 0 rfl) ?_
          refine iv_cVi X k_good k_mf_X12_silentFrom k_im_X12_silentFrom k_sel_X12_silentFrom k_ml_X12_377 ft_X12 hB a_h0 sh_12 (As := [.int x9]) (c_X12_silentFrom l D tys base G h0 g_h0 r_h0 a_h0 x9 i14_x9) ⟨rfl, rfl⟩ ⟨Nat.le_of_ble_eq_true rfl, Nat.le_of_ble_eq_true rfl⟩ ⟨Nat.le_of_ble_eq_true rfl, Nat.le_of_ble_eq_true rfl⟩ rfl rfl hl.1 (Nat.le_of_ble_eq_true rfl) dX12_silence_28 (fun x16 G9 H locs hq hB => ?_)
          obtain ⟨rfl, i_x16⟩ := hq
          refine lv_istore (lv' := [(5, .int x16), (4, .int x9), (3, .int x8), (2, .int x7), (0, .ref h0), (1, .int x_0)]) hx hb dX12_silence_31 hl (by decide) rfl (fun ls hl => ?_)
          refine lv_iload hx hb dX12_silence_33 (lv_at hl 0 rfl) ?_
          refine lv_iload_n hx hb dX12_silence_35 rfl (lv_at hl 3 rfl) ?_
          refine lv_icmp_gt (tgt := 42) hx hb dX12_silence_36 (by decide) (fun c17 => ?_) (fun c17 => ?_)
          · skip
            have i17_x7 : iv_R 0 23 x7 := (i_x7.cutHi (n := 23) (iv_lt_r c17 i_x16 (by decide)))
            have i18_x16 : iv_R 1 24 x16 := (i_x16.cutLo (n := 1) (iv_lt_l c17 i_x7 (by decide)))
            refine lv_iload hx hb dX12_silence_42 (lv_at hl 0 rfl) ?_
            refine lv_istore_n (lv' := [(2, .int x16), (5, .int x16), (4, .int x9), (3, .int x8), (0, .ref h0), (1, .int x_0)]) hx hb dX12_silence_44 rfl hl (by decide) rfl (fun ls hl => ?_)
            refine lv_iload hx hb dX12_silence_45 (lv_at hl 2 rfl) ?_
            refine lv_istore_n (lv' := [(3, .int x9), (2, .int x16), (5, .int x16), (4, .int x9), (0, .ref h0), (1, .int x_0)]) hx hb dX12_silence_47 rfl hl (by decide) rfl (fun ls hl => ?_)
            refine iv_iinc hx hb i14_x9 (lo := 1) (hi := 24) (by decide) dX12_silence_48 hl (k := 3) rfl (by decide) (fun x20 ls e_x20 i_x20 hl => ?_)
            have hl : lv_has ls 6 [(4, .int x20), (3, .int x9), (2, .int x16), (5, .int x16), (0, .ref h0), (1, .int x_0)] := hl
            refine lv_goto (tgt := 18) hx hb dX12_silence_51 (by decide) ?_
            exact ih_18 _ _ hB x16 (i18_x16.wk (by decide)) x9 (i14_x9.wk (by decide)) x20 (i_x20.wk (by decide)) (iv_mup (c := 1) i_x9 (by decide) (by decide) (by omega) hn_18) _ (lv_sub hl [0, 1, 2, 4, 5] rfl)
          · skip
            refine lv_goto (tgt := 48) hx hb dX12_silence_39 (by decide) ?_
            refine iv_iinc hx hb i14_x9 (lo := 1) (hi := 24) (by decide) dX12_silence_48 hl (k := 1) rfl (by decide) (fun x21 ls e_x21 i_x21 hl => ?_)
            have hl : lv_has ls 6 [(4, .int x21), (5, .int x16), (3, .int x8), (2, .int x7), (0, .ref h0), (1, .int x_0)] := hl
            refine lv_goto (tgt := 18) hx hb dX12_silence_51 (by decide) ?_
            exact ih_18 _ _ hB x7 i_x7 x8 i_x8 x21 (i_x21.wk (by decide)) (iv_mup (c := 1) i_x9 (by decide) (by decide) (by omega) hn_18) _ (lv_sub hl [0, 2, 3, 4, 5] rfl)
    exact L_18 _ _ _ hB 0 (q_0.wk (by decide)) (-1) (q_n1.wk (by decide)) 0 (q_0.wk (by decide)) (Nat.lt_succ_self _) _ (lv_sub hl [0, 1, 2, 3, 4] rfl)
  · skip
    have i21_x1 : iv_R 0 0 x1 := (i_x1.cutHi (n := 0) (iv_eq_r c4 q_0).2)
    refine lv_iconst (v := (-1)) hx hb dX12_silence_9 (by decide) ?_
    exact iv_iret X hr hlocks hB ⟨rfl, (q_n1.wk (by decide))⟩ dX12_silence_10
theorem dX12_state_0 : decode cX12_state 0 = .ok (.aload_n 0, 1) := by decide +kernel
theorem dX12_state_1 : decode cX12_state 1 = .ok (.getfield 7, 3) := by decide +kernel
theorem dX12_state_4 : decode cX12_state 4 = .ok (.iconst 2, 1) := by decide +kernel
theorem dX12_state_5 : decode cX12_state 5 = .ok (.iaload, 1) := by decide +kernel
theorem dX12_state_6 : decode cX12_state 6 = .ok (.istore_n 2, 1) := by decide +kernel
theorem dX12_state_7 : decode cX12_state 7 = .ok (.aload_n 0, 1) := by decide +kernel
theorem dX12_state_8 : decode cX12_state 8 = .ok (.getfield 7, 3) := by decide +kernel
theorem dX12_state_11 : decode cX12_state 11 = .ok (.iconst 2, 1) := by decide +kernel
theorem dX12_state_12 : decode cX12_state 12 = .ok (.iload_n 1, 1) := by decide +kernel
theorem dX12_state_13 : decode cX12_state 13 = .ok (.iastore, 1) := by decide +kernel
theorem dX12_state_14 : decode cX12_state 14 = .ok (.aload_n 0, 1) := by decide +kernel
theorem dX12_state_15 : decode cX12_state 15 = .ok (.invokevirtual 63, 3) := by decide +kernel
theorem dX12_state_18 : decode cX12_state 18 = .ok (.iload_n 2, 1) := by decide +kernel
theorem dX12_state_19 : decode cX12_state 19 = .ok (.ireturn, 1) := by decide +kernel
set_option maxHeartbeats 4000000 in
set_option maxRecDepth 100000 in
theorem c_X12_state (l : Launch) (D : va_G) (tys : List (ClassId × FieldType)) (base : Nat) (G : iv_G) (h0 : Nat) (g_h0 : Nat → Int32) (r_h0 : Nat → Nat) (a_h0 : G h0 = some (12, g_h0, r_h0)) (x_0 : Int32) (i_x_0 : iv_R (-2147483648) 2147483647 x_0) : Met l yX12_state (Cond.code yX12_state cX12_state 3 (some .int) :: iv_W0) ({ frames := 1, cells := 0, slots := 0, locals := 20 }) (iv_Pc iv_sh D classes tys base G [.ref h0, .int x_0]) (iv_Qi iv_sh D classes tys base (fun v G' => iv_Md [12, 60] G G' ∧ iv_R (-2147483648) 2147483647 v)) 0 0 (iv_A base) := by
  refine iv_head (by decide) (Nat.le_of_ble_eq_true rfl) ?_
  intro p e s m args below meth c ls X hr hlocks hname hB hl
  have X := X
  have hx := X.1.1
  have hb := X.1.2.1
  have hM : iv_Md [12, 60] G G := iv_Md.rf
  have hl : lv_has ls 3 [(0, .ref h0), (1, .int x_0)] := hl
  refine lv_aload_n hx hb dX12_state_0 rfl (lv_at hl 0 rfl) ?_
  refine iv_getr X ft_X12 hB a_h0 sh_12 0 (by decide) rfl k_fl_X12_7 dX12_state_1 (fun b1 g_b1 r_b1 e_b1 a_b1 => ?_)
  refine lv_iconst (v := 2) hx hb dX12_state_4 (by decide) ?_
  refine iv_wald_c X hB a_b1 q_2 (by decide) (lo := (-2147483648)) (hi' := 2147483647) (by decide) dX12_state_5 (fun x2 e_x2 i_x2 => ?_)
  refine lv_istore_n (lv' := [(2, .int x2), (0, .ref h0), (1, .int x_0)]) hx hb dX12_state_6 rfl hl (by decide) rfl (fun ls hl => ?_)
  refine lv_aload_n hx hb dX12_state_7 rfl (lv_at hl 1 rfl) ?_
  refine iv_getr0 X ft_X12 hB a_h0 sh_12 0 (by decide) rfl k_fl_X12_7 dX12_state_8 e_b1 ?_
  refine lv_iconst (v := 2) hx hb dX12_state_11 (by decide) ?_
  refine lv_iload_n hx hb dX12_state_12 rfl (lv_at hl 2 rfl) ?_
  refine iv_wast_c X hB a_b1 q_2 (by decide) (lo := (-2147483648)) (hi' := 2147483647) (by decide) i_x_0 dX12_state_13 (fun H locs hB => ?_)
  have hB : iv_B iv_sh D classes tys base (iv_up G b1 (60, upd g_b1 2 x_0, r_b1)) s.heap H locs := hB
  have hm := iv_Md.put (x := x_0) a_b1 (j := 2) (by decide) (fun h => absurd h (by decide))
  have h9 := iv_up_eq (G := G) (a := b1) (k := (60, upd g_b1 2 x_0, r_b1))
  generalize iv_up G b1 _ = G3 at hB hm h9
  have hM := hM.stp hm (by decide)
  generalize hgn_g4 : upd g_b1 _ _ = g4 at h9
  have a_h0 := hm.at a_h0 (by decide)
  have a_b1 := h9
  have e5 : x_0 = g4 2 := by rw [← hgn_g4]; simp [upd]
  refine lv_aload_n hx hb dX12_state_14 rfl (lv_at hl 1 rfl) ?_
  refine iv_cVv X k_good k_mf_X12_forgets k_im_X12_forgets k_sel_X12_forgets k_ml_X12_63 ft_X12 hB a_h0 sh_12 (As := []) (c_X12_forgets l D tys base G3 h0 g_h0 r_h0 a_h0) ⟨rfl, rfl⟩ ⟨Nat.le_of_ble_eq_true rfl, Nat.le_of_ble_eq_true rfl⟩ ⟨Nat.le_of_ble_eq_true rfl, Nat.le_of_ble_eq_true rfl⟩ rfl rfl hl.1 (Nat.le_of_ble_eq_true rfl) dX12_state_15 (fun G9 H locs hq hB => ?_)
  have hm := hq
  obtain ⟨G6, hG9⟩ : ∃ g, g = G9 := ⟨_, rfl⟩
  rw [← hG9] at hm hB
  have hM := hM.stp hm (by decide)
  obtain ⟨g7, r8, a_h0, f_g7⟩ := hm.ex a_h0
  have e9 : b1 = r8 0 := e_b1.trans (f_g7.1 0 (fun h => absurd (show (12 : Nat) = 5 from h) (by decide))).symm
  have a_b1 := hm.at a_b1 (by decide)
  refine lv_iload_n hx hb dX12_state_18 rfl (lv_at hl 0 rfl) ?_
  exact iv_iret X hr hlocks hB ⟨hM, i_x2⟩ dX12_state_19
theorem dX12_stop_0 : decode cX12_stop 0 = .ok (.aload_n 0, 1) := by decide +kernel
theorem dX12_stop_1 : decode cX12_stop 1 = .ok (.iload_n 1, 1) := by decide +kernel
theorem dX12_stop_2 : decode cX12_stop 2 = .ok (.invokevirtual 76, 3) := by decide +kernel
theorem dX12_stop_5 : decode cX12_stop 5 = .ok (.ifCond .eq 13, 3) := by decide +kernel
theorem dX12_stop_8 : decode cX12_stop 8 = .ok (.iload_n 2, 1) := by decide +kernel
theorem dX12_stop_9 : decode cX12_stop 9 = .ok (.iconst 0, 1) := by decide +kernel
theorem dX12_stop_10 : decode cX12_stop 10 = .ok (.bipush 99, 2) := by decide +kernel
theorem dX12_stop_12 : decode cX12_stop 12 = .ok (.invokestatic 56, 3) := by decide +kernel
theorem dX12_stop_15 : decode cX12_stop 15 = .ok (.ifCond .ne 5, 3) := by decide +kernel
theorem dX12_stop_18 : decode cX12_stop 18 = .ok (.iconst (-1), 1) := by decide +kernel
theorem dX12_stop_19 : decode cX12_stop 19 = .ok (.ireturn, 1) := by decide +kernel
theorem dX12_stop_20 : decode cX12_stop 20 = .ok (.aload_n 0, 1) := by decide +kernel
theorem dX12_stop_21 : decode cX12_stop 21 = .ok (.iload_n 1, 1) := by decide +kernel
theorem dX12_stop_22 : decode cX12_stop 22 = .ok (.invokevirtual 344, 3) := by decide +kernel
theorem dX12_stop_25 : decode cX12_stop 25 = .ok (.istore_n 3, 1) := by decide +kernel
theorem dX12_stop_26 : decode cX12_stop 26 = .ok (.aload_n 0, 1) := by decide +kernel
theorem dX12_stop_27 : decode cX12_stop 27 = .ok (.iload_n 1, 1) := by decide +kernel
theorem dX12_stop_28 : decode cX12_stop 28 = .ok (.invokevirtual 347, 3) := by decide +kernel
theorem dX12_stop_31 : decode cX12_stop 31 = .ok (.istore 4, 2) := by decide +kernel
theorem dX12_stop_33 : decode cX12_stop 33 = .ok (.iconst 0, 1) := by decide +kernel
theorem dX12_stop_34 : decode cX12_stop 34 = .ok (.istore 5, 2) := by decide +kernel
theorem dX12_stop_36 : decode cX12_stop 36 = .ok (.iload 5, 2) := by decide +kernel
theorem dX12_stop_38 : decode cX12_stop 38 = .ok (.bipush 99, 2) := by decide +kernel
theorem dX12_stop_40 : decode cX12_stop 40 = .ok (.if_icmp .gt 38, 3) := by decide +kernel
theorem dX12_stop_43 : decode cX12_stop 43 = .ok (.iconst 0, 1) := by decide +kernel
theorem dX12_stop_44 : decode cX12_stop 44 = .ok (.aload_n 0, 1) := by decide +kernel
theorem dX12_stop_45 : decode cX12_stop 45 = .ok (.iload_n 1, 1) := by decide +kernel
theorem dX12_stop_46 : decode cX12_stop 46 = .ok (.iconst 3, 1) := by decide +kernel
theorem dX12_stop_47 : decode cX12_stop 47 = .ok (.invokevirtual 282, 3) := by decide +kernel
theorem dX12_stop_50 : decode cX12_stop 50 = .ok (.iload 5, 2) := by decide +kernel
theorem dX12_stop_52 : decode cX12_stop 52 = .ok (.iload 4, 2) := by decide +kernel
theorem dX12_stop_54 : decode cX12_stop 54 = .ok (.imul, 1) := by decide +kernel
theorem dX12_stop_55 : decode cX12_stop 55 = .ok (.isub, 1) := by decide +kernel
theorem dX12_stop_56 : decode cX12_stop 56 = .ok (.invokestatic 279, 3) := by decide +kernel
theorem dX12_stop_59 : decode cX12_stop 59 = .ok (.iload_n 3, 1) := by decide +kernel
theorem dX12_stop_60 : decode cX12_stop 60 = .ok (.imul, 1) := by decide +kernel
theorem dX12_stop_61 : decode cX12_stop 61 = .ok (.sipush 1000, 3) := by decide +kernel
theorem dX12_stop_64 : decode cX12_stop 64 = .ok (.idiv, 1) := by decide +kernel
theorem dX12_stop_65 : decode cX12_stop 65 = .ok (.iload_n 2, 1) := by decide +kernel
theorem dX12_stop_66 : decode cX12_stop 66 = .ok (.if_icmp .ge 6, 3) := by decide +kernel
theorem dX12_stop_69 : decode cX12_stop 69 = .ok (.iload 5, 2) := by decide +kernel
theorem dX12_stop_71 : decode cX12_stop 71 = .ok (.ireturn, 1) := by decide +kernel
theorem dX12_stop_72 : decode cX12_stop 72 = .ok (.iinc 5 1, 3) := by decide +kernel
theorem dX12_stop_75 : decode cX12_stop 75 = .ok (.goto (-39), 3) := by decide +kernel
theorem dX12_stop_78 : decode cX12_stop 78 = .ok (.iconst (-1), 1) := by decide +kernel
theorem dX12_stop_79 : decode cX12_stop 79 = .ok (.ireturn, 1) := by decide +kernel
set_option maxHeartbeats 4000000 in
set_option maxRecDepth 100000 in
theorem c_X12_stop (l : Launch) (D : va_G) (tys : List (ClassId × FieldType)) (base : Nat) (G : iv_G) (h0 : Nat) (g_h0 : Nat → Int32) (r_h0 : Nat → Nat) (a_h0 : G h0 = some (12, g_h0, r_h0)) (x_0 : Int32) (i_x_0 : iv_R (-2147483648) 2147483647 x_0) (x_1 : Int32) (i_x_1 : iv_R (-2147483648) 2147483647 x_1) : Met l yX12_stop (Cond.code yX12_stop cX12_stop 6 (some .int) :: iv_W0) ({ frames := 10, cells := 0, slots := 0, locals := 232 }) (iv_Pc iv_sh D classes tys base G [.ref h0, .int x_0, .int x_1]) (iv_Qi iv_sh D classes tys base (fun v G' => iv_Md [67, 68] G G' ∧ iv_R (-1) 99 v)) 0 0 (iv_A base) := by
  refine iv_head (by decide) (Nat.le_of_ble_eq_true rfl) ?_
  intro p e s m args below meth c ls X hr hlocks hname hB hl
  have X := X
  have hx := X.1.1
  have hb := X.1.2.1
  have hM : iv_Md [67, 68] G G := iv_Md.rf
  have hl : lv_has ls 6 [(0, .ref h0), (1, .int x_0), (2, .int x_1)] := hl
  refine lv_aload_n hx hb dX12_stop_0 rfl (lv_at hl 0 rfl) ?_
  refine lv_iload_n hx hb dX12_stop_1 rfl (lv_at hl 1 rfl) ?_
  refine iv_cVi X k_good k_mf_X12_isBell k_im_X12_isBell k_sel_X12_isBell k_ml_X12_76 ft_X12 hB a_h0 sh_12 (As := [.int x_0]) (c_X12_isBell l D tys base G h0 g_h0 r_h0 a_h0 x_0 i_x_0) ⟨rfl, rfl⟩ ⟨Nat.le_of_ble_eq_true rfl, Nat.le_of_ble_eq_true rfl⟩ ⟨Nat.le_of_ble_eq_true rfl, Nat.le_of_ble_eq_true rfl⟩ rfl rfl hl.1 (Nat.le_of_ble_eq_true rfl) dX12_stop_2 (fun x1 G9 H locs hq hB => ?_)
  obtain ⟨rfl, i_x1, hp2⟩ := hq
  refine lv_if_eq (tgt := 18) hx hb dX12_stop_5 (by decide) (fun c3 => ?_) (fun c3 => ?_)
  · skip
    have i3_x1 : iv_R 0 0 x1 := (i_x1.cutHi (n := 0) (iv_eq_r c3 q_0).2)
    refine lv_iconst (v := (-1)) hx hb dX12_stop_18 (by decide) ?_
    exact iv_iret X hr hlocks hB ⟨hM, (q_n1.wk (by decide))⟩ dX12_stop_19
  · skip
    have i4_x1 : iv_R 1 1 x1 := iv_ne_lo c3 i_x1 q_0 (by decide)
    have i5_x_0 : iv_R 0 9 x_0 := ((i_x_0.cutLo (n := 0) (hp2 c3).1).cutHi (n := 9) (hp2 c3).2)
    refine lv_iload_n hx hb dX12_stop_8 rfl (lv_at hl 2 rfl) ?_
    refine lv_iconst (v := 0) hx hb dX12_stop_9 (by decide) ?_
    refine lv_bipush (v := 99) hx hb dX12_stop_10 (by decide) ?_
    refine iv_cSi X k_good k_mf_X12_isIn k_st_X12_isIn k_ml_X12_56 hB (As := [.int x_1, .int 0, .int 99]) (c_X12_isIn l D tys base G x_1 i_x_1 0 (q_0.wk (by decide)) 99 (q_99.wk (by decide))) ⟨rfl, rfl⟩ ⟨Nat.le_of_ble_eq_true rfl, Nat.le_of_ble_eq_true rfl⟩ ⟨Nat.le_of_ble_eq_true rfl, Nat.le_of_ble_eq_true rfl⟩ rfl rfl hl.1 (Nat.le_of_ble_eq_true rfl) dX12_stop_12 (fun x7 G9 H locs hq hB => ?_)
    obtain ⟨rfl, i_x7, hp8⟩ := hq
    have k9 : ¬ x7 = 0 → iv_R 0 99 x_1 := fun h => ⟨iv_max i_x_1.1 (Int.le_trans q_0.1 (hp8.1 h).1) (by decide), iv_min i_x_1.2 (Int.le_trans (hp8.1 h).2 q_99.2) (by decide)⟩
    refine lv_if_ne (tgt := 20) hx hb dX12_stop_15 (by decide) (fun c10 => ?_) (fun c10 => ?_)
    · skip
      have i10_x7 : iv_R 1 1 x7 := iv_ne_lo c10 i_x7 q_0 (by decide)
      have i11_x_1 : iv_R 0 99 x_1 := ((i_x_1.cutLo (n := 0) (k9 c10).1).cutHi (n := 99) (k9 c10).2)
      refine lv_aload_n hx hb dX12_stop_20 rfl (lv_at hl 0 rfl) ?_
      refine lv_iload_n hx hb dX12_stop_21 rfl (lv_at hl 1 rfl) ?_
      refine iv_cVi X k_good k_mf_X12_comeOf k_im_X12_comeOf k_sel_X12_comeOf k_ml_X12_344 ft_X12 hB a_h0 sh_12 (As := [.int x_0]) (c_X12_comeOf l D tys base G h0 g_h0 r_h0 a_h0 x_0 i5_x_0) ⟨rfl, rfl⟩ ⟨Nat.le_of_ble_eq_true rfl, Nat.le_of_ble_eq_true rfl⟩ ⟨Nat.le_of_ble_eq_true rfl, Nat.le_of_ble_eq_true rfl⟩ rfl rfl hl.1 (Nat.le_of_ble_eq_true rfl) dX12_stop_22 (fun x13 G9 H locs hq hB => ?_)
      obtain ⟨hm, i_x13⟩ := hq
      obtain ⟨G14, hG9⟩ : ∃ g, g = G9 := ⟨_, rfl⟩
      rw [← hG9] at hm hB
      have hM := hM.stp hm (by decide)
      have a_h0 := hm.at a_h0 (by decide)
      refine lv_istore_n (lv' := [(3, .int x13), (0, .ref h0), (1, .int x_0), (2, .int x_1)]) hx hb dX12_stop_25 rfl hl (by decide) rfl (fun ls hl => ?_)
      refine lv_aload_n hx hb dX12_stop_26 rfl (lv_at hl 1 rfl) ?_
      refine lv_iload_n hx hb dX12_stop_27 rfl (lv_at hl 2 rfl) ?_
      refine iv_cVi X k_good k_mf_X12_slackOf k_im_X12_slackOf k_sel_X12_slackOf k_ml_X12_347 ft_X12 hB a_h0 sh_12 (As := [.int x_0]) (c_X12_slackOf l D tys base G14 h0 g_h0 r_h0 a_h0 x_0 i5_x_0) ⟨rfl, rfl⟩ ⟨Nat.le_of_ble_eq_true rfl, Nat.le_of_ble_eq_true rfl⟩ ⟨Nat.le_of_ble_eq_true rfl, Nat.le_of_ble_eq_true rfl⟩ rfl rfl hl.1 (Nat.le_of_ble_eq_true rfl) dX12_stop_28 (fun x15 G9 H locs hq hB => ?_)
      obtain ⟨hm, i_x15⟩ := hq
      obtain ⟨G16, hG9⟩ : ∃ g, g = G9 := ⟨_, rfl⟩
      rw [← hG9] at hm hB
      have hM := hM.stp hm (by decide)
      have a_h0 := hm.at a_h0 (by decide)
      refine lv_istore (lv' := [(4, .int x15), (3, .int x13), (0, .ref h0), (1, .int x_0), (2, .int x_1)]) hx hb dX12_stop_31 hl (by decide) rfl (fun ls hl => ?_)
      refine lv_iconst (v := 0) hx hb dX12_stop_33 (by decide) ?_
      refine lv_istore (lv' := [(5, .int 0), (4, .int x15), (3, .int x13), (0, .ref h0), (1, .int x_0), (2, .int x_1)]) hx hb dX12_stop_34 hl (by decide) rfl (fun ls hl => ?_)
      have L_36 : ∀ (n_36 : Nat) (G18 : iv_G) (hM : iv_Md [67, 68] G G18) (H : Heap) (locs : List Loc) (hB : iv_B iv_sh D classes tys base G18 s.heap H locs) (a_h0 : G18 h0 = some (12, g_h0, r_h0)) (x17 : Int32) (i_x17 : iv_R 0 100 x17) (hn_36 : (101 - x17.toInt).toNat < n_36) (ls : Array Slot) (hl : lv_has ls 6 [(5, .int x17), (4, .int x15), (3, .int x13), (0, .ref h0), (1, .int x_0), (2, .int x_1)]), W p l e ({ frames := 10, cells := 0, slots := 0, locals := 232 } : Room) s m args below meth c H locs 0 0 (MQ below (iv_Qi iv_sh D classes tys base (fun v G' => iv_Md [67, 68] G G' ∧ iv_R (-1) 99 v)) args s 0 0 (iv_A base)) (F0 m 36 ls []) := by
        intro n_36
        induction n_36 with
        | zero => intro G18 hM H locs hB a_h0 x17 i_x17 hn_36 ls hl; exact absurd hn_36 (Nat.not_lt_zero _)
        | succ n_36 ih_36 =>
          intro G18 hM H locs hB a_h0 x17 i_x17 hn_36 ls hl
          refine lv_iload hx hb dX12_stop_36 (lv_at hl 0 rfl) ?_
          refine lv_bipush (v := 99) hx hb dX12_stop_38 (by decide) ?_
          refine lv_icmp_gt (tgt := 78) hx hb dX12_stop_40 (by decide) (fun c19 => ?_) (fun c19 => ?_)
          · skip
            have i19_x17 : iv_R 100 100 x17 := (i_x17.cutLo (n := 100) (iv_lt_l c19 q_99 (by decide)))
            refine lv_iconst (v := (-1)) hx hb dX12_stop_78 (by decide) ?_
            exact iv_iret X hr hlocks hB ⟨hM, (q_n1.wk (by decide))⟩ dX12_stop_79
          · skip
            have i20_x17 : iv_R 0 99 x17 := (i_x17.cutHi (n := 99) (iv_le_r (iv_nlt c19) q_99))
            refine lv_iconst (v := 0) hx hb dX12_stop_43 (by decide) ?_
            refine lv_aload_n hx hb dX12_stop_44 rfl (lv_at hl 3 rfl) ?_
            refine lv_iload_n hx hb dX12_stop_45 rfl (lv_at hl 4 rfl) ?_
            refine lv_iconst (v := 3) hx hb dX12_stop_46 (by decide) ?_
            refine iv_cVi X k_good k_mf_X12_ofBell k_im_X12_ofBell k_sel_X12_ofBell k_ml_X12_282 ft_X12 hB a_h0 sh_12 (As := [.int x_0, .int 3]) (c_X12_ofBell l D tys base G18 h0 g_h0 r_h0 a_h0 x_0 i5_x_0 3 (q_3.wk (by decide))) ⟨rfl, rfl⟩ ⟨Nat.le_of_ble_eq_true rfl, Nat.le_of_ble_eq_true rfl⟩ ⟨Nat.le_of_ble_eq_true rfl, Nat.le_of_ble_eq_true rfl⟩ rfl rfl hl.1 (Nat.le_of_ble_eq_true rfl) dX12_stop_47 (fun x22 G9 H locs hq hB => ?_)
            obtain ⟨rfl, i_x22, cp23, cp24⟩ := hq
            refine lv_iload hx hb dX12_stop_50 (lv_at hl 0 rfl) ?_
            refine lv_iload hx hb dX12_stop_52 (lv_at hl 1 rfl) ?_
            refine lv_imul hx hb dX12_stop_54 ?_
            refine lv_topi (fun x25 e_x25 => ?_)
            have i_x25 := iv_R.all x25
            refine lv_isub hx hb dX12_stop_55 ?_
            refine lv_topi (fun x26 e_x26 => ?_)
            have i_x26 := iv_R.all x26
            refine iv_cSi X k_good k_mf_X12_greater k_st_X12_greater k_ml_X12_279 hB (As := [.int 0, .int x26]) (c_X12_greater l D tys base G18 0 (q_0.wk (by decide)) x26 i_x26) ⟨rfl, rfl⟩ ⟨Nat.le_of_ble_eq_true rfl, Nat.le_of_ble_eq_true rfl⟩ ⟨Nat.le_of_ble_eq_true rfl, Nat.le_of_ble_eq_true rfl⟩ rfl rfl hl.1 (Nat.le_of_ble_eq_true rfl) dX12_stop_56 (fun x27 G9 H locs hq hB => ?_)
            obtain ⟨rfl, i_x27⟩ := hq
            refine lv_iload_n hx hb dX12_stop_59 rfl (lv_at hl 2 rfl) ?_
            refine lv_imul hx hb dX12_stop_60 ?_
            refine lv_topi (fun x28 e_x28 => ?_)
            have i_x28 := iv_R.all x28
            refine lv_sipush (v := 1000) hx hb dX12_stop_61 (by decide) ?_
            refine lv_idiv hx hb dX12_stop_64 (iv_nz q_1000 (by decide)) ?_
            refine lv_topi (fun x29 e_x29 => ?_)
            have i_x29 := iv_R.all x29
            refine lv_iload_n hx hb dX12_stop_65 rfl (lv_at hl 5 rfl) ?_
            refine lv_icmp_ge (tgt := 72) hx hb dX12_stop_66 (by decide) (fun c30 => ?_) (fun c30 => ?_)
            · skip
              have i30_x29 : iv_R 0 2147483647 x29 := (i_x29.cutLo (n := 0) (iv_le_l c30 i11_x_1))
              refine iv_iinc hx hb i20_x17 (lo := 1) (hi := 100) (by decide) dX12_stop_72 hl (k := 0) rfl (by decide) (fun x32 ls e_x32 i_x32 hl => ?_)
              have hl : lv_has ls 6 [(5, .int x32), (4, .int x15), (3, .int x13), (0, .ref h0), (1, .int x_0), (2, .int x_1)] := hl
              refine lv_goto (tgt := 36) hx hb dX12_stop_75 (by decide) ?_
              exact ih_36 G18 hM _ _ hB a_h0 x32 (i_x32.wk (by decide)) (iv_mup (c := 1) i_x17 (by decide) (by decide) (by omega) hn_36) _ (lv_sub hl [0, 1, 2, 3, 4, 5] rfl)
            · skip
              have i32_x29 : iv_R (-2147483648) 98 x29 := (i_x29.cutHi (n := 98) (iv_lt_r (iv_nle c30) i11_x_1 (by decide)))
              refine lv_iload hx hb dX12_stop_69 (lv_at hl 0 rfl) ?_
              exact iv_iret X hr hlocks hB ⟨hM, (i20_x17.wk (by decide))⟩ dX12_stop_71
      exact L_36 _ G16 hM _ _ hB a_h0 0 (q_0.wk (by decide)) (Nat.lt_succ_self _) _ (lv_sub hl [0, 1, 2, 3, 4, 5] rfl)
    · skip
      have i33_x7 : iv_R 0 0 x7 := (i_x7.cutHi (n := 0) (iv_eq_r c10 q_0).2)
      refine lv_iconst (v := (-1)) hx hb dX12_stop_18 (by decide) ?_
      exact iv_iret X hr hlocks hB ⟨hM, (q_n1.wk (by decide))⟩ dX12_stop_19
