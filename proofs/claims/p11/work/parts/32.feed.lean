theorem iv_MdT.of {S : List Nat} {G G' : iv_G} (h : iv_Md S G G') : iv_MdT S G G' := fun a k hk => by
  obtain ⟨k', h1, h2, h3, _⟩ := h a k hk
  exact ⟨k', h1, h2, h3, trivial⟩
theorem dX12_feed_0 : decode cX12_feed 0 = .ok (.aload_n 0, 1) := by decide +kernel
theorem dX12_feed_1 : decode cX12_feed 1 = .ok (.getfield 82, 3) := by decide +kernel
theorem dX12_feed_4 : decode cX12_feed 4 = .ok (.bipush 20, 2) := by decide +kernel
theorem dX12_feed_6 : decode cX12_feed 6 = .ok (.iadd, 1) := by decide +kernel
theorem dX12_feed_7 : decode cX12_feed 7 = .ok (.sipush 400, 3) := by decide +kernel
theorem dX12_feed_10 : decode cX12_feed 10 = .ok (.if_icmp .le 5, 3) := by decide +kernel
theorem dX12_feed_13 : decode cX12_feed 13 = .ok (.iconst (-1), 1) := by decide +kernel
theorem dX12_feed_14 : decode cX12_feed 14 = .ok (.ireturn, 1) := by decide +kernel
theorem dX12_feed_15 : decode cX12_feed 15 = .ok (.iconst 0, 1) := by decide +kernel
theorem dX12_feed_16 : decode cX12_feed 16 = .ok (.istore 6, 2) := by decide +kernel
theorem dX12_feed_18 : decode cX12_feed 18 = .ok (.iload 6, 2) := by decide +kernel
theorem dX12_feed_20 : decode cX12_feed 20 = .ok (.bipush 20, 2) := by decide +kernel
theorem dX12_feed_22 : decode cX12_feed 22 = .ok (.if_icmp .ge 93, 3) := by decide +kernel
theorem dX12_feed_25 : decode cX12_feed 25 = .ok (.iload 6, 2) := by decide +kernel
theorem dX12_feed_27 : decode cX12_feed 27 = .ok (.iconst 4, 1) := by decide +kernel
theorem dX12_feed_28 : decode cX12_feed 28 = .ok (.if_icmp .ge 7, 3) := by decide +kernel
theorem dX12_feed_31 : decode cX12_feed 31 = .ok (.iload_n 1, 1) := by decide +kernel
theorem dX12_feed_32 : decode cX12_feed 32 = .ok (.goto 39, 3) := by decide +kernel
theorem dX12_feed_35 : decode cX12_feed 35 = .ok (.iload 6, 2) := by decide +kernel
theorem dX12_feed_37 : decode cX12_feed 37 = .ok (.bipush 8, 2) := by decide +kernel
theorem dX12_feed_39 : decode cX12_feed 39 = .ok (.if_icmp .ge 7, 3) := by decide +kernel
theorem dX12_feed_42 : decode cX12_feed 42 = .ok (.iload_n 2, 1) := by decide +kernel
theorem dX12_feed_43 : decode cX12_feed 43 = .ok (.goto 28, 3) := by decide +kernel
theorem dX12_feed_46 : decode cX12_feed 46 = .ok (.iload 6, 2) := by decide +kernel
theorem dX12_feed_48 : decode cX12_feed 48 = .ok (.bipush 12, 2) := by decide +kernel
theorem dX12_feed_50 : decode cX12_feed 50 = .ok (.if_icmp .ge 7, 3) := by decide +kernel
theorem dX12_feed_53 : decode cX12_feed 53 = .ok (.iload_n 3, 1) := by decide +kernel
theorem dX12_feed_54 : decode cX12_feed 54 = .ok (.goto 17, 3) := by decide +kernel
theorem dX12_feed_57 : decode cX12_feed 57 = .ok (.iload 6, 2) := by decide +kernel
theorem dX12_feed_59 : decode cX12_feed 59 = .ok (.bipush 16, 2) := by decide +kernel
theorem dX12_feed_61 : decode cX12_feed 61 = .ok (.if_icmp .ge 8, 3) := by decide +kernel
theorem dX12_feed_64 : decode cX12_feed 64 = .ok (.iload 4, 2) := by decide +kernel
theorem dX12_feed_66 : decode cX12_feed 66 = .ok (.goto 5, 3) := by decide +kernel
theorem dX12_feed_69 : decode cX12_feed 69 = .ok (.iload 5, 2) := by decide +kernel
theorem dX12_feed_71 : decode cX12_feed 71 = .ok (.istore 7, 2) := by decide +kernel
theorem dX12_feed_73 : decode cX12_feed 73 = .ok (.aload_n 0, 1) := by decide +kernel
theorem dX12_feed_74 : decode cX12_feed 74 = .ok (.getfield 28, 3) := by decide +kernel
theorem dX12_feed_77 : decode cX12_feed 77 = .ok (.aload_n 0, 1) := by decide +kernel
theorem dX12_feed_78 : decode cX12_feed 78 = .ok (.getfield 82, 3) := by decide +kernel
theorem dX12_feed_81 : decode cX12_feed 81 = .ok (.iload 7, 2) := by decide +kernel
theorem dX12_feed_83 : decode cX12_feed 83 = .ok (.bipush 24, 2) := by decide +kernel
theorem dX12_feed_85 : decode cX12_feed 85 = .ok (.bipush 8, 2) := by decide +kernel
theorem dX12_feed_87 : decode cX12_feed 87 = .ok (.iload 6, 2) := by decide +kernel
theorem dX12_feed_89 : decode cX12_feed 89 = .ok (.iconst 4, 1) := by decide +kernel
theorem dX12_feed_90 : decode cX12_feed 90 = .ok (.irem, 1) := by decide +kernel
theorem dX12_feed_91 : decode cX12_feed 91 = .ok (.imul, 1) := by decide +kernel
theorem dX12_feed_92 : decode cX12_feed 92 = .ok (.isub, 1) := by decide +kernel
theorem dX12_feed_93 : decode cX12_feed 93 = .ok (.ishr, 1) := by decide +kernel
theorem dX12_feed_94 : decode cX12_feed 94 = .ok (.sipush 255, 3) := by decide +kernel
theorem dX12_feed_97 : decode cX12_feed 97 = .ok (.iand, 1) := by decide +kernel
theorem dX12_feed_98 : decode cX12_feed 98 = .ok (.iastore, 1) := by decide +kernel
theorem dX12_feed_99 : decode cX12_feed 99 = .ok (.aload_n 0, 1) := by decide +kernel
theorem dX12_feed_100 : decode cX12_feed 100 = .ok (.dup, 1) := by decide +kernel
theorem dX12_feed_101 : decode cX12_feed 101 = .ok (.getfield 82, 3) := by decide +kernel
theorem dX12_feed_104 : decode cX12_feed 104 = .ok (.iconst 1, 1) := by decide +kernel
theorem dX12_feed_105 : decode cX12_feed 105 = .ok (.iadd, 1) := by decide +kernel
theorem dX12_feed_106 : decode cX12_feed 106 = .ok (.putfield 82, 3) := by decide +kernel
theorem dX12_feed_109 : decode cX12_feed 109 = .ok (.iinc 6 1, 3) := by decide +kernel
theorem dX12_feed_112 : decode cX12_feed 112 = .ok (.goto (-94), 3) := by decide +kernel
theorem dX12_feed_115 : decode cX12_feed 115 = .ok (.aload_n 0, 1) := by decide +kernel
theorem dX12_feed_116 : decode cX12_feed 116 = .ok (.getfield 82, 3) := by decide +kernel
theorem dX12_feed_119 : decode cX12_feed 119 = .ok (.ireturn, 1) := by decide +kernel
set_option maxHeartbeats 4000000 in
set_option maxRecDepth 100000 in
theorem c_X12_feed (l : Launch) (D : va_G) (tys : List (ClassId × FieldType)) (base : Nat) (G : iv_G) (h0 : Nat) (g_h0 : Nat → Int32) (r_h0 : Nat → Nat) (a_h0 : G h0 = some (12, g_h0, r_h0)) (x_0 : Int32) (i_x_0 : iv_R (-2147483648) 2147483647 x_0) (x_1 : Int32) (i_x_1 : iv_R (-2147483648) 2147483647 x_1) (x_2 : Int32) (i_x_2 : iv_R (-2147483648) 2147483647 x_2) (x_3 : Int32) (i_x_3 : iv_R (-2147483648) 2147483647 x_3) (x_4 : Int32) (i_x_4 : iv_R (-2147483648) 2147483647 x_4) : Met l yX12_feed (Cond.code yX12_feed cX12_feed 8 (some .int) :: iv_W0) ({ frames := 0, cells := 0, slots := 0, locals := 0 }) (iv_Pc iv_sh D classes tys base G [.ref h0, .int x_0, .int x_1, .int x_2, .int x_3, .int x_4]) (iv_Qi iv_sh D classes tys base (fun v G' => iv_MdT [12, 66] G G' ∧ iv_R (-1) 400 v)) 0 0 (iv_A base) := by
  refine iv_head (by decide) (Nat.le_of_ble_eq_true rfl) ?_
  intro p e s m args below meth c ls X hr hlocks hname hB hl
  have X := X
  have hx := X.1.1
  have hb := X.1.2.1
  have hM : iv_MdT [12, 66] G G := iv_MdT.rf
  have hl : lv_has ls 8 [(0, .ref h0), (1, .int x_0), (2, .int x_1), (3, .int x_2), (4, .int x_3), (5, .int x_4)] := hl
  refine lv_aload_n hx hb dX12_feed_0 rfl (lv_at hl 0 rfl) ?_
  refine iv_geti X ft_X12 hB a_h0 sh_12 15 (by decide) rfl k_fl_X12_82 dX12_feed_1 (fun x1 e_x1 i_x1 => ?_)
  refine lv_bipush (v := 20) hx hb dX12_feed_4 (by decide) ?_
  refine iv_iadd hx hb i_x1 q_20 (lo := 20) (hi := 420) (by decide) dX12_feed_6 (fun x2 e_x2 i_x2 => ?_)
  refine lv_sipush (v := 400) hx hb dX12_feed_7 (by decide) ?_
  refine lv_icmp_le (tgt := 15) hx hb dX12_feed_10 (by decide) (fun c3 => ?_) (fun c3 => ?_)
  · skip
    have i3_x2 : iv_R 20 400 x2 := (i_x2.cutHi (n := 400) (iv_le_r c3 q_400))
    refine lv_iconst (v := 0) hx hb dX12_feed_15 (by decide) ?_
    refine lv_istore (lv' := [(6, .int 0), (0, .ref h0), (1, .int x_0), (2, .int x_1), (3, .int x_2), (4, .int x_3), (5, .int x_4)]) hx hb dX12_feed_16 hl (by decide) rfl (fun ls hl => ?_)
    have L_18 : ∀ (n_18 : Nat) (G8 : iv_G) (hM : iv_MdT [12, 66] G G8) (H : Heap) (locs : List Loc) (hB : iv_B iv_sh D classes tys base G8 s.heap H locs) (g6 : Nat → Int32) (r7 : Nat → Nat) (a_h0 : G8 h0 = some (12, g6, r7)) (m_g6 : iv_R 0 400 (g6 15)) (x5 : Int32) (i_x5 : iv_R 0 20 x5) (t_g6 : (g6 15).toInt ≤ 380 + x5.toInt) (hn_18 : (21 - x5.toInt).toNat < n_18) (ls : Array Slot) (hl : lv_has ls 8 [(6, .int x5), (0, .ref h0), (1, .int x_0), (2, .int x_1), (3, .int x_2), (4, .int x_3), (5, .int x_4)]), W p l e ({ frames := 0, cells := 0, slots := 0, locals := 0 } : Room) s m args below meth c H locs 0 0 (MQ below (iv_Qi iv_sh D classes tys base (fun v G' => iv_MdT [12, 66] G G' ∧ iv_R (-1) 400 v)) args s 0 0 (iv_A base)) (F0 m 18 ls []) := by
      intro n_18
      induction n_18 with
      | zero => intro G8 hM H locs hB g6 r7 a_h0 m_g6 x5 i_x5 t_g6 hn_18 ls hl; exact absurd hn_18 (Nat.not_lt_zero _)
      | succ n_18 ih_18 =>
        intro G8 hM H locs hB g6 r7 a_h0 m_g6 x5 i_x5 t_g6 hn_18 ls hl
        refine lv_iload hx hb dX12_feed_18 (lv_at hl 0 rfl) ?_
        refine lv_bipush (v := 20) hx hb dX12_feed_20 (by decide) ?_
        refine lv_icmp_ge (tgt := 115) hx hb dX12_feed_22 (by decide) (fun c9 => ?_) (fun c9 => ?_)
        · skip
          have i9_x5 : iv_R 20 20 x5 := (i_x5.cutLo (n := 20) (iv_le_l c9 q_20))
          refine lv_aload_n hx hb dX12_feed_115 rfl (lv_at hl 1 rfl) ?_
          refine iv_geti X ft_X12 hB a_h0 sh_12 15 (by decide) rfl k_fl_X12_82 dX12_feed_116 (fun x11 e_x11 i_x11 => ?_)
          have i11_x11 : iv_R 0 400 x11 := by rw [e_x11]; exact m_g6
          exact iv_iret X hr hlocks hB ⟨hM, (i11_x11.wk (by decide))⟩ dX12_feed_119
        · skip
          have i12_x5 : iv_R 0 19 x5 := (i_x5.cutHi (n := 19) (iv_lt_r (iv_nle c9) q_20 (by decide)))
          refine lv_iload hx hb dX12_feed_25 (lv_at hl 0 rfl) ?_
          refine lv_iconst (v := 4) hx hb dX12_feed_27 (by decide) ?_
          refine lv_icmp_ge (tgt := 35) hx hb dX12_feed_28 (by decide) (fun c14 => ?_) (fun c14 => ?_)
          · skip
            have i14_x5 : iv_R 4 19 x5 := (i12_x5.cutLo (n := 4) (iv_le_l c14 q_4))
            refine lv_iload hx hb dX12_feed_35 (lv_at hl 0 rfl) ?_
            refine lv_bipush (v := 8) hx hb dX12_feed_37 (by decide) ?_
            refine lv_icmp_ge (tgt := 46) hx hb dX12_feed_39 (by decide) (fun c16 => ?_) (fun c16 => ?_)
            · skip
              have i16_x5 : iv_R 8 19 x5 := (i14_x5.cutLo (n := 8) (iv_le_l c16 q_8))
              refine lv_iload hx hb dX12_feed_46 (lv_at hl 0 rfl) ?_
              refine lv_bipush (v := 12) hx hb dX12_feed_48 (by decide) ?_
              refine lv_icmp_ge (tgt := 57) hx hb dX12_feed_50 (by decide) (fun c18 => ?_) (fun c18 => ?_)
              · skip
                have i18_x5 : iv_R 12 19 x5 := (i16_x5.cutLo (n := 12) (iv_le_l c18 q_12))
                refine lv_iload hx hb dX12_feed_57 (lv_at hl 0 rfl) ?_
                refine lv_bipush (v := 16) hx hb dX12_feed_59 (by decide) ?_
                refine lv_icmp_ge (tgt := 69) hx hb dX12_feed_61 (by decide) (fun c20 => ?_) (fun c20 => ?_)
                · skip
                  have i20_x5 : iv_R 16 19 x5 := (i18_x5.cutLo (n := 16) (iv_le_l c20 q_16))
                  refine lv_iload hx hb dX12_feed_69 (lv_at hl 6 rfl) ?_
                  refine lv_istore (lv' := [(7, .int x_4), (6, .int x5), (0, .ref h0), (1, .int x_0), (2, .int x_1), (3, .int x_2), (4, .int x_3), (5, .int x_4)]) hx hb dX12_feed_71 hl (by decide) rfl (fun ls hl => ?_)
                  refine lv_aload_n hx hb dX12_feed_73 rfl (lv_at hl 2 rfl) ?_
                  refine iv_getr X ft_X12 hB a_h0 sh_12 8 (by decide) rfl k_fl_X12_28 dX12_feed_74 (fun b22 g_b22 r_b22 e_b22 a_b22 => ?_)
                  refine lv_aload_n hx hb dX12_feed_77 rfl (lv_at hl 2 rfl) ?_
                  refine iv_geti X ft_X12 hB a_h0 sh_12 15 (by decide) rfl k_fl_X12_82 dX12_feed_78 (fun x23 e_x23 i_x23 => ?_)
                  have i23_x23 : iv_R 0 400 x23 := by rw [e_x23]; exact m_g6
                  have i24_x23 : iv_R 0 399 x23 := ⟨i_x23.1, by have w1 := i12_x5.2; have w2 : x23.toInt = (g6 15).toInt := congrArg Int32.toInt e_x23; omega⟩
                  refine lv_iload hx hb dX12_feed_81 (lv_at hl 0 rfl) ?_
                  refine lv_bipush (v := 24) hx hb dX12_feed_83 (by decide) ?_
                  refine lv_bipush (v := 8) hx hb dX12_feed_85 (by decide) ?_
                  refine lv_iload hx hb dX12_feed_87 (lv_at hl 1 rfl) ?_
                  refine lv_iconst (v := 4) hx hb dX12_feed_89 (by decide) ?_
                  refine iv_iremp hx hb i20_x5 q_4 (lo := 0) (hi := 3) (by decide) dX12_feed_90 (fun x26 e_x26 i_x26 => ?_)
                  refine iv_imul hx hb q_8 i_x26 (lo := 0) (hi := 24) (by decide) dX12_feed_91 (fun x27 e_x27 i_x27 => ?_)
                  refine iv_isub hx hb q_24 i_x27 (lo := 0) (hi := 24) (by decide) dX12_feed_92 (fun x28 e_x28 i_x28 => ?_)
                  refine lv_ishr hx hb dX12_feed_93 ?_
                  refine lv_topi (fun x29 e_x29 => ?_)
                  have i_x29 := iv_R.all x29
                  refine lv_sipush (v := 255) hx hb dX12_feed_94 (by decide) ?_
                  refine iv_iand_r hx hb q_255 (by decide) dX12_feed_97 (fun x30 e_x30 i_x30 => ?_)
                  refine iv_ast X hB a_b22 sh_66 (iv_in i24_x23 (by decide)) i_x30 dX12_feed_98 (fun H locs hB => ?_)
                  have hm := iv_MdT.of (iv_Md.ast (j := x23.toNatClampNeg) (x := x30) a_b22 rfl (by decide))
                  have h9 := iv_up_eq (G := G8) (a := b22) (k := (66, upd g_b22 x23.toNatClampNeg x30, r_b22))
                  generalize iv_up G8 b22 _ = G31 at hB hm h9
                  have hM := hM.stp hm (by decide)
                  have a_h0 := hm.at a_h0 (by decide)
                  refine lv_aload_n hx hb dX12_feed_99 rfl (lv_at hl 2 rfl) ?_
                  refine lv_dup hx hb dX12_feed_100 rfl ?_
                  refine iv_geti0 X ft_X12 hB a_h0 sh_12 15 (by decide) rfl k_fl_X12_82 dX12_feed_101 e_x23 ?_
                  refine lv_iconst (v := 1) hx hb dX12_feed_104 (by decide) ?_
                  refine iv_iadd hx hb i24_x23 q_1 (lo := 1) (hi := 400) (by decide) dX12_feed_105 (fun x33 e_x33 i_x33 => ?_)
                  refine iv_puti X ft_X12 hB a_h0 sh_12 15 (by decide) rfl rfl k_fl_X12_82 rfl (i_x33.wk (by decide)) rfl rfl dX12_feed_106 (fun H locs hB => ?_)
                  have hm := iv_MdT.put (x := x33) a_h0 (j := 15)
                  have h9 := iv_up_eq (G := G31) (a := h0) (k := (12, upd g6 15 x33, r7))
                  generalize iv_up G31 h0 _ = G34 at hB hm h9
                  have hM := hM.stp hm (by decide)
                  generalize hgn_g35 : upd g6 _ _ = g35 at h9
                  have a_h0 := h9
                  have e9_g35 : x33 = g35 15 := by rw [← hgn_g35]; simp [upd]
                  refine iv_iinc hx hb i20_x5 (lo := 17) (hi := 20) (by decide) dX12_feed_109 hl (k := 1) rfl (by decide) (fun x36 ls e_x36 i_x36 hl => ?_)
                  have hl : lv_has ls 8 [(6, .int x36), (7, .int x_4), (0, .ref h0), (1, .int x_0), (2, .int x_1), (3, .int x_2), (4, .int x_3), (5, .int x_4)] := hl
                  refine lv_goto (tgt := 18) hx hb dX12_feed_112 (by decide) ?_
                  exact ih_18 G34 hM _ _ hB g35 r7 a_h0 (by rw [← e9_g35]; exact (i_x33.wk (by decide))) x36 (i_x36.wk (by decide)) (by have w1 : x36.toInt = x5.toInt + 1 := e_x36; have w2 : x33.toInt = x23.toInt + 1 := e_x33; have w3 : x23.toInt = (g6 15).toInt := congrArg Int32.toInt e_x23; rw [← e9_g35]; omega) (iv_mup (c := 1) i_x5 (by decide) (by decide) (by omega) hn_18) _ (lv_sub hl [0, 2, 3, 4, 5, 6, 7] rfl)
                · skip
                  have i36_x5 : iv_R 12 15 x5 := (i18_x5.cutHi (n := 15) (iv_lt_r (iv_nle c20) q_16 (by decide)))
                  refine lv_iload hx hb dX12_feed_64 (lv_at hl 5 rfl) ?_
                  refine lv_goto (tgt := 71) hx hb dX12_feed_66 (by decide) ?_
                  refine lv_istore (lv' := [(7, .int x_3), (6, .int x5), (0, .ref h0), (1, .int x_0), (2, .int x_1), (3, .int x_2), (4, .int x_3), (5, .int x_4)]) hx hb dX12_feed_71 hl (by decide) rfl (fun ls hl => ?_)
                  refine lv_aload_n hx hb dX12_feed_73 rfl (lv_at hl 2 rfl) ?_
                  refine iv_getr X ft_X12 hB a_h0 sh_12 8 (by decide) rfl k_fl_X12_28 dX12_feed_74 (fun b38 g_b38 r_b38 e_b38 a_b38 => ?_)
                  refine lv_aload_n hx hb dX12_feed_77 rfl (lv_at hl 2 rfl) ?_
                  refine iv_geti X ft_X12 hB a_h0 sh_12 15 (by decide) rfl k_fl_X12_82 dX12_feed_78 (fun x39 e_x39 i_x39 => ?_)
                  have i39_x39 : iv_R 0 400 x39 := by rw [e_x39]; exact m_g6
                  have i40_x39 : iv_R 0 399 x39 := ⟨i_x39.1, by have w1 := i12_x5.2; have w2 : x39.toInt = (g6 15).toInt := congrArg Int32.toInt e_x39; omega⟩
                  refine lv_iload hx hb dX12_feed_81 (lv_at hl 0 rfl) ?_
                  refine lv_bipush (v := 24) hx hb dX12_feed_83 (by decide) ?_
                  refine lv_bipush (v := 8) hx hb dX12_feed_85 (by decide) ?_
                  refine lv_iload hx hb dX12_feed_87 (lv_at hl 1 rfl) ?_
                  refine lv_iconst (v := 4) hx hb dX12_feed_89 (by decide) ?_
                  refine iv_iremp hx hb i36_x5 q_4 (lo := 0) (hi := 3) (by decide) dX12_feed_90 (fun x42 e_x42 i_x42 => ?_)
                  refine iv_imul hx hb q_8 i_x42 (lo := 0) (hi := 24) (by decide) dX12_feed_91 (fun x43 e_x43 i_x43 => ?_)
                  refine iv_isub hx hb q_24 i_x43 (lo := 0) (hi := 24) (by decide) dX12_feed_92 (fun x44 e_x44 i_x44 => ?_)
                  refine lv_ishr hx hb dX12_feed_93 ?_
                  refine lv_topi (fun x45 e_x45 => ?_)
                  have i_x45 := iv_R.all x45
                  refine lv_sipush (v := 255) hx hb dX12_feed_94 (by decide) ?_
                  refine iv_iand_r hx hb q_255 (by decide) dX12_feed_97 (fun x46 e_x46 i_x46 => ?_)
                  refine iv_ast X hB a_b38 sh_66 (iv_in i40_x39 (by decide)) i_x46 dX12_feed_98 (fun H locs hB => ?_)
                  have hm := iv_MdT.of (iv_Md.ast (j := x39.toNatClampNeg) (x := x46) a_b38 rfl (by decide))
                  have h9 := iv_up_eq (G := G8) (a := b38) (k := (66, upd g_b38 x39.toNatClampNeg x46, r_b38))
                  generalize iv_up G8 b38 _ = G47 at hB hm h9
                  have hM := hM.stp hm (by decide)
                  have a_h0 := hm.at a_h0 (by decide)
                  refine lv_aload_n hx hb dX12_feed_99 rfl (lv_at hl 2 rfl) ?_
                  refine lv_dup hx hb dX12_feed_100 rfl ?_
                  refine iv_geti0 X ft_X12 hB a_h0 sh_12 15 (by decide) rfl k_fl_X12_82 dX12_feed_101 e_x39 ?_
                  refine lv_iconst (v := 1) hx hb dX12_feed_104 (by decide) ?_
                  refine iv_iadd hx hb i40_x39 q_1 (lo := 1) (hi := 400) (by decide) dX12_feed_105 (fun x49 e_x49 i_x49 => ?_)
                  refine iv_puti X ft_X12 hB a_h0 sh_12 15 (by decide) rfl rfl k_fl_X12_82 rfl (i_x49.wk (by decide)) rfl rfl dX12_feed_106 (fun H locs hB => ?_)
                  have hm := iv_MdT.put (x := x49) a_h0 (j := 15)
                  have h9 := iv_up_eq (G := G47) (a := h0) (k := (12, upd g6 15 x49, r7))
                  generalize iv_up G47 h0 _ = G50 at hB hm h9
                  have hM := hM.stp hm (by decide)
                  generalize hgn_g51 : upd g6 _ _ = g51 at h9
                  have a_h0 := h9
                  have e9_g51 : x49 = g51 15 := by rw [← hgn_g51]; simp [upd]
                  refine iv_iinc hx hb i36_x5 (lo := 13) (hi := 16) (by decide) dX12_feed_109 hl (k := 1) rfl (by decide) (fun x52 ls e_x52 i_x52 hl => ?_)
                  have hl : lv_has ls 8 [(6, .int x52), (7, .int x_3), (0, .ref h0), (1, .int x_0), (2, .int x_1), (3, .int x_2), (4, .int x_3), (5, .int x_4)] := hl
                  refine lv_goto (tgt := 18) hx hb dX12_feed_112 (by decide) ?_
                  exact ih_18 G50 hM _ _ hB g51 r7 a_h0 (by rw [← e9_g51]; exact (i_x49.wk (by decide))) x52 (i_x52.wk (by decide)) (by have w1 : x52.toInt = x5.toInt + 1 := e_x52; have w2 : x49.toInt = x39.toInt + 1 := e_x49; have w3 : x39.toInt = (g6 15).toInt := congrArg Int32.toInt e_x39; rw [← e9_g51]; omega) (iv_mup (c := 1) i_x5 (by decide) (by decide) (by omega) hn_18) _ (lv_sub hl [0, 2, 3, 4, 5, 6, 7] rfl)
              · skip
                have i52_x5 : iv_R 8 11 x5 := (i16_x5.cutHi (n := 11) (iv_lt_r (iv_nle c18) q_12 (by decide)))
                refine lv_iload_n hx hb dX12_feed_53 rfl (lv_at hl 4 rfl) ?_
                refine lv_goto (tgt := 71) hx hb dX12_feed_54 (by decide) ?_
                refine lv_istore (lv' := [(7, .int x_2), (6, .int x5), (0, .ref h0), (1, .int x_0), (2, .int x_1), (3, .int x_2), (4, .int x_3), (5, .int x_4)]) hx hb dX12_feed_71 hl (by decide) rfl (fun ls hl => ?_)
                refine lv_aload_n hx hb dX12_feed_73 rfl (lv_at hl 2 rfl) ?_
                refine iv_getr X ft_X12 hB a_h0 sh_12 8 (by decide) rfl k_fl_X12_28 dX12_feed_74 (fun b54 g_b54 r_b54 e_b54 a_b54 => ?_)
                refine lv_aload_n hx hb dX12_feed_77 rfl (lv_at hl 2 rfl) ?_
                refine iv_geti X ft_X12 hB a_h0 sh_12 15 (by decide) rfl k_fl_X12_82 dX12_feed_78 (fun x55 e_x55 i_x55 => ?_)
                have i55_x55 : iv_R 0 400 x55 := by rw [e_x55]; exact m_g6
                have i56_x55 : iv_R 0 399 x55 := ⟨i_x55.1, by have w1 := i12_x5.2; have w2 : x55.toInt = (g6 15).toInt := congrArg Int32.toInt e_x55; omega⟩
                refine lv_iload hx hb dX12_feed_81 (lv_at hl 0 rfl) ?_
                refine lv_bipush (v := 24) hx hb dX12_feed_83 (by decide) ?_
                refine lv_bipush (v := 8) hx hb dX12_feed_85 (by decide) ?_
                refine lv_iload hx hb dX12_feed_87 (lv_at hl 1 rfl) ?_
                refine lv_iconst (v := 4) hx hb dX12_feed_89 (by decide) ?_
                refine iv_iremp hx hb i52_x5 q_4 (lo := 0) (hi := 3) (by decide) dX12_feed_90 (fun x58 e_x58 i_x58 => ?_)
                refine iv_imul hx hb q_8 i_x58 (lo := 0) (hi := 24) (by decide) dX12_feed_91 (fun x59 e_x59 i_x59 => ?_)
                refine iv_isub hx hb q_24 i_x59 (lo := 0) (hi := 24) (by decide) dX12_feed_92 (fun x60 e_x60 i_x60 => ?_)
                refine lv_ishr hx hb dX12_feed_93 ?_
                refine lv_topi (fun x61 e_x61 => ?_)
                have i_x61 := iv_R.all x61
                refine lv_sipush (v := 255) hx hb dX12_feed_94 (by decide) ?_
                refine iv_iand_r hx hb q_255 (by decide) dX12_feed_97 (fun x62 e_x62 i_x62 => ?_)
                refine iv_ast X hB a_b54 sh_66 (iv_in i56_x55 (by decide)) i_x62 dX12_feed_98 (fun H locs hB => ?_)
                have hm := iv_MdT.of (iv_Md.ast (j := x55.toNatClampNeg) (x := x62) a_b54 rfl (by decide))
                have h9 := iv_up_eq (G := G8) (a := b54) (k := (66, upd g_b54 x55.toNatClampNeg x62, r_b54))
                generalize iv_up G8 b54 _ = G63 at hB hm h9
                have hM := hM.stp hm (by decide)
                have a_h0 := hm.at a_h0 (by decide)
                refine lv_aload_n hx hb dX12_feed_99 rfl (lv_at hl 2 rfl) ?_
                refine lv_dup hx hb dX12_feed_100 rfl ?_
                refine iv_geti0 X ft_X12 hB a_h0 sh_12 15 (by decide) rfl k_fl_X12_82 dX12_feed_101 e_x55 ?_
                refine lv_iconst (v := 1) hx hb dX12_feed_104 (by decide) ?_
                refine iv_iadd hx hb i56_x55 q_1 (lo := 1) (hi := 400) (by decide) dX12_feed_105 (fun x65 e_x65 i_x65 => ?_)
                refine iv_puti X ft_X12 hB a_h0 sh_12 15 (by decide) rfl rfl k_fl_X12_82 rfl (i_x65.wk (by decide)) rfl rfl dX12_feed_106 (fun H locs hB => ?_)
                have hm := iv_MdT.put (x := x65) a_h0 (j := 15)
                have h9 := iv_up_eq (G := G63) (a := h0) (k := (12, upd g6 15 x65, r7))
                generalize iv_up G63 h0 _ = G66 at hB hm h9
                have hM := hM.stp hm (by decide)
                generalize hgn_g67 : upd g6 _ _ = g67 at h9
                have a_h0 := h9
                have e9_g67 : x65 = g67 15 := by rw [← hgn_g67]; simp [upd]
                refine iv_iinc hx hb i52_x5 (lo := 9) (hi := 12) (by decide) dX12_feed_109 hl (k := 1) rfl (by decide) (fun x68 ls e_x68 i_x68 hl => ?_)
                have hl : lv_has ls 8 [(6, .int x68), (7, .int x_2), (0, .ref h0), (1, .int x_0), (2, .int x_1), (3, .int x_2), (4, .int x_3), (5, .int x_4)] := hl
                refine lv_goto (tgt := 18) hx hb dX12_feed_112 (by decide) ?_
                exact ih_18 G66 hM _ _ hB g67 r7 a_h0 (by rw [← e9_g67]; exact (i_x65.wk (by decide))) x68 (i_x68.wk (by decide)) (by have w1 : x68.toInt = x5.toInt + 1 := e_x68; have w2 : x65.toInt = x55.toInt + 1 := e_x65; have w3 : x55.toInt = (g6 15).toInt := congrArg Int32.toInt e_x55; rw [← e9_g67]; omega) (iv_mup (c := 1) i_x5 (by decide) (by decide) (by omega) hn_18) _ (lv_sub hl [0, 2, 3, 4, 5, 6, 7] rfl)
            · skip
              have i68_x5 : iv_R 4 7 x5 := (i14_x5.cutHi (n := 7) (iv_lt_r (iv_nle c16) q_8 (by decide)))
              refine lv_iload_n hx hb dX12_feed_42 rfl (lv_at hl 3 rfl) ?_
              refine lv_goto (tgt := 71) hx hb dX12_feed_43 (by decide) ?_
              refine lv_istore (lv' := [(7, .int x_1), (6, .int x5), (0, .ref h0), (1, .int x_0), (2, .int x_1), (3, .int x_2), (4, .int x_3), (5, .int x_4)]) hx hb dX12_feed_71 hl (by decide) rfl (fun ls hl => ?_)
              refine lv_aload_n hx hb dX12_feed_73 rfl (lv_at hl 2 rfl) ?_
              refine iv_getr X ft_X12 hB a_h0 sh_12 8 (by decide) rfl k_fl_X12_28 dX12_feed_74 (fun b70 g_b70 r_b70 e_b70 a_b70 => ?_)
              refine lv_aload_n hx hb dX12_feed_77 rfl (lv_at hl 2 rfl) ?_
              refine iv_geti X ft_X12 hB a_h0 sh_12 15 (by decide) rfl k_fl_X12_82 dX12_feed_78 (fun x71 e_x71 i_x71 => ?_)
              have i71_x71 : iv_R 0 400 x71 := by rw [e_x71]; exact m_g6
              have i72_x71 : iv_R 0 399 x71 := ⟨i_x71.1, by have w1 := i12_x5.2; have w2 : x71.toInt = (g6 15).toInt := congrArg Int32.toInt e_x71; omega⟩
              refine lv_iload hx hb dX12_feed_81 (lv_at hl 0 rfl) ?_
              refine lv_bipush (v := 24) hx hb dX12_feed_83 (by decide) ?_
              refine lv_bipush (v := 8) hx hb dX12_feed_85 (by decide) ?_
              refine lv_iload hx hb dX12_feed_87 (lv_at hl 1 rfl) ?_
              refine lv_iconst (v := 4) hx hb dX12_feed_89 (by decide) ?_
              refine iv_iremp hx hb i68_x5 q_4 (lo := 0) (hi := 3) (by decide) dX12_feed_90 (fun x74 e_x74 i_x74 => ?_)
              refine iv_imul hx hb q_8 i_x74 (lo := 0) (hi := 24) (by decide) dX12_feed_91 (fun x75 e_x75 i_x75 => ?_)
              refine iv_isub hx hb q_24 i_x75 (lo := 0) (hi := 24) (by decide) dX12_feed_92 (fun x76 e_x76 i_x76 => ?_)
              refine lv_ishr hx hb dX12_feed_93 ?_
              refine lv_topi (fun x77 e_x77 => ?_)
              have i_x77 := iv_R.all x77
              refine lv_sipush (v := 255) hx hb dX12_feed_94 (by decide) ?_
              refine iv_iand_r hx hb q_255 (by decide) dX12_feed_97 (fun x78 e_x78 i_x78 => ?_)
              refine iv_ast X hB a_b70 sh_66 (iv_in i72_x71 (by decide)) i_x78 dX12_feed_98 (fun H locs hB => ?_)
              have hm := iv_MdT.of (iv_Md.ast (j := x71.toNatClampNeg) (x := x78) a_b70 rfl (by decide))
              have h9 := iv_up_eq (G := G8) (a := b70) (k := (66, upd g_b70 x71.toNatClampNeg x78, r_b70))
              generalize iv_up G8 b70 _ = G79 at hB hm h9
              have hM := hM.stp hm (by decide)
              have a_h0 := hm.at a_h0 (by decide)
              refine lv_aload_n hx hb dX12_feed_99 rfl (lv_at hl 2 rfl) ?_
              refine lv_dup hx hb dX12_feed_100 rfl ?_
              refine iv_geti0 X ft_X12 hB a_h0 sh_12 15 (by decide) rfl k_fl_X12_82 dX12_feed_101 e_x71 ?_
              refine lv_iconst (v := 1) hx hb dX12_feed_104 (by decide) ?_
              refine iv_iadd hx hb i72_x71 q_1 (lo := 1) (hi := 400) (by decide) dX12_feed_105 (fun x81 e_x81 i_x81 => ?_)
              refine iv_puti X ft_X12 hB a_h0 sh_12 15 (by decide) rfl rfl k_fl_X12_82 rfl (i_x81.wk (by decide)) rfl rfl dX12_feed_106 (fun H locs hB => ?_)
              have hm := iv_MdT.put (x := x81) a_h0 (j := 15)
              have h9 := iv_up_eq (G := G79) (a := h0) (k := (12, upd g6 15 x81, r7))
              generalize iv_up G79 h0 _ = G82 at hB hm h9
              have hM := hM.stp hm (by decide)
              generalize hgn_g83 : upd g6 _ _ = g83 at h9
              have a_h0 := h9
              have e9_g83 : x81 = g83 15 := by rw [← hgn_g83]; simp [upd]
              refine iv_iinc hx hb i68_x5 (lo := 5) (hi := 8) (by decide) dX12_feed_109 hl (k := 1) rfl (by decide) (fun x84 ls e_x84 i_x84 hl => ?_)
              have hl : lv_has ls 8 [(6, .int x84), (7, .int x_1), (0, .ref h0), (1, .int x_0), (2, .int x_1), (3, .int x_2), (4, .int x_3), (5, .int x_4)] := hl
              refine lv_goto (tgt := 18) hx hb dX12_feed_112 (by decide) ?_
              exact ih_18 G82 hM _ _ hB g83 r7 a_h0 (by rw [← e9_g83]; exact (i_x81.wk (by decide))) x84 (i_x84.wk (by decide)) (by have w1 : x84.toInt = x5.toInt + 1 := e_x84; have w2 : x81.toInt = x71.toInt + 1 := e_x81; have w3 : x71.toInt = (g6 15).toInt := congrArg Int32.toInt e_x71; rw [← e9_g83]; omega) (iv_mup (c := 1) i_x5 (by decide) (by decide) (by omega) hn_18) _ (lv_sub hl [0, 2, 3, 4, 5, 6, 7] rfl)
          · skip
            have i84_x5 : iv_R 0 3 x5 := (i12_x5.cutHi (n := 3) (iv_lt_r (iv_nle c14) q_4 (by decide)))
            refine lv_iload_n hx hb dX12_feed_31 rfl (lv_at hl 2 rfl) ?_
            refine lv_goto (tgt := 71) hx hb dX12_feed_32 (by decide) ?_
            refine lv_istore (lv' := [(7, .int x_0), (6, .int x5), (0, .ref h0), (1, .int x_0), (2, .int x_1), (3, .int x_2), (4, .int x_3), (5, .int x_4)]) hx hb dX12_feed_71 hl (by decide) rfl (fun ls hl => ?_)
            refine lv_aload_n hx hb dX12_feed_73 rfl (lv_at hl 2 rfl) ?_
            refine iv_getr X ft_X12 hB a_h0 sh_12 8 (by decide) rfl k_fl_X12_28 dX12_feed_74 (fun b86 g_b86 r_b86 e_b86 a_b86 => ?_)
            refine lv_aload_n hx hb dX12_feed_77 rfl (lv_at hl 2 rfl) ?_
            refine iv_geti X ft_X12 hB a_h0 sh_12 15 (by decide) rfl k_fl_X12_82 dX12_feed_78 (fun x87 e_x87 i_x87 => ?_)
            have i87_x87 : iv_R 0 400 x87 := by rw [e_x87]; exact m_g6
            have i88_x87 : iv_R 0 399 x87 := ⟨i_x87.1, by have w1 := i12_x5.2; have w2 : x87.toInt = (g6 15).toInt := congrArg Int32.toInt e_x87; omega⟩
            refine lv_iload hx hb dX12_feed_81 (lv_at hl 0 rfl) ?_
            refine lv_bipush (v := 24) hx hb dX12_feed_83 (by decide) ?_
            refine lv_bipush (v := 8) hx hb dX12_feed_85 (by decide) ?_
            refine lv_iload hx hb dX12_feed_87 (lv_at hl 1 rfl) ?_
            refine lv_iconst (v := 4) hx hb dX12_feed_89 (by decide) ?_
            refine iv_iremp hx hb i84_x5 q_4 (lo := 0) (hi := 3) (by decide) dX12_feed_90 (fun x90 e_x90 i_x90 => ?_)
            refine iv_imul hx hb q_8 i_x90 (lo := 0) (hi := 24) (by decide) dX12_feed_91 (fun x91 e_x91 i_x91 => ?_)
            refine iv_isub hx hb q_24 i_x91 (lo := 0) (hi := 24) (by decide) dX12_feed_92 (fun x92 e_x92 i_x92 => ?_)
            refine lv_ishr hx hb dX12_feed_93 ?_
            refine lv_topi (fun x93 e_x93 => ?_)
            have i_x93 := iv_R.all x93
            refine lv_sipush (v := 255) hx hb dX12_feed_94 (by decide) ?_
            refine iv_iand_r hx hb q_255 (by decide) dX12_feed_97 (fun x94 e_x94 i_x94 => ?_)
            refine iv_ast X hB a_b86 sh_66 (iv_in i88_x87 (by decide)) i_x94 dX12_feed_98 (fun H locs hB => ?_)
            have hm := iv_MdT.of (iv_Md.ast (j := x87.toNatClampNeg) (x := x94) a_b86 rfl (by decide))
            have h9 := iv_up_eq (G := G8) (a := b86) (k := (66, upd g_b86 x87.toNatClampNeg x94, r_b86))
            generalize iv_up G8 b86 _ = G95 at hB hm h9
            have hM := hM.stp hm (by decide)
            have a_h0 := hm.at a_h0 (by decide)
            refine lv_aload_n hx hb dX12_feed_99 rfl (lv_at hl 2 rfl) ?_
            refine lv_dup hx hb dX12_feed_100 rfl ?_
            refine iv_geti0 X ft_X12 hB a_h0 sh_12 15 (by decide) rfl k_fl_X12_82 dX12_feed_101 e_x87 ?_
            refine lv_iconst (v := 1) hx hb dX12_feed_104 (by decide) ?_
            refine iv_iadd hx hb i88_x87 q_1 (lo := 1) (hi := 400) (by decide) dX12_feed_105 (fun x97 e_x97 i_x97 => ?_)
            refine iv_puti X ft_X12 hB a_h0 sh_12 15 (by decide) rfl rfl k_fl_X12_82 rfl (i_x97.wk (by decide)) rfl rfl dX12_feed_106 (fun H locs hB => ?_)
            have hm := iv_MdT.put (x := x97) a_h0 (j := 15)
            have h9 := iv_up_eq (G := G95) (a := h0) (k := (12, upd g6 15 x97, r7))
            generalize iv_up G95 h0 _ = G98 at hB hm h9
            have hM := hM.stp hm (by decide)
            generalize hgn_g99 : upd g6 _ _ = g99 at h9
            have a_h0 := h9
            have e9_g99 : x97 = g99 15 := by rw [← hgn_g99]; simp [upd]
            refine iv_iinc hx hb i84_x5 (lo := 1) (hi := 4) (by decide) dX12_feed_109 hl (k := 1) rfl (by decide) (fun x100 ls e_x100 i_x100 hl => ?_)
            have hl : lv_has ls 8 [(6, .int x100), (7, .int x_0), (0, .ref h0), (1, .int x_0), (2, .int x_1), (3, .int x_2), (4, .int x_3), (5, .int x_4)] := hl
            refine lv_goto (tgt := 18) hx hb dX12_feed_112 (by decide) ?_
            exact ih_18 G98 hM _ _ hB g99 r7 a_h0 (by rw [← e9_g99]; exact (i_x97.wk (by decide))) x100 (i_x100.wk (by decide)) (by have w1 : x100.toInt = x5.toInt + 1 := e_x100; have w2 : x97.toInt = x87.toInt + 1 := e_x97; have w3 : x87.toInt = (g6 15).toInt := congrArg Int32.toInt e_x87; rw [← e9_g99]; omega) (iv_mup (c := 1) i_x5 (by decide) (by decide) (by omega) hn_18) _ (lv_sub hl [0, 2, 3, 4, 5, 6, 7] rfl)
    exact L_18 _ G hM _ _ hB g_h0 r_h0 a_h0 (by rw [← e_x1]; exact i_x1) 0 (q_0.wk (by decide)) (by have w0 : (0 : Int32).toInt = 0 := rfl; have w1 : x2.toInt = x1.toInt + 20 := e_x2; have w2 := i3_x2.2; have w3 : x1.toInt = (g_h0 15).toInt := congrArg Int32.toInt e_x1; omega) (Nat.lt_succ_self _) _ (lv_sub hl [0, 1, 2, 3, 4, 5, 6] rfl)
  · skip
    have i100_x2 : iv_R 401 420 x2 := (i_x2.cutLo (n := 401) (iv_lt_l (iv_nle c3) q_400 (by decide)))
    refine lv_iconst (v := (-1)) hx hb dX12_feed_13 (by decide) ?_
    exact iv_iret X hr hlocks hB ⟨hM, (q_n1.wk (by decide))⟩ dX12_feed_14
