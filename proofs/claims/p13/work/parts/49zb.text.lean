set_option maxHeartbeats 4000000 in
set_option maxRecDepth 100000 in
theorem f_X12_putsLaw (l : Launch) (D : va_G) (tys : List (ClassId × FieldType)) (base : Nat) (G : iv_G) (h0 : Nat) (g_h0 : Nat → Int32) (r_h0 : Nat → Nat) (a_h0 : G h0 = some (12, g_h0, r_h0)) (x_0 : Int32) (i_x_0 : iv_R 0 1 x_0) (hF : iv_FL h0 G) : Met l yX12_putsLaw (Cond.code yX12_putsLaw cX12_putsLaw 3 (some .int) :: iv_W0) ({ frames := 0, cells := 0, slots := 0, locals := 0 }) (iv_Pc iv_sh D classes tys base G [.ref h0, .int x_0]) (iv_Qi iv_sh D classes tys base (fun v G' => iv_MdT [60] G G' ∧ iv_R 0 16 v ∧ (v = g_h0 12))) 0 0 (iv_A base) := by
  refine iv_head (by decide) (Nat.le_of_ble_eq_true rfl) ?_
  intro p e s m args below meth c ls X hr hlocks hname hB hl
  have X := X
  have hx := X.1.1
  have hb := X.1.2.1
  have hM : iv_MdT [60] G G := iv_MdT.rf
  have a_st := a_h0
  have hBs := hB
  obtain ⟨gw, r_gw, h_gw⟩ := iv_getw hB a_h0
  obtain ⟨fl, r_fl, h_fl⟩ := iv_get63 hB a_h0
  obtain ⟨fs, r_fs, h_fs⟩ := iv_get64 hB a_h0
  have h0w := h_gw
  have h0f := h_fl
  have h0s := h_fs
  have hO : iv_only (r_h0 0) G G := iv_only.rf
  have hB := hB.toU
  have hl : lv_has ls 3 [(0, .ref h0), (1, .int x_0)] := hl
  obtain ⟨y12, e_y12⟩ : ∃ x, x = g_h0 12 := ⟨_, rfl⟩
  have i_y12 : iv_R 0 16 y12 := by rw [e_y12]; exact iv_sl12 hBs a_h0 12 (by decide) rfl
  obtain ⟨y13, e_y13⟩ : ∃ x, x = g_h0 13 := ⟨_, rfl⟩
  have i_y13 : iv_R 0 410 y13 := by rw [e_y13]; exact iv_sl12 hBs a_h0 13 (by decide) rfl
  refine lv_aload_n hx hb dX12_putsLaw_0 rfl (lv_at hl 0 rfl) ?_
  refine iv_getr0 X ft_X12 hB a_h0 shU_12 0 (by decide) rfl k_fl_X12_7 dX12_putsLaw_1 (rfl : r_h0 0 = r_h0 0) ?_
  refine lv_sipush (v := 150) hx hb dX12_putsLaw_4 (by decide) ?_
  refine lv_iload_n hx hb dX12_putsLaw_7 rfl (lv_at hl 1 rfl) ?_
  refine iv_iadd hx hb q_150 i_x_0 (lo := 150) (hi := 151) (by decide) dX12_putsLaw_8 (fun x1 e_x1 i_x1 => ?_)
  have e_x1 : x1.toInt = 150 + x_0.toInt := e_x1
  refine lv_aload_n hx hb dX12_putsLaw_9 rfl (lv_at hl 0 rfl) ?_
  refine iv_geti0 X ft_X12 hB a_h0 shU_12 12 (by decide) rfl k_fl_X12_227 dX12_putsLaw_10 e_y12 ?_
  refine iv_astP X hB h_gw shU_60 (iv_in i_x1 (by decide)) (fun _ => trivial) dX12_putsLaw_13 (fun H locs hB => ?_)
  have hm := iv_Md.put (x := y12) h_gw (j := x1.toNatClampNeg) (iv_n146 i_x1 (by decide)) (fun h => absurd h (by decide))
  have h9 := iv_up_eq (G := G) (a := (r_h0 0)) (k := (60, upd gw x1.toNatClampNeg y12, r_gw))
  have hO := hO.up (k := (60, upd gw x1.toNatClampNeg y12, r_gw))
  generalize iv_up G (r_h0 0) _ = G2 at hB hm h9 hO
  have hM := hM.stp (iv_MdT.of hm) (by decide)
  generalize hgn_g3 : upd gw _ _ = g3 at h9
  have a_h0 := hm.at a_h0 (by decide)
  have h_fl := hm.at h_fl (by decide)
  have h_fs := hm.at h_fs (by decide)
  have h_gw := h9
  refine lv_iconst (v := 0) hx hb dX12_putsLaw_14 (by decide) ?_
  refine lv_istore_n (lv' := [(2, .int 0), (0, .ref h0), (1, .int x_0)]) hx hb dX12_putsLaw_15 rfl hl (by decide) rfl (fun ls hl => ?_)
  have L_16 : ∀ (n_16 : Nat) (G7 : iv_G) (hM : iv_MdT [60] G G7) (H : Heap) (locs : List Loc) (hB : iv_B iv_shU D classes tys base G7 s.heap H locs) (a_h0 : G7 h0 = some (12, g_h0, r_h0)) (h_fl : G7 (r_h0 5) = some (63, fl, r_fl)) (h_fs : G7 (r_h0 6) = some (64, fs, r_fs)) (g5 : Nat → Int32) (r6 : Nat → Nat) (h_gw : G7 (r_h0 0) = some (60, g5, r6)) (x4 : Int32) (i_x4 : iv_R 0 16 x4) (hn_16 : (17 - x4.toInt).toNat < n_16) (gi_16 : iv_only (r_h0 0) G G7 ∧ iv_pw gw fl x_0.toInt.toNat y12 x4.toInt.toNat g5 ∧ x4.toInt ≤ y12.toInt) (ls : Array Slot) (hl : lv_has ls 3 [(2, .int x4), (0, .ref h0), (1, .int x_0)]), W p l e ({ frames := 0, cells := 0, slots := 0, locals := 0 } : Room) s m args below meth c H locs 0 0 (MQ below (iv_Qi iv_sh D classes tys base (fun v G' => iv_MdT [60] G G' ∧ iv_R 0 16 v ∧ (v = g_h0 12))) args s 0 0 (iv_A base)) (F0 m 16 ls []) := by
    intro n_16
    induction n_16 with
    | zero => intro G7 hM H locs hB a_h0 h_fl h_fs g5 r6 h_gw x4 i_x4 hn_16 gi_16 ls hl; exact absurd hn_16 (Nat.not_lt_zero _)
    | succ n_16 ih_16 =>
      intro G7 hM H locs hB a_h0 h_fl h_fs g5 r6 h_gw x4 i_x4 hn_16 gi_16 ls hl
      have hO := gi_16.1
      refine lv_iload_n hx hb dX12_putsLaw_16 rfl (lv_at hl 0 rfl) ?_
      refine lv_aload_n hx hb dX12_putsLaw_17 rfl (lv_at hl 1 rfl) ?_
      refine iv_geti0 X ft_X12 hB a_h0 shU_12 12 (by decide) rfl k_fl_X12_227 dX12_putsLaw_18 e_y12 ?_
      refine lv_icmp_ge (tgt := 128) hx hb dX12_putsLaw_21 (by decide) (fun c8 => ?_) (fun c8 => ?_)
      · skip
        refine lv_iconst (v := 0) hx hb dX12_putsLaw_128 (by decide) ?_
        refine lv_istore_n (lv' := [(2, .int 0), (0, .ref h0), (1, .int x_0)]) hx hb dX12_putsLaw_129 rfl hl (by decide) rfl (fun ls hl => ?_)
        have L_130 : ∀ (n_130 : Nat) (G12 : iv_G) (hM : iv_MdT [60] G G12) (H : Heap) (locs : List Loc) (hB : iv_B iv_shU D classes tys base G12 s.heap H locs) (a_h0 : G12 h0 = some (12, g_h0, r_h0)) (h_fl : G12 (r_h0 5) = some (63, fl, r_fl)) (h_fs : G12 (r_h0 6) = some (64, fs, r_fs)) (g10 : Nat → Int32) (r11 : Nat → Nat) (h_gw : G12 (r_h0 0) = some (60, g10, r11)) (x9 : Int32) (i_x9 : iv_R 0 999 x9) (hn_130 : (1000 - x9.toInt).toNat < n_130) (gi_130 : iv_only (r_h0 0) G G12 ∧ iv_ps g5 fs x_0.toInt.toNat x9.toInt.toNat g10 ∧ x9.toInt ≤ 2 * y13.toInt) (ls : Array Slot) (hl : lv_has ls 3 [(2, .int x9), (0, .ref h0), (1, .int x_0)]), W p l e ({ frames := 0, cells := 0, slots := 0, locals := 0 } : Room) s m args below meth c H locs 0 0 (MQ below (iv_Qi iv_sh D classes tys base (fun v G' => iv_MdT [60] G G' ∧ iv_R 0 16 v ∧ (v = g_h0 12))) args s 0 0 (iv_A base)) (F0 m 130 ls []) := by
          intro n_130
          induction n_130 with
          | zero => intro G12 hM H locs hB a_h0 h_fl h_fs g10 r11 h_gw x9 i_x9 hn_130 gi_130 ls hl; exact absurd hn_130 (Nat.not_lt_zero _)
          | succ n_130 ih_130 =>
            intro G12 hM H locs hB a_h0 h_fl h_fs g10 r11 h_gw x9 i_x9 hn_130 gi_130 ls hl
            have hO := gi_130.1
            refine lv_iload_n hx hb dX12_putsLaw_130 rfl (lv_at hl 0 rfl) ?_
            refine lv_iconst (v := 2) hx hb dX12_putsLaw_131 (by decide) ?_
            refine lv_aload_n hx hb dX12_putsLaw_132 rfl (lv_at hl 1 rfl) ?_
            refine iv_geti0 X ft_X12 hB a_h0 shU_12 13 (by decide) rfl k_fl_X12_192 dX12_putsLaw_133 e_y13 ?_
            refine iv_imul hx hb q_2 i_y13 (lo := 0) (hi := 820) (by decide) dX12_putsLaw_136 (fun x13 e_x13 i_x13 => ?_)
            have e_x13 : x13.toInt = 2 * y13.toInt := e_x13
            refine lv_icmp_ge (tgt := 168) hx hb dX12_putsLaw_137 (by decide) (fun c14 => ?_) (fun c14 => ?_)
            · skip
              have hB := hB.ofU (fun a9 g9 r9 h9 => by
                by_cases e9 : a9 = r_h0 0
                · subst e9; have q1 := h_gw.symm.trans h9; cases q1
                  have wy := congrArg Int32.toInt e_y12; have wz := congrArg Int32.toInt e_y13
                  have hle : y12.toInt.toNat = x4.toInt.toNat := by have w1 := Int32.le_iff_toInt_le.mp c8; have w2 := gi_16.2.2; have w3 := i_y12.1; omega
                  have hle2 : 2 * y13.toInt.toNat = x9.toInt.toNat := by have w1 := Int32.le_iff_toInt_le.mp c14; have w2 := gi_130.2.2; have w3 := i_y13.1; have w4 : x13.toInt = 2 * y13.toInt := e_x13; omega
                  exact iv_puts (k := x_0.toInt.toNat) (hBs.wP h0w) (by have := i_x_0.1; have := i_x_0.2; omega) ⟨i_y12.1, i_y12.2⟩ (u := y13.toInt) ⟨i_y13.1, i_y13.2⟩ (by rw [hle]; exact gi_16.2.1) (by rw [hle2]; exact gi_130.2.1) (fun i hi => by have q := hF _ _ _ _ _ _ a_st h0f h0s i (by rw [← e_y12]; exact hi); rw [← e_y13] at q; exact q)
                · rw [gi_130.1 a9 e9] at h9; exact hBs.wP h9)
              refine lv_aload_n hx hb dX12_putsLaw_168 rfl (lv_at hl 1 rfl) ?_
              refine iv_geti0 X ft_X12 hB a_h0 shU_12 12 (by decide) rfl k_fl_X12_227 dX12_putsLaw_169 e_y12 ?_
              exact iv_iret X hr hlocks hB ⟨hM, i_y12, e_y12⟩ dX12_putsLaw_172
            · skip
              have i14_x9 : iv_R 0 819 x9 := (i_x9.cutHi (n := 819) (iv_lt_r (iv_nle c14) i_x13 (by decide)))
              have i15_x13 : iv_R 1 820 x13 := (i_x13.cutLo (n := 1) (iv_lt_l (iv_nle c14) i_x9 (by decide)))
              refine lv_aload_n hx hb dX12_putsLaw_140 rfl (lv_at hl 1 rfl) ?_
              refine iv_getr0 X ft_X12 hB a_h0 shU_12 0 (by decide) rfl k_fl_X12_7 dX12_putsLaw_141 (rfl : r_h0 0 = r_h0 0) ?_
              refine lv_sipush (v := 874) hx hb dX12_putsLaw_144 (by decide) ?_
              refine lv_sipush (v := 820) hx hb dX12_putsLaw_147 (by decide) ?_
              refine lv_iload_n hx hb dX12_putsLaw_150 rfl (lv_at hl 2 rfl) ?_
              refine iv_imul hx hb q_820 i_x_0 (lo := 0) (hi := 820) (by decide) dX12_putsLaw_151 (fun x17 e_x17 i_x17 => ?_)
              have e_x17 : x17.toInt = 820 * x_0.toInt := e_x17
              refine iv_iadd hx hb q_874 i_x17 (lo := 874) (hi := 1694) (by decide) dX12_putsLaw_152 (fun x18 e_x18 i_x18 => ?_)
              have e_x18 : x18.toInt = 874 + x17.toInt := e_x18
              refine lv_iload_n hx hb dX12_putsLaw_153 rfl (lv_at hl 0 rfl) ?_
              refine iv_iadd hx hb i_x18 i14_x9 (lo := 874) (hi := 2513) (by decide) dX12_putsLaw_154 (fun x19 e_x19 i_x19 => ?_)
              refine lv_aload_n hx hb dX12_putsLaw_155 rfl (lv_at hl 1 rfl) ?_
              refine iv_getr0 X ft_X12 hB a_h0 shU_12 6 (by decide) rfl k_fl_X12_22 dX12_putsLaw_156 (rfl : r_h0 6 = r_h0 6) ?_
              refine lv_iload_n hx hb dX12_putsLaw_159 rfl (lv_at hl 0 rfl) ?_
              refine iv_ald X hB h_fs shU_64 (iv_in i14_x9 (by decide)) dX12_putsLaw_160 (fun x20 e_x20 i_x20 => ?_)
              refine iv_astP X hB h_gw shU_60 (iv_in i_x19 (by decide)) (fun _ => trivial) dX12_putsLaw_161 (fun H locs hB => ?_)
              have hm := iv_Md.put (x := x20) h_gw (j := x19.toNatClampNeg) (iv_n146 i_x19 (by decide)) (fun h => absurd h (by decide))
              have h9 := iv_up_eq (G := G12) (a := (r_h0 0)) (k := (60, upd g10 x19.toNatClampNeg x20, r11))
              have hO := hO.up (k := (60, upd g10 x19.toNatClampNeg x20, r11))
              generalize iv_up G12 (r_h0 0) _ = G21 at hB hm h9 hO
              have hM := hM.stp (iv_MdT.of hm) (by decide)
              generalize hgn_g22 : upd g10 _ _ = g22 at h9
              have a_h0 := hm.at a_h0 (by decide)
              have h_fl := hm.at h_fl (by decide)
              have h_fs := hm.at h_fs (by decide)
              have h_gw := h9
              refine iv_iinc hx hb i14_x9 (lo := 1) (hi := 820) (by decide) dX12_putsLaw_162 hl (k := 0) rfl (by decide) (fun x23 ls e_x23 i_x23 hl => ?_)
              have hl : lv_has ls 3 [(2, .int x23), (0, .ref h0), (1, .int x_0)] := hl
              refine lv_goto (tgt := 130) hx hb dX12_putsLaw_165 (by decide) ?_
              exact ih_130 G21 hM _ _ hB a_h0 h_fl h_fs g22 r11 h_gw x23 (i_x23.wk (by decide)) (iv_mup (c := 1) i_x9 (by decide) (by decide) (by omega) hn_130) ⟨hO, (by rw [← hgn_g22, e_x20, show x23.toInt.toNat = x9.toInt.toNat + 1 from (by have q0 := i_x_0.1; have q1 := i_x_0.2; have q2 := i14_x9.1; have q3 := i14_x9.2; omega)]; exact gi_130.2.1.step (by have q0 := i_x_0.1; have q1 := i_x_0.2; have q2 := i14_x9.1; have q3 := i14_x9.2; omega) (by show x19.toInt.toNat = _; have q0 := i_x_0.1; have q1 := i_x_0.2; have q2 := i14_x9.1; have q3 := i14_x9.2; omega) (by show x9.toInt.toNat = _; have q0 := i_x_0.1; have q1 := i_x_0.2; have q2 := i14_x9.1; have q3 := i14_x9.2; omega)), (by have w1 := Int32.lt_iff_toInt_lt.mp (iv_nle c14); have w2 : x23.toInt = x9.toInt + 1 := e_x23; have w3 : x13.toInt = 2 * y13.toInt := e_x13; omega)⟩ _ (lv_sub hl [0, 1, 2] rfl)
        exact L_130 _ G7 hM _ _ hB a_h0 h_fl h_fs g5 r6 h_gw 0 (q_0.wk (by decide)) (Nat.lt_succ_self _) ⟨hO, iv_ps.zero, (by have w1 := i_y13.1; have z0 : (0 : Int32).toInt = 0 := rfl; omega)⟩ _ (lv_sub hl [0, 1, 2] rfl)
      · skip
        have i23_x4 : iv_R 0 15 x4 := (i_x4.cutHi (n := 15) (iv_lt_r (iv_nle c8) i_y12 (by decide)))
        have i24_y12 : iv_R 1 16 y12 := (i_y12.cutLo (n := 1) (iv_lt_l (iv_nle c8) i_x4 (by decide)))
        refine lv_aload_n hx hb dX12_putsLaw_24 rfl (lv_at hl 1 rfl) ?_
        refine iv_getr0 X ft_X12 hB a_h0 shU_12 0 (by decide) rfl k_fl_X12_7 dX12_putsLaw_25 (rfl : r_h0 0 = r_h0 0) ?_
        refine lv_sipush (v := 746) hx hb dX12_putsLaw_28 (by decide) ?_
        refine lv_bipush (v := 16) hx hb dX12_putsLaw_31 (by decide) ?_
        refine lv_iload_n hx hb dX12_putsLaw_33 rfl (lv_at hl 2 rfl) ?_
        refine iv_imul hx hb q_16 i_x_0 (lo := 0) (hi := 16) (by decide) dX12_putsLaw_34 (fun x26 e_x26 i_x26 => ?_)
        have e_x26 : x26.toInt = 16 * x_0.toInt := e_x26
        refine iv_iadd hx hb q_746 i_x26 (lo := 746) (hi := 762) (by decide) dX12_putsLaw_35 (fun x27 e_x27 i_x27 => ?_)
        have e_x27 : x27.toInt = 746 + x26.toInt := e_x27
        refine lv_iload_n hx hb dX12_putsLaw_36 rfl (lv_at hl 0 rfl) ?_
        refine iv_iadd hx hb i_x27 i23_x4 (lo := 746) (hi := 777) (by decide) dX12_putsLaw_37 (fun x28 e_x28 i_x28 => ?_)
        refine lv_aload_n hx hb dX12_putsLaw_38 rfl (lv_at hl 1 rfl) ?_
        refine iv_getr0 X ft_X12 hB a_h0 shU_12 5 (by decide) rfl k_fl_X12_19 dX12_putsLaw_39 (rfl : r_h0 5 = r_h0 5) ?_
        refine lv_iconst (v := 4) hx hb dX12_putsLaw_42 (by decide) ?_
        refine lv_iload_n hx hb dX12_putsLaw_43 rfl (lv_at hl 0 rfl) ?_
        refine iv_imul hx hb q_4 i23_x4 (lo := 0) (hi := 60) (by decide) dX12_putsLaw_44 (fun x29 e_x29 i_x29 => ?_)
        have e_x29 : x29.toInt = 4 * x4.toInt := e_x29
        refine iv_ald X hB h_fl shU_63 (iv_in i_x29 (by decide)) dX12_putsLaw_45 (fun x30 e_x30 i_x30 => ?_)
        refine iv_astP X hB h_gw shU_60 (iv_in i_x28 (by decide)) (fun _ => trivial) dX12_putsLaw_46 (fun H locs hB => ?_)
        have hm := iv_Md.put (x := x30) h_gw (j := x28.toNatClampNeg) (iv_n146 i_x28 (by decide)) (fun h => absurd h (by decide))
        have h9 := iv_up_eq (G := G7) (a := (r_h0 0)) (k := (60, upd g5 x28.toNatClampNeg x30, r6))
        have hO := hO.up (k := (60, upd g5 x28.toNatClampNeg x30, r6))
        generalize iv_up G7 (r_h0 0) _ = G31 at hB hm h9 hO
        have hM := hM.stp (iv_MdT.of hm) (by decide)
        generalize hgn_g32 : upd g5 _ _ = g32 at h9
        have a_h0 := hm.at a_h0 (by decide)
        have h_fl := hm.at h_fl (by decide)
        have h_fs := hm.at h_fs (by decide)
        have h_gw := h9
        refine lv_aload_n hx hb dX12_putsLaw_47 rfl (lv_at hl 1 rfl) ?_
        refine iv_getr0 X ft_X12 hB a_h0 shU_12 0 (by decide) rfl k_fl_X12_7 dX12_putsLaw_48 (rfl : r_h0 0 = r_h0 0) ?_
        refine lv_sipush (v := 778) hx hb dX12_putsLaw_51 (by decide) ?_
        refine lv_bipush (v := 16) hx hb dX12_putsLaw_54 (by decide) ?_
        refine lv_iload_n hx hb dX12_putsLaw_56 rfl (lv_at hl 2 rfl) ?_
        refine iv_imul hx hb q_16 i_x_0 (lo := 0) (hi := 16) (by decide) dX12_putsLaw_57 (fun x33 e_x33 i_x33 => ?_)
        have e_x33 : x33.toInt = 16 * x_0.toInt := e_x33
        refine iv_iadd hx hb q_778 i_x33 (lo := 778) (hi := 794) (by decide) dX12_putsLaw_58 (fun x34 e_x34 i_x34 => ?_)
        have e_x34 : x34.toInt = 778 + x33.toInt := e_x34
        refine lv_iload_n hx hb dX12_putsLaw_59 rfl (lv_at hl 0 rfl) ?_
        refine iv_iadd hx hb i_x34 i23_x4 (lo := 778) (hi := 809) (by decide) dX12_putsLaw_60 (fun x35 e_x35 i_x35 => ?_)
        refine lv_aload_n hx hb dX12_putsLaw_61 rfl (lv_at hl 1 rfl) ?_
        refine iv_getr0 X ft_X12 hB a_h0 shU_12 5 (by decide) rfl k_fl_X12_19 dX12_putsLaw_62 (rfl : r_h0 5 = r_h0 5) ?_
        refine lv_iconst (v := 4) hx hb dX12_putsLaw_65 (by decide) ?_
        refine lv_iload_n hx hb dX12_putsLaw_66 rfl (lv_at hl 0 rfl) ?_
        refine iv_imul hx hb q_4 i23_x4 (lo := 0) (hi := 60) (by decide) dX12_putsLaw_67 (fun x36 e_x36 i_x36 => ?_)
        have e_x36 : x36.toInt = 4 * x4.toInt := e_x36
        refine lv_iconst (v := 1) hx hb dX12_putsLaw_68 (by decide) ?_
        refine iv_iadd hx hb i_x36 q_1 (lo := 1) (hi := 61) (by decide) dX12_putsLaw_69 (fun x37 e_x37 i_x37 => ?_)
        have e_x37 : x37.toInt = x36.toInt + 1 := e_x37
        refine iv_ald X hB h_fl shU_63 (iv_in i_x37 (by decide)) dX12_putsLaw_70 (fun x38 e_x38 i_x38 => ?_)
        refine iv_astP X hB h_gw shU_60 (iv_in i_x35 (by decide)) (fun _ => trivial) dX12_putsLaw_71 (fun H locs hB => ?_)
        have hm := iv_Md.put (x := x38) h_gw (j := x35.toNatClampNeg) (iv_n146 i_x35 (by decide)) (fun h => absurd h (by decide))
        have h9 := iv_up_eq (G := G31) (a := (r_h0 0)) (k := (60, upd g32 x35.toNatClampNeg x38, r6))
        have hO := hO.up (k := (60, upd g32 x35.toNatClampNeg x38, r6))
        generalize iv_up G31 (r_h0 0) _ = G39 at hB hm h9 hO
        have hM := hM.stp (iv_MdT.of hm) (by decide)
        generalize hgn_g40 : upd g32 _ _ = g40 at h9
        have a_h0 := hm.at a_h0 (by decide)
        have h_fl := hm.at h_fl (by decide)
        have h_fs := hm.at h_fs (by decide)
        have h_gw := h9
        refine lv_aload_n hx hb dX12_putsLaw_72 rfl (lv_at hl 1 rfl) ?_
        refine iv_getr0 X ft_X12 hB a_h0 shU_12 0 (by decide) rfl k_fl_X12_7 dX12_putsLaw_73 (rfl : r_h0 0 = r_h0 0) ?_
        refine lv_sipush (v := 810) hx hb dX12_putsLaw_76 (by decide) ?_
        refine lv_bipush (v := 16) hx hb dX12_putsLaw_79 (by decide) ?_
        refine lv_iload_n hx hb dX12_putsLaw_81 rfl (lv_at hl 2 rfl) ?_
        refine iv_imul hx hb q_16 i_x_0 (lo := 0) (hi := 16) (by decide) dX12_putsLaw_82 (fun x41 e_x41 i_x41 => ?_)
        have e_x41 : x41.toInt = 16 * x_0.toInt := e_x41
        refine iv_iadd hx hb q_810 i_x41 (lo := 810) (hi := 826) (by decide) dX12_putsLaw_83 (fun x42 e_x42 i_x42 => ?_)
        have e_x42 : x42.toInt = 810 + x41.toInt := e_x42
        refine lv_iload_n hx hb dX12_putsLaw_84 rfl (lv_at hl 0 rfl) ?_
        refine iv_iadd hx hb i_x42 i23_x4 (lo := 810) (hi := 841) (by decide) dX12_putsLaw_85 (fun x43 e_x43 i_x43 => ?_)
        refine lv_aload_n hx hb dX12_putsLaw_86 rfl (lv_at hl 1 rfl) ?_
        refine iv_getr0 X ft_X12 hB a_h0 shU_12 5 (by decide) rfl k_fl_X12_19 dX12_putsLaw_87 (rfl : r_h0 5 = r_h0 5) ?_
        refine lv_iconst (v := 4) hx hb dX12_putsLaw_90 (by decide) ?_
        refine lv_iload_n hx hb dX12_putsLaw_91 rfl (lv_at hl 0 rfl) ?_
        refine iv_imul hx hb q_4 i23_x4 (lo := 0) (hi := 60) (by decide) dX12_putsLaw_92 (fun x44 e_x44 i_x44 => ?_)
        have e_x44 : x44.toInt = 4 * x4.toInt := e_x44
        refine lv_iconst (v := 2) hx hb dX12_putsLaw_93 (by decide) ?_
        refine iv_iadd hx hb i_x44 q_2 (lo := 2) (hi := 62) (by decide) dX12_putsLaw_94 (fun x45 e_x45 i_x45 => ?_)
        have e_x45 : x45.toInt = x44.toInt + 2 := e_x45
        refine iv_ald X hB h_fl shU_63 (iv_in i_x45 (by decide)) dX12_putsLaw_95 (fun x46 e_x46 i_x46 => ?_)
        refine iv_astP X hB h_gw shU_60 (iv_in i_x43 (by decide)) (fun _ => trivial) dX12_putsLaw_96 (fun H locs hB => ?_)
        have hm := iv_Md.put (x := x46) h_gw (j := x43.toNatClampNeg) (iv_n146 i_x43 (by decide)) (fun h => absurd h (by decide))
        have h9 := iv_up_eq (G := G39) (a := (r_h0 0)) (k := (60, upd g40 x43.toNatClampNeg x46, r6))
        have hO := hO.up (k := (60, upd g40 x43.toNatClampNeg x46, r6))
        generalize iv_up G39 (r_h0 0) _ = G47 at hB hm h9 hO
        have hM := hM.stp (iv_MdT.of hm) (by decide)
        generalize hgn_g48 : upd g40 _ _ = g48 at h9
        have a_h0 := hm.at a_h0 (by decide)
        have h_fl := hm.at h_fl (by decide)
        have h_fs := hm.at h_fs (by decide)
        have h_gw := h9
        refine lv_aload_n hx hb dX12_putsLaw_97 rfl (lv_at hl 1 rfl) ?_
        refine iv_getr0 X ft_X12 hB a_h0 shU_12 0 (by decide) rfl k_fl_X12_7 dX12_putsLaw_98 (rfl : r_h0 0 = r_h0 0) ?_
        refine lv_sipush (v := 842) hx hb dX12_putsLaw_101 (by decide) ?_
        refine lv_bipush (v := 16) hx hb dX12_putsLaw_104 (by decide) ?_
        refine lv_iload_n hx hb dX12_putsLaw_106 rfl (lv_at hl 2 rfl) ?_
        refine iv_imul hx hb q_16 i_x_0 (lo := 0) (hi := 16) (by decide) dX12_putsLaw_107 (fun x49 e_x49 i_x49 => ?_)
        have e_x49 : x49.toInt = 16 * x_0.toInt := e_x49
        refine iv_iadd hx hb q_842 i_x49 (lo := 842) (hi := 858) (by decide) dX12_putsLaw_108 (fun x50 e_x50 i_x50 => ?_)
        have e_x50 : x50.toInt = 842 + x49.toInt := e_x50
        refine lv_iload_n hx hb dX12_putsLaw_109 rfl (lv_at hl 0 rfl) ?_
        refine iv_iadd hx hb i_x50 i23_x4 (lo := 842) (hi := 873) (by decide) dX12_putsLaw_110 (fun x51 e_x51 i_x51 => ?_)
        refine lv_aload_n hx hb dX12_putsLaw_111 rfl (lv_at hl 1 rfl) ?_
        refine iv_getr0 X ft_X12 hB a_h0 shU_12 5 (by decide) rfl k_fl_X12_19 dX12_putsLaw_112 (rfl : r_h0 5 = r_h0 5) ?_
        refine lv_iconst (v := 4) hx hb dX12_putsLaw_115 (by decide) ?_
        refine lv_iload_n hx hb dX12_putsLaw_116 rfl (lv_at hl 0 rfl) ?_
        refine iv_imul hx hb q_4 i23_x4 (lo := 0) (hi := 60) (by decide) dX12_putsLaw_117 (fun x52 e_x52 i_x52 => ?_)
        have e_x52 : x52.toInt = 4 * x4.toInt := e_x52
        refine lv_iconst (v := 3) hx hb dX12_putsLaw_118 (by decide) ?_
        refine iv_iadd hx hb i_x52 q_3 (lo := 3) (hi := 63) (by decide) dX12_putsLaw_119 (fun x53 e_x53 i_x53 => ?_)
        have e_x53 : x53.toInt = x52.toInt + 3 := e_x53
        refine iv_ald X hB h_fl shU_63 (iv_in i_x53 (by decide)) dX12_putsLaw_120 (fun x54 e_x54 i_x54 => ?_)
        refine iv_astP X hB h_gw shU_60 (iv_in i_x51 (by decide)) (fun _ => trivial) dX12_putsLaw_121 (fun H locs hB => ?_)
        have hm := iv_Md.put (x := x54) h_gw (j := x51.toNatClampNeg) (iv_n146 i_x51 (by decide)) (fun h => absurd h (by decide))
        have h9 := iv_up_eq (G := G47) (a := (r_h0 0)) (k := (60, upd g48 x51.toNatClampNeg x54, r6))
        have hO := hO.up (k := (60, upd g48 x51.toNatClampNeg x54, r6))
        generalize iv_up G47 (r_h0 0) _ = G55 at hB hm h9 hO
        have hM := hM.stp (iv_MdT.of hm) (by decide)
        generalize hgn_g56 : upd g48 _ _ = g56 at h9
        have a_h0 := hm.at a_h0 (by decide)
        have h_fl := hm.at h_fl (by decide)
        have h_fs := hm.at h_fs (by decide)
        have h_gw := h9
        refine iv_iinc hx hb i23_x4 (lo := 1) (hi := 16) (by decide) dX12_putsLaw_122 hl (k := 0) rfl (by decide) (fun x57 ls e_x57 i_x57 hl => ?_)
        have hl : lv_has ls 3 [(2, .int x57), (0, .ref h0), (1, .int x_0)] := hl
        refine lv_goto (tgt := 16) hx hb dX12_putsLaw_125 (by decide) ?_
        exact ih_16 G55 hM _ _ hB a_h0 h_fl h_fs g56 r6 h_gw x57 (i_x57.wk (by decide)) (iv_mup (c := 1) i_x4 (by decide) (by decide) (by omega) hn_16) ⟨hO, (by rw [← hgn_g56, ← hgn_g48, ← hgn_g40, ← hgn_g32, e_x30, e_x38, e_x46, show x57.toInt.toNat = x4.toInt.toNat + 1 from (by have := i23_x4.1; omega)]; refine gi_16.2.1.step (by have q0 := i_x_0.1; have q1 := i_x_0.2; have q2 := i23_x4.1; have q3 := i23_x4.2; omega) (by have q0 := i_x_0.1; have q1 := i_x_0.2; have q2 := i23_x4.1; have q3 := i23_x4.2; omega) (by show x28.toInt.toNat = _; have q0 := i_x_0.1; have q1 := i_x_0.2; have q2 := i23_x4.1; have q3 := i23_x4.2; omega) (by show x35.toInt.toNat = _; have q0 := i_x_0.1; have q1 := i_x_0.2; have q2 := i23_x4.1; have q3 := i23_x4.2; omega) (by show x43.toInt.toNat = _; have q0 := i_x_0.1; have q1 := i_x_0.2; have q2 := i23_x4.1; have q3 := i23_x4.2; omega) (by show x51.toInt.toNat = _; have q0 := i_x_0.1; have q1 := i_x_0.2; have q2 := i23_x4.1; have q3 := i23_x4.2; omega) (by show x29.toInt.toNat = _; have q0 := i_x_0.1; have q1 := i_x_0.2; have q2 := i23_x4.1; have q3 := i23_x4.2; omega) (by show x37.toInt.toNat = _; have q0 := i_x_0.1; have q1 := i_x_0.2; have q2 := i23_x4.1; have q3 := i23_x4.2; omega) (by show x45.toInt.toNat = _; have q0 := i_x_0.1; have q1 := i_x_0.2; have q2 := i23_x4.1; have q3 := i23_x4.2; omega) ), (by have w1 := Int32.lt_iff_toInt_lt.mp (iv_nle c8); have w2 : x57.toInt = x4.toInt + 1 := e_x57; omega)⟩ _ (lv_sub hl [0, 1, 2] rfl)
  exact L_16 _ G2 hM _ _ hB a_h0 h_fl h_fs g3 r_gw h_gw 0 (q_0.wk (by decide)) (Nat.lt_succ_self _) ⟨hO, (by rw [← hgn_g3, show x1.toNatClampNeg = 150 + x_0.toInt.toNat from (by show x1.toInt.toNat = _; have := i_x_0.1; omega)]; exact iv_pw.zero), (by have w1 := i_y12.1; have z0 : (0 : Int32).toInt = 0 := rfl; omega)⟩ _ (lv_sub hl [0, 1, 2] rfl)
set_option maxHeartbeats 4000000 in
set_option maxRecDepth 100000 in
theorem f_X12_putsRings (l : Launch) (D : va_G) (tys : List (ClassId × FieldType)) (base : Nat) (G : iv_G) (h0 : Nat) (g_h0 : Nat → Int32) (r_h0 : Nat → Nat) (a_h0 : G h0 = some (12, g_h0, r_h0)) : Met l yX12_putsRings (Cond.code yX12_putsRings cX12_putsRings 2 (some .int) :: iv_W0) ({ frames := 1, cells := 0, slots := 0, locals := 20 }) (iv_Pc iv_sh D classes tys base G [.ref h0]) (iv_Qi iv_sh D classes tys base (fun v G' => iv_Md [12, 60] G G' ∧ iv_R 0 20 v ∧ (v = g_h0 14))) 0 0 (iv_A base) := by
  refine iv_head (by decide) (Nat.le_of_ble_eq_true rfl) ?_
  intro p e s m args below meth c ls X hr hlocks hname hB hl
  have X := X
  have hx := X.1.1
  have hb := X.1.2.1
  have hM : iv_Md [12, 60] G G := iv_Md.rf
  have hl : lv_has ls 2 [(0, .ref h0)] := hl
  refine lv_aload_n hx hb dX12_putsRings_0 rfl (lv_at hl 0 rfl) ?_
  refine iv_getr X ft_X12 hB a_h0 sh_12 0 (by decide) rfl k_fl_X12_7 dX12_putsRings_1 (fun b1 g_b1 r_b1 e_b1 a_b1 => ?_)
  refine lv_sipush (v := 149) hx hb dX12_putsRings_4 (by decide) ?_
  refine lv_aload_n hx hb dX12_putsRings_7 rfl (lv_at hl 0 rfl) ?_
  refine iv_geti X ft_X12 hB a_h0 sh_12 14 (by decide) rfl k_fl_X12_240 dX12_putsRings_8 (fun x2 e_x2 i_x2 => ?_)
  refine iv_wast_c X hB a_b1 q_149 (by decide) (lo := 0) (hi' := 20) (by decide) i_x2 dX12_putsRings_11 (fun H locs hB => ?_)
  have hB : iv_B iv_sh D classes tys base (iv_up G b1 (60, upd g_b1 149 x2, r_b1)) s.heap H locs := hB
  have hm := iv_Md.put (x := x2) a_b1 (j := 149) (by decide) (fun h => absurd h (by decide))
  have h9 := iv_up_eq (G := G) (a := b1) (k := (60, upd g_b1 149 x2, r_b1))
  generalize iv_up G b1 _ = G3 at hB hm h9
  have hM := hM.stp hm (by decide)
  generalize hgn_g4 : upd g_b1 _ _ = g4 at h9
  have a_h0 := hm.at a_h0 (by decide)
  have a_b1 := h9
  have e5 : x2 = g4 149 := by rw [← hgn_g4]; simp [upd]
  refine lv_iconst (v := 0) hx hb dX12_putsRings_12 (by decide) ?_
  refine lv_istore_n (lv' := [(1, .int 0), (0, .ref h0)]) hx hb dX12_putsRings_13 rfl hl (by decide) rfl (fun ls hl => ?_)
  have L_14 : ∀ (n_14 : Nat) (G9 : iv_G) (hM : iv_Md [12, 60] G G9) (H : Heap) (locs : List Loc) (hB : iv_B iv_sh D classes tys base G9 s.heap H locs) (g7 : Nat → Int32) (r8 : Nat → Nat) (a_h0 : G9 h0 = some (12, g7, r8)) (x6 : Int32) (i_x6 : iv_R 0 60 x6) (hn_14 : (61 - x6.toInt).toNat < n_14) (gi_14 : g7 14 = g_h0 14) (ls : Array Slot) (hl : lv_has ls 2 [(1, .int x6), (0, .ref h0)]), W p l e ({ frames := 1, cells := 0, slots := 0, locals := 20 } : Room) s m args below meth c H locs 0 0 (MQ below (iv_Qi iv_sh D classes tys base (fun v G' => iv_Md [12, 60] G G' ∧ iv_R 0 20 v ∧ (v = g_h0 14))) args s 0 0 (iv_A base)) (F0 m 14 ls []) := by
    intro n_14
    induction n_14 with
    | zero => intro G9 hM H locs hB g7 r8 a_h0 x6 i_x6 hn_14 gi_14 ls hl; exact absurd hn_14 (Nat.not_lt_zero _)
    | succ n_14 ih_14 =>
      intro G9 hM H locs hB g7 r8 a_h0 x6 i_x6 hn_14 gi_14 ls hl
      refine lv_iload_n hx hb dX12_putsRings_14 rfl (lv_at hl 0 rfl) ?_
      refine lv_iconst (v := 3) hx hb dX12_putsRings_15 (by decide) ?_
      refine lv_aload_n hx hb dX12_putsRings_16 rfl (lv_at hl 1 rfl) ?_
      refine iv_geti X ft_X12 hB a_h0 sh_12 14 (by decide) rfl k_fl_X12_240 dX12_putsRings_17 (fun x10 e_x10 i_x10 => ?_)
      refine iv_imul hx hb q_3 i_x10 (lo := 0) (hi := 60) (by decide) dX12_putsRings_20 (fun x11 e_x11 i_x11 => ?_)
      refine lv_icmp_ge (tgt := 46) hx hb dX12_putsRings_21 (by decide) (fun c12 => ?_) (fun c12 => ?_)
      · skip
        refine lv_aload_n hx hb dX12_putsRings_46 rfl (lv_at hl 1 rfl) ?_
        refine iv_cVv X k_good k_mf_X12_forgets k_im_X12_forgets k_sel_X12_forgets k_ml_X12_63 ft_X12 hB a_h0 sh_12 (As := []) (c_X12_forgets l D tys base G9 h0 g7 r8 a_h0) ⟨rfl, rfl⟩ ⟨Nat.le_of_ble_eq_true rfl, Nat.le_of_ble_eq_true rfl⟩ ⟨Nat.le_of_ble_eq_true rfl, Nat.le_of_ble_eq_true rfl⟩ rfl rfl hl.1 (Nat.le_of_ble_eq_true rfl) dX12_putsRings_47 (fun G9 H locs hq hB => ?_)
        have hm := hq
        obtain ⟨G13, hG9⟩ : ∃ g, g = G9 := ⟨_, rfl⟩
        rw [← hG9] at hm hB
        have hM := hM.stp hm (by decide)
        obtain ⟨g14, r15, a_h0, f_g14⟩ := hm.ex a_h0
        refine lv_aload_n hx hb dX12_putsRings_50 rfl (lv_at hl 1 rfl) ?_
        refine iv_geti X ft_X12 hB a_h0 sh_12 14 (by decide) rfl k_fl_X12_240 dX12_putsRings_51 (fun x16 e_x16 i_x16 => ?_)
        exact iv_iret X hr hlocks hB ⟨hM, i_x16, (e_x16.trans ((f_g14.2.1 14 (show (14 : Nat) ∈ iv_stab 12 from by decide)).trans gi_14))⟩ dX12_putsRings_54
      · skip
        have i16_x6 : iv_R 0 59 x6 := (i_x6.cutHi (n := 59) (iv_lt_r (iv_nle c12) i_x11 (by decide)))
        have i17_x11 : iv_R 1 60 x11 := (i_x11.cutLo (n := 1) (iv_lt_l (iv_nle c12) i_x6 (by decide)))
        refine lv_aload_n hx hb dX12_putsRings_24 rfl (lv_at hl 1 rfl) ?_
        refine iv_getr X ft_X12 hB a_h0 sh_12 0 (by decide) rfl k_fl_X12_7 dX12_putsRings_25 (fun b19 g_b19 r_b19 e_b19 a_b19 => ?_)
        refine lv_sipush (v := 206) hx hb dX12_putsRings_28 (by decide) ?_
        refine lv_iload_n hx hb dX12_putsRings_31 rfl (lv_at hl 0 rfl) ?_
        refine iv_iadd hx hb q_206 i16_x6 (lo := 206) (hi := 265) (by decide) dX12_putsRings_32 (fun x20 e_x20 i_x20 => ?_)
        refine lv_aload_n hx hb dX12_putsRings_33 rfl (lv_at hl 1 rfl) ?_
        refine iv_getr X ft_X12 hB a_h0 sh_12 7 (by decide) rfl k_fl_X12_25 dX12_putsRings_34 (fun b21 g_b21 r_b21 e_b21 a_b21 => ?_)
        refine lv_iload_n hx hb dX12_putsRings_37 rfl (lv_at hl 0 rfl) ?_
        refine iv_ald X hB a_b21 sh_65 (iv_in i16_x6 (by decide)) dX12_putsRings_38 (fun x22 e_x22 i_x22 => ?_)
        refine iv_wast_f X hB a_b19 i_x20 (by decide) dX12_putsRings_39 (fun H locs hB => ?_)
        have hm := iv_Md.put (x := x22) a_b19 (j := x20.toNatClampNeg) (iv_n146 i_x20 (by decide)) (fun h => absurd h (by decide))
        have h9 := iv_up_eq (G := G9) (a := b19) (k := (60, upd g_b19 x20.toNatClampNeg x22, r_b19))
        generalize iv_up G9 b19 _ = G23 at hB hm h9
        have hM := hM.stp hm (by decide)
        generalize hgn_g24 : upd g_b19 _ _ = g24 at h9
        have a_h0 := hm.at a_h0 (by decide)
        have a_b19 := h9
        refine iv_iinc hx hb i16_x6 (lo := 1) (hi := 60) (by decide) dX12_putsRings_40 hl (k := 0) rfl (by decide) (fun x25 ls e_x25 i_x25 hl => ?_)
        have hl : lv_has ls 2 [(1, .int x25), (0, .ref h0)] := hl
        refine lv_goto (tgt := 14) hx hb dX12_putsRings_43 (by decide) ?_
        exact ih_14 G23 hM _ _ hB g7 r8 a_h0 x25 (i_x25.wk (by decide)) (iv_mup (c := 1) i_x6 (by decide) (by decide) (by omega) hn_14) gi_14 _ (lv_sub hl [0, 1] rfl)
  exact L_14 _ G3 hM _ _ hB g_h0 r_h0 a_h0 0 (q_0.wk (by decide)) (Nat.lt_succ_self _) rfl _ (lv_sub hl [0, 1] rfl)
set_option maxHeartbeats 4000000 in
set_option maxRecDepth 100000 in
theorem f_X12_text (l : Launch) (D : va_G) (tys : List (ClassId × FieldType)) (base : Nat) (G : iv_G) (h0 : Nat) (g_h0 : Nat → Int32) (r_h0 : Nat → Nat) (a_h0 : G h0 = some (12, g_h0, r_h0)) (x_0 : Int32) (i_x_0 : iv_R (-2147483648) 2147483647 x_0) (gt : Nat → Int32) (rt : Nat → Nat) (ht : G (r_h0 8) = some (66, gt, rt)) (n : Nat) (h15 : (g_h0 15).toInt = (n : Int)) (K V P : Nat → Int) (hR0 : iv_R 0 2 x_0 → tk_R (tk_T gt n) n K V P) (nn0 : Nat) (gw : Nat → Int32) (rw9 : Nat → Nat) (hw : G (r_h0 0) = some (60, gw, rw9)) (hwn : (gw 146).toInt = (nn0 : Int)) : Met l yX12_text (Cond.code yX12_text cX12_text 3 (some .int) :: iv_W0) ({ frames := 1223, cells := 0, slots := 0, locals := 24878 }) (iv_Pc iv_sh D classes tys base G [.ref h0, .int x_0]) (iv_Qi iv_sh D classes tys base (fun v G' => iv_MdX [12, 60, 63, 64, 65] G G' ∧ iv_R (-1) 20 v ∧ (∀ (g' : Nat → Int32) (r' : Nat → Nat), G' h0 = some (12, g', r') → g' 15 = 0) ∧ ((¬ iv_R 0 2 x_0 → v = -1 ∧ ∀ (g' : Nat → Int32) (r' : Nat → Nat), G' h0 = some (12, g', r') → g' 22 = 0 ∧ g' 24 = -1) ∧ (iv_R 0 2 x_0 → (∃ j l : Nat, tk_cf x_0.toInt.toNat nn0 K V j = .fin l ∧ v.toInt = (l : Int) ∧ ∀ (g' : Nat → Int32) (r' : Nat → Nat), G' h0 = some (12, g', r') → g' 22 = 0 ∧ g' 24 = -1) ∨ (∃ i k : Nat, tk_F x_0.toInt.toNat nn0 K V i k ∧ v = -1 ∧ ∀ (g' : Nat → Int32) (r' : Nat → Nat), G' h0 = some (12, g', r') → (g' 22).toInt = (k : Int) ∧ (g' 24).toInt = P i))))) 0 0 (iv_A base) := by
  refine iv_head (by decide) (Nat.le_of_ble_eq_true rfl) ?_
  intro p e s m args below meth c ls X hr hlocks hname hB hl
  have X := X
  have hx := X.1.1
  have hb := X.1.2.1
  have hM : iv_MdX [12, 60, 63, 64, 65] G G := iv_MdX.rf
  have hl : lv_has ls 3 [(0, .ref h0), (1, .int x_0)] := hl
  refine lv_aload_n hx hb dX12_text_0 rfl (lv_at hl 0 rfl) ?_
  refine lv_iconst (v := 0) hx hb dX12_text_1 (by decide) ?_
  refine iv_puti X ft_X12 hB a_h0 sh_12 22 (by decide) rfl rfl k_fl_X12_250 rfl (q_0.wk (by decide)) rfl rfl dX12_text_2 (fun H locs hB => ?_)
  have hm := iv_MdX.put (x := 0) a_h0 (j := 22) (by decide)
  have h9 := iv_up_eq (G := G) (a := h0) (k := (12, upd g_h0 22 0, r_h0))
  generalize iv_up G h0 _ = G1 at hB hm h9
  have hM := hM.stp hm (by decide)
  have hw := hm.at hw (by decide)
  generalize hgn_g2 : upd g_h0 _ _ = g2 at h9
  have a_h0 := h9
  have e9_g2 : 0 = g2 22 := by rw [← hgn_g2]; simp [upd]
  refine lv_aload_n hx hb dX12_text_5 rfl (lv_at hl 0 rfl) ?_
  refine lv_iconst (v := (-1)) hx hb dX12_text_6 (by decide) ?_
  refine iv_puti X ft_X12 hB a_h0 sh_12 24 (by decide) rfl rfl k_fl_X12_37 rfl (q_n1.wk (by decide)) rfl rfl dX12_text_7 (fun H locs hB => ?_)
  have hm := iv_MdX.put (x := (-1)) a_h0 (j := 24) (by decide)
  have h9 := iv_up_eq (G := G1) (a := h0) (k := (12, upd g2 24 (-1), r_h0))
  generalize iv_up G1 h0 _ = G3 at hB hm h9
  have hM := hM.stp hm (by decide)
  have hw := hm.at hw (by decide)
  generalize hgn_g4 : upd g2 _ _ = g4 at h9
  have a_h0 := h9
  have e5 : 0 = g4 22 := by rw [← hgn_g4]; exact e9_g2
  have e9_g4 : (-1) = g4 24 := by rw [← hgn_g4]; simp [upd]
  refine lv_iload_n hx hb dX12_text_10 rfl (lv_at hl 1 rfl) ?_
  refine lv_iconst (v := 0) hx hb dX12_text_11 (by decide) ?_
  refine lv_iconst (v := 2) hx hb dX12_text_12 (by decide) ?_
  refine iv_cSi X k_good k_mf_X12_isIn k_st_X12_isIn k_ml_X12_56 hB (As := [.int x_0, .int 0, .int 2]) (c_X12_isIn l D tys base G3 x_0 i_x_0 0 (q_0.wk (by decide)) 2 (q_2.wk (by decide))) ⟨rfl, rfl⟩ ⟨Nat.le_of_ble_eq_true rfl, Nat.le_of_ble_eq_true rfl⟩ ⟨Nat.le_of_ble_eq_true rfl, Nat.le_of_ble_eq_true rfl⟩ rfl rfl hl.1 (Nat.le_of_ble_eq_true rfl) dX12_text_13 (fun x6 G9 H locs hq hB => ?_)
  obtain ⟨rfl, i_x6, hp7⟩ := hq
  have k8 : ¬ x6 = 0 → iv_R 0 2 x_0 := fun h => ⟨iv_max i_x_0.1 (Int.le_trans q_0.1 (hp7.1 h).1) (by decide), iv_min i_x_0.2 (Int.le_trans (hp7.1 h).2 q_2.2) (by decide)⟩
  refine lv_if_ne (tgt := 26) hx hb dX12_text_16 (by decide) (fun c9 => ?_) (fun c9 => ?_)
  · skip
    have i9_x6 : iv_R 1 1 x6 := iv_ne_lo c9 i_x6 q_0 (by decide)
    have i10_x_0 : iv_R 0 2 x_0 := ((i_x_0.cutLo (n := 0) (k8 c9).1).cutHi (n := 2) (k8 c9).2)
    have hR := hR0 i10_x_0
    have hr39 : x_0.toInt.toNat < 3 := by have w1 := i10_x_0.2; omega
    refine lv_aload_n hx hb dX12_text_26 rfl (lv_at hl 0 rfl) ?_
    refine lv_iconst (v := 0) hx hb dX12_text_27 (by decide) ?_
    refine iv_puti X ft_X12 hB a_h0 sh_12 20 (by decide) rfl rfl k_fl_X12_180 rfl (q_0.wk (by decide)) rfl rfl dX12_text_28 (fun H locs hB => ?_)
    have hm := iv_Md.put (x := 0) a_h0 (j := 20) (by decide) (by decide)
    have h9 := iv_up_eq (G := G3) (a := h0) (k := (12, upd g4 20 0, r_h0))
    generalize iv_up G3 h0 _ = G12 at hB hm h9
    have hM := hM.stp (iv_MdX.ofM hm) (by decide)
    have hw := hm.at hw (by decide)
    generalize hgn_g13 : upd g4 _ _ = g13 at h9
    have a_h0 := h9
    have e14 : 0 = g13 22 := by rw [← hgn_g13]; exact e5
    have e15 : (-1) = g13 24 := by rw [← hgn_g13]; exact e9_g4
    have e9_g13 : 0 = g13 20 := by rw [← hgn_g13]; simp [upd]
    refine lv_aload_n hx hb dX12_text_31 rfl (lv_at hl 0 rfl) ?_
    refine lv_iconst (v := 0) hx hb dX12_text_32 (by decide) ?_
    refine iv_puti X ft_X12 hB a_h0 sh_12 16 (by decide) rfl rfl k_fl_X12_85 rfl (q_0.wk (by decide)) rfl rfl dX12_text_33 (fun H locs hB => ?_)
    have hm := iv_Md.put (x := 0) a_h0 (j := 16) (by decide) (by decide)
    have h9 := iv_up_eq (G := G12) (a := h0) (k := (12, upd g13 16 0, r_h0))
    generalize iv_up G12 h0 _ = G16 at hB hm h9
    have hM := hM.stp (iv_MdX.ofM hm) (by decide)
    have hw := hm.at hw (by decide)
    generalize hgn_g17 : upd g13 _ _ = g17 at h9
    have a_h0 := h9
    have e18 : 0 = g17 22 := by rw [← hgn_g17]; exact e14
    have e19 : (-1) = g17 24 := by rw [← hgn_g17]; exact e15
    have e20 : 0 = g17 20 := by rw [← hgn_g17]; exact e9_g13
    have e9_g17 : 0 = g17 16 := by rw [← hgn_g17]; simp [upd]
    refine lv_aload_n hx hb dX12_text_36 rfl (lv_at hl 0 rfl) ?_
    refine lv_iload_n hx hb dX12_text_37 rfl (lv_at hl 1 rfl) ?_
    refine iv_puti X ft_X12 hB a_h0 sh_12 11 (by decide) rfl rfl k_fl_X12_141 rfl (i10_x_0.wk (by decide)) rfl rfl dX12_text_38 (fun H locs hB => ?_)
    have hm := iv_Md.put (x := x_0) a_h0 (j := 11) (by decide) (by decide)
    have h9 := iv_up_eq (G := G16) (a := h0) (k := (12, upd g17 11 x_0, r_h0))
    generalize iv_up G16 h0 _ = G21 at hB hm h9
    have hM := hM.stp (iv_MdX.ofM hm) (by decide)
    have hw := hm.at hw (by decide)
    generalize hgn_g22 : upd g17 _ _ = g22 at h9
    have a_h0 := h9
    have e23 : 0 = g22 22 := by rw [← hgn_g22]; exact e18
    have e24 : (-1) = g22 24 := by rw [← hgn_g22]; exact e19
    have e25 : 0 = g22 20 := by rw [← hgn_g22]; exact e20
    have e26 : 0 = g22 16 := by rw [← hgn_g22]; exact e9_g17
    have e9_g22 : x_0 = g22 11 := by rw [← hgn_g22]; simp [upd]
    have ME : me h0 (tk_T gt n) n x_0.toInt.toNat 0 G21 := ⟨g22, r_h0, gt, rt, a_h0, hM.at ht (by decide), rfl, by rw [← hgn_g22, ← hgn_g17, ← hgn_g13, ← hgn_g4, ← hgn_g2]; exact h15, by rw [← e9_g22]; have w := i10_x_0.1; omega, by rw [← e26]; exact Int.natCast_nonneg _, Or.inr (by rw [← e26]; exact fun q => absurd q.1 (by decide)), by rw [← e26]; rfl⟩
    have MD : md h0 9 G21 := ⟨g22, r_h0, a_h0, fun q => absurd q (by decide), e23.symm, e24.symm⟩
    refine lv_aload_n hx hb dX12_text_41 rfl (lv_at hl 0 rfl) ?_
    refine iv_cVv X k_good k_mf_X12_next0 k_im_X12_next0 k_sel_X12_next0 k_ml_X12_189 ft_X12 hB a_h0 sh_12 (As := []) (f_X12_next0 l D tys base G21 h0 g22 r_h0 a_h0 (tk_T gt n) n K V P hR x_0.toInt.toNat 0 hr39 ME) ⟨rfl, rfl⟩ ⟨Nat.le_of_ble_eq_true rfl, Nat.le_of_ble_eq_true rfl⟩ ⟨Nat.le_of_ble_eq_true rfl, Nat.le_of_ble_eq_true rfl⟩ rfl rfl hl.1 (Nat.le_of_ble_eq_true rfl) dX12_text_42 (fun G9 H locs hq hB => ?_)
    obtain ⟨hm, xp27, xm⟩ := hq
    obtain ⟨G28, hG9⟩ : ∃ g, g = G9 := ⟨_, rfl⟩
    rw [← hG9] at hm hB xp27 xm
    have hM := hM.stp (iv_MdX.ofM hm) (by decide)
    have hw := hm.at hw (by decide)
    obtain ⟨g29, r30, a_h0, f_g29⟩ := hm.ex a_h0
    have hJn := (xp27 _ _ a_h0).2
    have RS : mw h0 (tk_T gt n) n K V P x_0.toInt.toNat 9 0 G28 := ⟨xm, MD.keep hm⟩
    have hw28 : G28 (r30 0) = some (60, gw, rw9) := by
      have e : r30 0 = r_h0 0 := f_g29.1 0 (fun h => absurd (show (12 : Nat) = 5 from h) (by decide))
      rw [e]
      exact hw
    refine lv_iload_n hx hb dX12_text_45 rfl (lv_at hl 1 rfl) ?_
    refine lv_if_ne (tgt := 56) hx hb dX12_text_46 (by decide) (fun c31 => ?_) (fun c31 => ?_)
    · skip
      have i31_x_0 : iv_R 1 2 x_0 := iv_ne_lo c31 i10_x_0 q_0 (by decide)
      refine lv_aload_n hx hb dX12_text_56 rfl (lv_at hl 0 rfl) ?_
      refine iv_cVi X k_good k_mf_X12_readsLaw k_im_X12_readsLaw k_sel_X12_readsLaw k_ml_X12_256 ft_X12 hB a_h0 sh_12 (As := []) (f_X12_readsLaw l D tys base G28 h0 g29 r30 a_h0 hJn (tk_T gt n) n K V P hR x_0.toInt.toNat hr39 9 0 RS (by have w1 := i31_x_0.1; have w2 := i31_x_0.2; omega) nn0 (if_neg (by have w1 := i31_x_0.1; omega))) ⟨rfl, rfl⟩ ⟨Nat.le_of_ble_eq_true rfl, Nat.le_of_ble_eq_true rfl⟩ ⟨Nat.le_of_ble_eq_true rfl, Nat.le_of_ble_eq_true rfl⟩ rfl rfl hl.1 (Nat.le_of_ble_eq_true rfl) dX12_text_57 (fun x33 G9 H locs hq hB => ?_)
      obtain ⟨hm, i_x33, xp34, xm⟩ := hq
      obtain ⟨G35, hG9⟩ : ∃ g, g = G9 := ⟨_, rfl⟩
      rw [← hG9] at hm hB xp34 xm
      have hM := hM.stp (iv_MdX.of hm) (by decide)
      obtain ⟨g36, r37, a_h0, f_g36⟩ := hm.ex a_h0
      have xmr := xm
      have a_h36 := a_h0
      refine lv_istore_n (lv' := [(2, .int x33), (0, .ref h0), (1, .int x_0)]) hx hb dX12_text_60 rfl hl (by decide) rfl (fun ls hl => ?_)
      refine lv_aload_n hx hb dX12_text_61 rfl (lv_at hl 1 rfl) ?_
      refine lv_iconst (v := 0) hx hb dX12_text_62 (by decide) ?_
      have hF := fun h => iv_FL.put (x := 0) (xp34 h) a_h0 (j := 15) (by decide)
      refine iv_puti X ft_X12 hB a_h0 sh_12 15 (by decide) rfl rfl k_fl_X12_82 rfl (q_0.wk (by decide)) rfl rfl dX12_text_63 (fun H locs hB => ?_)
      have hm := iv_MdT.put (x := 0) a_h0 (j := 15) (by decide)
      have h9 := iv_up_eq (G := G35) (a := h0) (k := (12, upd g36 15 0, r37))
      generalize iv_up G35 h0 _ = G38 at hB hm h9 hF
      have hM := hM.stp (iv_MdX.of hm) (by decide)
      generalize hgn_g39 : upd g36 _ _ = g39 at h9
      have a_h0 := h9
      have e9_g39 : 0 = g39 15 := by rw [← hgn_g39]; simp [upd]
      refine lv_iload_n hx hb dX12_text_66 rfl (lv_at hl 0 rfl) ?_
      refine lv_if_eq (tgt := 89) hx hb dX12_text_67 (by decide) (fun c40 => ?_) (fun c40 => ?_)
      · skip
        have i40_x33 : iv_R 0 0 x33 := (i_x33.cutHi (n := 0) (iv_eq_r c40 q_0).2)
        refine lv_aload_n hx hb dX12_text_89 rfl (lv_at hl 1 rfl) ?_
        refine lv_aload_n hx hb dX12_text_90 rfl (lv_at hl 1 rfl) ?_
        refine iv_geti X ft_X12 hB a_h0 sh_12 20 (by decide) rfl k_fl_X12_180 dX12_text_91 (fun x42 e_x42 i_x42 => ?_)
        refine iv_puti X ft_X12 hB a_h0 sh_12 22 (by decide) rfl rfl k_fl_X12_250 rfl i_x42 rfl rfl dX12_text_94 (fun H locs hB => ?_)
        have hm := iv_MdX.put (x := x42) a_h0 (j := 22) (by decide)
        have h9 := iv_up_eq (G := G38) (a := h0) (k := (12, upd g39 22 x42, r37))
        generalize iv_up G38 h0 _ = G43 at hB hm h9
        have hM := hM.stp hm (by decide)
        generalize hgn_g44 : upd g39 _ _ = g44 at h9
        have a_h0 := h9
        have e45 : 0 = g44 15 := by rw [← hgn_g44]; exact e9_g39
        have e46 : x42 = g44 20 := by rw [← hgn_g44]; exact e_x42
        have e9_g44 : x42 = g44 22 := by rw [← hgn_g44]; simp [upd]
        refine lv_aload_n hx hb dX12_text_97 rfl (lv_at hl 1 rfl) ?_
        refine lv_aload_n hx hb dX12_text_98 rfl (lv_at hl 1 rfl) ?_
        refine iv_geti X ft_X12 hB a_h0 sh_12 21 (by decide) rfl k_fl_X12_183 dX12_text_99 (fun x47 e_x47 i_x47 => ?_)
        have MT : ∃ i k : Nat, tk_F x_0.toInt.toNat nn0 K V i k ∧ x42.toInt = (k : Int) ∧ x47.toInt = P i := by
          obtain ⟨i, k, h1, g8, r8, w1, w2, w3⟩ := xmr.2 c40
          cases a_h36.symm.trans w1
          exact ⟨i, k, h1, by rw [e_x42, ← hgn_g39]; exact w2, by rw [e_x47, ← hgn_g44, ← hgn_g39]; exact w3⟩
        refine iv_puti X ft_X12 hB a_h0 sh_12 24 (by decide) rfl rfl k_fl_X12_37 rfl i_x47 rfl rfl dX12_text_102 (fun H locs hB => ?_)
        have hm := iv_MdX.put (x := x47) a_h0 (j := 24) (by decide)
        have h9 := iv_up_eq (G := G43) (a := h0) (k := (12, upd g44 24 x47, r37))
        generalize iv_up G43 h0 _ = G48 at hB hm h9
        have hM := hM.stp hm (by decide)
        generalize hgn_g49 : upd g44 _ _ = g49 at h9
        have a_h0 := h9
        have e50 : 0 = g49 15 := by rw [← hgn_g49]; exact e45
        have e51 : x42 = g49 20 := by rw [← hgn_g49]; exact e46
        have e52 : x42 = g49 22 := by rw [← hgn_g49]; exact e9_g44
        have e53 : x47 = g49 21 := by rw [← hgn_g49]; exact e_x47
        have e9_g49 : x47 = g49 24 := by rw [← hgn_g49]; simp [upd]
        refine lv_iconst (v := (-1)) hx hb dX12_text_105 (by decide) ?_
        exact iv_iret X hr hlocks hB ⟨hM, (q_n1.wk (by decide)), fun g9 r9 h9 => by have h8 := a_h0.symm.trans h9; cases h8; exact e50.symm, (⟨fun h => absurd i10_x_0 h, fun _ => Or.inr (by obtain ⟨i, k, h1, h2⟩ := MT; exact ⟨i, k, h1, rfl, fun g8 r8 h8 => by cases a_h0.symm.trans h8; exact ⟨by rw [← e52]; exact h2.1, by rw [← e9_g49]; exact h2.2⟩⟩)⟩)⟩ dX12_text_106
      · skip
        have i53_x33 : iv_R 1 1 x33 := iv_ne_lo c40 i_x33 q_0 (by decide)
        refine lv_iload_n hx hb dX12_text_70 rfl (lv_at hl 2 rfl) ?_
        refine lv_if_ne (tgt := 81) hx hb dX12_text_71 (by decide) (fun c55 => ?_) (fun c55 => ?_)
        · skip
          refine lv_aload_n hx hb dX12_text_81 rfl (lv_at hl 1 rfl) ?_
          refine lv_iload_n hx hb dX12_text_82 rfl (lv_at hl 2 rfl) ?_
          refine lv_iconst (v := 1) hx hb dX12_text_83 (by decide) ?_
          refine iv_isub hx hb i31_x_0 q_1 (lo := 0) (hi := 1) (by decide) dX12_text_84 (fun x56 e_x56 i_x56 => ?_)
          refine iv_cVi X k_good k_mf_X12_putsLaw k_im_X12_putsLaw k_sel_X12_putsLaw k_ml_X12_262 ft_X12 hB a_h0 sh_12 (As := [.int x56]) (f_X12_putsLaw l D tys base G38 h0 g39 r37 a_h0 x56 i_x56 (hF c40)) ⟨rfl, rfl⟩ ⟨Nat.le_of_ble_eq_true rfl, Nat.le_of_ble_eq_true rfl⟩ ⟨Nat.le_of_ble_eq_true rfl, Nat.le_of_ble_eq_true rfl⟩ rfl rfl hl.1 (Nat.le_of_ble_eq_true rfl) dX12_text_85 (fun x57 G9 H locs hq hB => ?_)
          obtain ⟨hm, i_x57, xm⟩ := hq
          obtain ⟨G58, hG9⟩ : ∃ g, g = G9 := ⟨_, rfl⟩
          rw [← hG9] at hm hB
          have hM := hM.stp (iv_MdX.of hm) (by decide)
          have a_h0 := hm.at a_h0 (by decide)
          exact iv_iret X hr hlocks hB ⟨hM, (i_x57.wk (by decide)), fun g9 r9 h9 => by have h8 := a_h0.symm.trans h9; cases h8; exact e9_g39.symm, (⟨fun h => absurd i10_x_0 h, fun _ => Or.inl (by obtain ⟨j, l9, h1, h2⟩ := xmr.1 c40; exact ⟨j, l9, h1, by rw [xm, ← hgn_g39]; exact (h2 _ _ a_h36).1, fun g8 r8 h8 => by cases a_h0.symm.trans h8; rw [← hgn_g39]; exact (h2 _ _ a_h36).2⟩)⟩)⟩ dX12_text_88
        · skip
          exact absurd c55 c31
    · skip
      have i58_x_0 : iv_R 0 0 x_0 := (i10_x_0.cutHi (n := 0) (iv_eq_r c31 q_0).2)
      refine lv_aload_n hx hb dX12_text_49 rfl (lv_at hl 0 rfl) ?_
      refine iv_cVi X k_good k_mf_X12_readsRings k_im_X12_readsRings k_sel_X12_readsRings k_ml_X12_253 ft_X12 hB a_h0 sh_12 (As := []) (f_X12_readsRings l D tys base G28 h0 g29 r30 a_h0 hJn (tk_T gt n) n K V P hR x_0.toInt.toNat hr39 9 0 RS nn0 gw rw9 hw28 hwn (if_pos (by have w1 := i58_x_0.1; have w2 := i58_x_0.2; omega))) ⟨rfl, rfl⟩ ⟨Nat.le_of_ble_eq_true rfl, Nat.le_of_ble_eq_true rfl⟩ ⟨Nat.le_of_ble_eq_true rfl, Nat.le_of_ble_eq_true rfl⟩ rfl rfl hl.1 (Nat.le_of_ble_eq_true rfl) dX12_text_50 (fun x60 G9 H locs hq hB => ?_)
      obtain ⟨hm, i_x60, xm⟩ := hq
      obtain ⟨G61, hG9⟩ : ∃ g, g = G9 := ⟨_, rfl⟩
      rw [← hG9] at hm hB xm
      have hM := hM.stp (iv_MdX.of hm) (by decide)
      obtain ⟨g62, r63, a_h0, f_g62⟩ := hm.ex a_h0
      have xmr := xm
      have a_h62 := a_h0
      refine lv_goto (tgt := 60) hx hb dX12_text_53 (by decide) ?_
      refine lv_istore_n (lv' := [(2, .int x60), (0, .ref h0), (1, .int x_0)]) hx hb dX12_text_60 rfl hl (by decide) rfl (fun ls hl => ?_)
      refine lv_aload_n hx hb dX12_text_61 rfl (lv_at hl 1 rfl) ?_
      refine lv_iconst (v := 0) hx hb dX12_text_62 (by decide) ?_
      refine iv_puti X ft_X12 hB a_h0 sh_12 15 (by decide) rfl rfl k_fl_X12_82 rfl (q_0.wk (by decide)) rfl rfl dX12_text_63 (fun H locs hB => ?_)
      have hm := iv_MdT.put (x := 0) a_h0 (j := 15) (by decide)
      have h9 := iv_up_eq (G := G61) (a := h0) (k := (12, upd g62 15 0, r63))
      generalize iv_up G61 h0 _ = G64 at hB hm h9
      have hM := hM.stp (iv_MdX.of hm) (by decide)
      generalize hgn_g65 : upd g62 _ _ = g65 at h9
      have a_h0 := h9
      have e9_g65 : 0 = g65 15 := by rw [← hgn_g65]; simp [upd]
      refine lv_iload_n hx hb dX12_text_66 rfl (lv_at hl 0 rfl) ?_
      refine lv_if_eq (tgt := 89) hx hb dX12_text_67 (by decide) (fun c66 => ?_) (fun c66 => ?_)
      · skip
        have i66_x60 : iv_R 0 0 x60 := (i_x60.cutHi (n := 0) (iv_eq_r c66 q_0).2)
        refine lv_aload_n hx hb dX12_text_89 rfl (lv_at hl 1 rfl) ?_
        refine lv_aload_n hx hb dX12_text_90 rfl (lv_at hl 1 rfl) ?_
        refine iv_geti X ft_X12 hB a_h0 sh_12 20 (by decide) rfl k_fl_X12_180 dX12_text_91 (fun x68 e_x68 i_x68 => ?_)
        refine iv_puti X ft_X12 hB a_h0 sh_12 22 (by decide) rfl rfl k_fl_X12_250 rfl i_x68 rfl rfl dX12_text_94 (fun H locs hB => ?_)
        have hm := iv_MdX.put (x := x68) a_h0 (j := 22) (by decide)
        have h9 := iv_up_eq (G := G64) (a := h0) (k := (12, upd g65 22 x68, r63))
        generalize iv_up G64 h0 _ = G69 at hB hm h9
        have hM := hM.stp hm (by decide)
        generalize hgn_g70 : upd g65 _ _ = g70 at h9
        have a_h0 := h9
        have e71 : 0 = g70 15 := by rw [← hgn_g70]; exact e9_g65
        have e72 : x68 = g70 20 := by rw [← hgn_g70]; exact e_x68
        have e9_g70 : x68 = g70 22 := by rw [← hgn_g70]; simp [upd]
        refine lv_aload_n hx hb dX12_text_97 rfl (lv_at hl 1 rfl) ?_
        refine lv_aload_n hx hb dX12_text_98 rfl (lv_at hl 1 rfl) ?_
        refine iv_geti X ft_X12 hB a_h0 sh_12 21 (by decide) rfl k_fl_X12_183 dX12_text_99 (fun x73 e_x73 i_x73 => ?_)
        have MT : ∃ i k : Nat, tk_F x_0.toInt.toNat nn0 K V i k ∧ x68.toInt = (k : Int) ∧ x73.toInt = P i := by
          obtain ⟨i, k, h1, g8, r8, w1, w2, w3⟩ := xmr.2 c66
          cases a_h62.symm.trans w1
          exact ⟨i, k, h1, by rw [e_x68, ← hgn_g65]; exact w2, by rw [e_x73, ← hgn_g70, ← hgn_g65]; exact w3⟩
        refine iv_puti X ft_X12 hB a_h0 sh_12 24 (by decide) rfl rfl k_fl_X12_37 rfl i_x73 rfl rfl dX12_text_102 (fun H locs hB => ?_)
        have hm := iv_MdX.put (x := x73) a_h0 (j := 24) (by decide)
        have h9 := iv_up_eq (G := G69) (a := h0) (k := (12, upd g70 24 x73, r63))
        generalize iv_up G69 h0 _ = G74 at hB hm h9
        have hM := hM.stp hm (by decide)
        generalize hgn_g75 : upd g70 _ _ = g75 at h9
        have a_h0 := h9
        have e76 : 0 = g75 15 := by rw [← hgn_g75]; exact e71
        have e77 : x68 = g75 20 := by rw [← hgn_g75]; exact e72
        have e78 : x68 = g75 22 := by rw [← hgn_g75]; exact e9_g70
        have e79 : x73 = g75 21 := by rw [← hgn_g75]; exact e_x73
        have e9_g75 : x73 = g75 24 := by rw [← hgn_g75]; simp [upd]
        refine lv_iconst (v := (-1)) hx hb dX12_text_105 (by decide) ?_
        exact iv_iret X hr hlocks hB ⟨hM, (q_n1.wk (by decide)), fun g9 r9 h9 => by have h8 := a_h0.symm.trans h9; cases h8; exact e76.symm, (⟨fun h => absurd i10_x_0 h, fun _ => Or.inr (by obtain ⟨i, k, h1, h2⟩ := MT; exact ⟨i, k, h1, rfl, fun g8 r8 h8 => by cases a_h0.symm.trans h8; exact ⟨by rw [← e78]; exact h2.1, by rw [← e9_g75]; exact h2.2⟩⟩)⟩)⟩ dX12_text_106
      · skip
        have i79_x60 : iv_R 1 1 x60 := iv_ne_lo c66 i_x60 q_0 (by decide)
        refine lv_iload_n hx hb dX12_text_70 rfl (lv_at hl 2 rfl) ?_
        refine lv_if_ne (tgt := 81) hx hb dX12_text_71 (by decide) (fun c81 => ?_) (fun c81 => ?_)
        · skip
          exact (iv_ne_lo c81 i58_x_0 q_0 (a' := 1) (by decide)).no (by decide)
        · skip
          refine lv_aload_n hx hb dX12_text_74 rfl (lv_at hl 1 rfl) ?_
          refine iv_cVi X k_good k_mf_X12_putsRings k_im_X12_putsRings k_sel_X12_putsRings k_ml_X12_259 ft_X12 hB a_h0 sh_12 (As := []) (f_X12_putsRings l D tys base G64 h0 g65 r63 a_h0) ⟨rfl, rfl⟩ ⟨Nat.le_of_ble_eq_true rfl, Nat.le_of_ble_eq_true rfl⟩ ⟨Nat.le_of_ble_eq_true rfl, Nat.le_of_ble_eq_true rfl⟩ rfl rfl hl.1 (Nat.le_of_ble_eq_true rfl) dX12_text_75 (fun x82 G9 H locs hq hB => ?_)
          obtain ⟨hm, i_x82, xm⟩ := hq
          obtain ⟨G83, hG9⟩ : ∃ g, g = G9 := ⟨_, rfl⟩
          rw [← hG9] at hm hB
          have hM := hM.stp (iv_MdX.ofM hm) (by decide)
          obtain ⟨g84, r85, a_h0, f_g84⟩ := hm.ex a_h0
          have e86 : 0 = g84 15 := e9_g65.trans (f_g84.2.1 15 (show (15 : Nat) ∈ iv_stab 12 from by decide)).symm
          refine lv_goto (tgt := 88) hx hb dX12_text_78 (by decide) ?_
          exact iv_iret X hr hlocks hB ⟨hM, (i_x82.wk (by decide)), fun g9 r9 h9 => by have h8 := a_h0.symm.trans h9; cases h8; exact e86.symm, (⟨fun h => absurd i10_x_0 h, fun _ => Or.inl (by obtain ⟨j, l9, h1, h2⟩ := xmr.1 c66; exact ⟨j, l9, h1, by rw [xm, ← hgn_g65]; exact (h2 _ _ a_h62).1, fun g8 r8 h8 => by cases a_h0.symm.trans h8; exact ⟨(f_g84.2.1 22 (show (22 : Nat) ∈ iv_stab 12 from by decide)).trans (by rw [← hgn_g65]; exact (h2 _ _ a_h62).2.1), (f_g84.2.1 24 (show (24 : Nat) ∈ iv_stab 12 from by decide)).trans (by rw [← hgn_g65]; exact (h2 _ _ a_h62).2.2)⟩⟩)⟩)⟩ dX12_text_88
  · skip
    have i86_x6 : iv_R 0 0 x6 := (i_x6.cutHi (n := 0) (iv_eq_r c9 q_0).2)
    refine lv_aload_n hx hb dX12_text_19 rfl (lv_at hl 0 rfl) ?_
    refine lv_iconst (v := 0) hx hb dX12_text_20 (by decide) ?_
    refine iv_puti X ft_X12 hB a_h0 sh_12 15 (by decide) rfl rfl k_fl_X12_82 rfl (q_0.wk (by decide)) rfl rfl dX12_text_21 (fun H locs hB => ?_)
    have hm := iv_MdT.put (x := 0) a_h0 (j := 15) (by decide)
    have h9 := iv_up_eq (G := G3) (a := h0) (k := (12, upd g4 15 0, r_h0))
    generalize iv_up G3 h0 _ = G88 at hB hm h9
    have hM := hM.stp (iv_MdX.of hm) (by decide)
    generalize hgn_g89 : upd g4 _ _ = g89 at h9
    have a_h0 := h9
    have e90 : 0 = g89 22 := by rw [← hgn_g89]; exact e5
    have e91 : (-1) = g89 24 := by rw [← hgn_g89]; exact e9_g4
    have e9_g89 : 0 = g89 15 := by rw [← hgn_g89]; simp [upd]
    refine lv_iconst (v := (-1)) hx hb dX12_text_24 (by decide) ?_
    exact iv_iret X hr hlocks hB ⟨hM, (q_n1.wk (by decide)), fun g9 r9 h9 => by have h8 := a_h0.symm.trans h9; cases h8; exact e9_g89.symm, (⟨fun _ => ⟨rfl, fun g8 r8 h8 => by cases a_h0.symm.trans h8; exact ⟨e90.symm, e91.symm⟩⟩, fun h => absurd h (fun h => by have w := hp7.2 c9; have w1 := h.1; have w2 := h.2; have z0 : (0 : Int32).toInt = 0 := rfl; have z2 : (2 : Int32).toInt = 2 := rfl; omega)⟩)⟩ dX12_text_25
