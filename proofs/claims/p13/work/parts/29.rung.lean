def iv_se (gw gw' : Nat → Int32) (b : Int32) : Prop := ∀ k : Nat, (146 ≤ k ∨ k = 66 + 8 * b.toInt.toNat + 6) → gw' k = gw k
theorem iv_se.sd0 {gw gw' : Nat → Int32} {b n : Int32} (h : iv_se gw gw' b) (h1 : iv_sd0 gw' b n) : iv_sd0 gw b n := by
  intro k hk hlt hs
  refine h1 k hk hlt ⟨(h _ (Or.inr rfl)).trans hs.1, ?_⟩
  obtain ⟨i, h2, h3, h4⟩ := hs.2
  refine ⟨i, by rw [h 149 (Or.inl (by omega))]; exact h2, by rw [h (206 + 3 * i) (Or.inl (by omega))]; exact h3, ?_⟩
  show (k + 24 - gw' (207 + 3 * i)).toInt.tmod 24 < (gw' (208 + 3 * i)).toInt
  rw [h (207 + 3 * i) (Or.inl (by omega)), h (208 + 3 * i) (Or.inl (by omega))]
  exact h4
set_option maxHeartbeats 4000000 in
set_option maxRecDepth 100000 in
theorem e_X12_bells (l : Launch) (D : va_G) (tys : List (ClassId × FieldType)) (base : Nat) (G : iv_G) (h0 : Nat) (g_h0 : Nat → Int32) (r_h0 : Nat → Nat) (a_h0 : G h0 = some (12, g_h0, r_h0)) (x_0 : Int32) (i_x_0 : iv_R 0 9 x_0) (x_1 : Int32) (i_x_1 : iv_R 0 7 x_1) (x_2 : Int32) (i_x_2 : iv_R (-2147483648) 2147483647 x_2) (p0_x_2 : x_1 = 0 → iv_R 0 3 x_2) (p1_x_2 : x_1 = 1 → iv_R 0 47 x_2) (gw : Nat → Int32) (rw : Nat → Nat) (hw : G (r_h0 0) = some (60, gw, rw)) : Met l yX12_bells (Cond.code yX12_bells cX12_bells 4 none :: iv_W0) ({ frames := 0, cells := 0, slots := 0, locals := 0 }) (iv_Pc iv_sh D classes tys base G [.ref h0, .int x_0, .int x_1, .int x_2]) (iv_Qv iv_sh D classes tys base (fun G' => iv_Md [60] G G' ∧ G' (r_h0 0) = some (60, upd gw (66 + 8 * x_0.toInt.toNat + x_1.toInt.toNat) x_2, rw))) 0 0 (iv_A base) := by
  refine iv_head (by decide) (Nat.le_of_ble_eq_true rfl) ?_
  intro p e s m args below meth c ls X hr hlocks hname hB hl
  have X := X
  have hx := X.1.1
  have hb := X.1.2.1
  have hM : iv_Md [60] G G := iv_Md.rf
  have hl : lv_has ls 4 [(0, .ref h0), (1, .int x_0), (2, .int x_1), (3, .int x_2)] := hl
  refine lv_aload_n hx hb dX12_bells_0 rfl (lv_at hl 0 rfl) ?_
  refine iv_getr X ft_X12 hB a_h0 sh_12 0 (by decide) rfl k_fl_X12_7 dX12_bells_1 (fun b1 g_b1 r_b1 e_b1 a_b1 => ?_)
  refine lv_bipush (v := 66) hx hb dX12_bells_4 (by decide) ?_
  refine lv_bipush (v := 8) hx hb dX12_bells_6 (by decide) ?_
  refine lv_iload_n hx hb dX12_bells_8 rfl (lv_at hl 1 rfl) ?_
  refine iv_imul hx hb q_8 i_x_0 (lo := 0) (hi := 72) (by decide) dX12_bells_9 (fun x2 e_x2 i_x2 => ?_)
  refine iv_iadd hx hb q_66 i_x2 (lo := 66) (hi := 138) (by decide) dX12_bells_10 (fun x3 e_x3 i_x3 => ?_)
  refine lv_iload_n hx hb dX12_bells_11 rfl (lv_at hl 2 rfl) ?_
  refine iv_iadd hx hb i_x3 i_x_1 (lo := 66) (hi := 145) (by decide) dX12_bells_12 (fun x4 e_x4 i_x4 => ?_)
  refine lv_iload_n hx hb dX12_bells_13 rfl (lv_at hl 3 rfl) ?_
  have hg0 : g_b1 = gw := iv_samew hw e_b1 a_b1
  have hr9 : r_b1 = rw := by have w1 := hw.symm.trans (e_b1 ▸ a_b1); cases w1; rfl
  refine iv_astP X hB a_b1 sh_60 (iv_in i_x4 (by decide)) (fun h => (by have w1 := i_x_0.1; have w2 := i_x_0.2; have w3 := i_x_1.1; have w4 := i_x_1.2; have w5 : x2.toInt = 8 * x_0.toInt := e_x2; have w6 : x3.toInt = 66 + x2.toInt := e_x3; have w7 : x4.toNatClampNeg = x4.toInt.toNat := rfl; have w8 := iv_bellb (idx := x4.toNatClampNeg) (b := x_0.toInt) (f := x_1.toInt) (by omega) ⟨w1, w2⟩ ⟨w3, w4⟩; refine h.up (by omega) (by omega) (by omega) ?_; rw [w8]; split; exact p0_x_2 (Int32.toInt_inj.mp (by rw [Int32.toInt_zero]; assumption)); split; exact p1_x_2 (Int32.toInt_inj.mp (by assumption)); exact iv_R.all _)) dX12_bells_14 (fun H locs hB => ?_)
  have hm := iv_Md.put (x := x_2) a_b1 (j := x4.toNatClampNeg) (iv_n146 i_x4 (by decide)) (fun h => absurd h (by decide))
  have h9 := iv_up_eq (G := G) (a := b1) (k := (60, upd g_b1 x4.toNatClampNeg x_2, r_b1))
  generalize iv_up G b1 _ = G5 at hB hm h9
  have hM := hM.stp hm (by decide)
  generalize hgn_g6 : upd g_b1 _ _ = g6 at h9
  have a_h0 := hm.at a_h0 (by decide)
  have a_b1 := h9
  have hix : x4.toNatClampNeg = 66 + 8 * x_0.toInt.toNat + x_1.toInt.toNat := by have w1 := i_x_0.1; have w3 := i_x_1.1; have w5 : x2.toInt = 8 * x_0.toInt := e_x2; have w6 : x3.toInt = 66 + x2.toInt := e_x3; have w7 : x4.toInt = x3.toInt + x_1.toInt := e_x4; show x4.toInt.toNat = _; omega
  exact iv_vret X hr hlocks hB ⟨hM, by rw [← e_b1, h9, ← hgn_g6, hix, hg0, hr9]⟩ dX12_bells_15
set_option maxHeartbeats 4000000 in
set_option maxRecDepth 100000 in
theorem e_X12_draw (l : Launch) (D : va_G) (tys : List (ClassId × FieldType)) (base : Nat) (G : iv_G) (h0 : Nat) (g_h0 : Nat → Int32) (r_h0 : Nat → Nat) (a_h0 : G h0 = some (12, g_h0, r_h0)) (x_0 : Int32) (i_x_0 : iv_R 1000 1000 x_0) (gw : Nat → Int32) (rw : Nat → Nat) (hw : G (r_h0 0) = some (60, gw, rw)) : Met l yX12_draw (Cond.code yX12_draw cX12_draw 2 (some .int) :: iv_W0) ({ frames := 0, cells := 0, slots := 0, locals := 0 }) (iv_Pc iv_sh D classes tys base G [.ref h0, .int x_0]) (iv_Qi iv_sh D classes tys base (fun v G' => (iv_Md [60] G G' ∧ ∃ z, G' (r_h0 0) = some (60, upd gw 2 z, rw)) ∧ iv_R (-999) 999 v)) 0 0 (iv_A base) := by
  refine iv_head (by decide) (Nat.le_of_ble_eq_true rfl) ?_
  intro p e s m args below meth c ls X hr hlocks hname hB hl
  have X := X
  have hx := X.1.1
  have hb := X.1.2.1
  have hM : iv_Md [60] G G := iv_Md.rf
  have hl : lv_has ls 2 [(0, .ref h0), (1, .int x_0)] := hl
  refine lv_aload_n hx hb dX12_draw_0 rfl (lv_at hl 0 rfl) ?_
  refine iv_getr X ft_X12 hB a_h0 sh_12 0 (by decide) rfl k_fl_X12_7 dX12_draw_1 (fun b1 g_b1 r_b1 e_b1 a_b1 => ?_)
  refine lv_iconst (v := 2) hx hb dX12_draw_4 (by decide) ?_
  refine lv_ldc (v := 1664525) hx hb X.1.2.2.2.1 (X.1.2.2.2.2 _ k_ct_X12_66) dX12_draw_5 ?_
  refine lv_aload_n hx hb dX12_draw_7 rfl (lv_at hl 0 rfl) ?_
  refine iv_getr0 X ft_X12 hB a_h0 sh_12 0 (by decide) rfl k_fl_X12_7 dX12_draw_8 e_b1 ?_
  refine lv_iconst (v := 2) hx hb dX12_draw_11 (by decide) ?_
  refine iv_wald_c X hB a_b1 q_2 (by decide) (lo := (-2147483648)) (hi' := 2147483647) (by decide) dX12_draw_12 (fun x2 e_x2 i_x2 => ?_)
  refine lv_imul hx hb dX12_draw_13 ?_
  refine lv_topi (fun x3 e_x3 => ?_)
  have i_x3 := iv_R.all x3
  refine lv_ldc (v := 1013904223) hx hb X.1.2.2.2.1 (X.1.2.2.2.2 _ k_ct_X12_67) dX12_draw_14 ?_
  refine lv_iadd hx hb dX12_draw_16 ?_
  refine lv_topi (fun x4 e_x4 => ?_)
  have i_x4 := iv_R.all x4
  have hg0 : g_b1 = gw := iv_samew hw e_b1 a_b1
  have hr9 : r_b1 = rw := by have w1 := hw.symm.trans (e_b1 ▸ a_b1); cases w1; rfl
  refine iv_wast_c X hB a_b1 q_2 (by decide) (lo := (-2147483648)) (hi' := 2147483647) (by decide) i_x4 dX12_draw_17 (fun H locs hB => ?_)
  have hB : iv_B iv_sh D classes tys base (iv_up G b1 (60, upd g_b1 2 x4, r_b1)) s.heap H locs := hB
  have hm := iv_Md.put (x := x4) a_b1 (j := 2) (by decide) (fun h => absurd h (by decide))
  have h9 := iv_up_eq (G := G) (a := b1) (k := (60, upd g_b1 2 x4, r_b1))
  generalize iv_up G b1 _ = G5 at hB hm h9
  have hM := hM.stp hm (by decide)
  generalize hgn_g6 : upd g_b1 _ _ = g6 at h9
  have a_h0 := hm.at a_h0 (by decide)
  have a_b1 := h9
  have e7 : x4 = g6 2 := by rw [← hgn_g6]; simp [upd]
  refine lv_aload_n hx hb dX12_draw_18 rfl (lv_at hl 0 rfl) ?_
  refine iv_getr0 X ft_X12 hB a_h0 sh_12 0 (by decide) rfl k_fl_X12_7 dX12_draw_19 e_b1 ?_
  refine lv_iconst (v := 2) hx hb dX12_draw_22 (by decide) ?_
  refine iv_wald_c X hB a_b1 q_2 (by decide) (lo := (-2147483648)) (hi' := 2147483647) (by decide) dX12_draw_23 (fun x8 e_x8 k_x8 => ?_)
  obtain rfl : x4 = x8 := e7.trans e_x8.symm
  refine lv_bipush (v := 8) hx hb dX12_draw_24 (by decide) ?_
  refine lv_iushr hx hb dX12_draw_26 rfl ?_
  refine lv_topi (fun x9 e_x9 => ?_)
  have i_x9 := iv_R.all x9
  refine lv_iload_n hx hb dX12_draw_27 rfl (lv_at hl 1 rfl) ?_
  refine iv_irem hx hb i_x9 i_x_0 (lo := (-999)) (hi := 999) (by decide) dX12_draw_28 (fun x10 e_x10 i_x10 => ?_)
  exact iv_iret X hr hlocks hB ⟨⟨hM, x4, by rw [← e_b1, h9, ← hgn_g6, hg0, hr9]⟩, i_x10⟩ dX12_draw_29
theorem dX12_comesOne_0 : decode cX12_comesOne 0 = .ok (.aload_n 0, 1) := by decide +kernel
theorem dX12_comesOne_1 : decode cX12_comesOne 1 = .ok (.getfield 7, 3) := by decide +kernel
theorem dX12_comesOne_4 : decode cX12_comesOne 4 = .ok (.iconst 4, 1) := by decide +kernel
theorem dX12_comesOne_5 : decode cX12_comesOne 5 = .ok (.iaload, 1) := by decide +kernel
theorem dX12_comesOne_6 : decode cX12_comesOne 6 = .ok (.bipush 20, 2) := by decide +kernel
theorem dX12_comesOne_8 : decode cX12_comesOne 8 = .ok (.if_icmp .ne 5, 3) := by decide +kernel
theorem dX12_comesOne_11 : decode cX12_comesOne 11 = .ok (.iconst 0, 1) := by decide +kernel
theorem dX12_comesOne_12 : decode cX12_comesOne 12 = .ok (.ireturn, 1) := by decide +kernel
theorem dX12_comesOne_13 : decode cX12_comesOne 13 = .ok (.iconst 5, 1) := by decide +kernel
theorem dX12_comesOne_14 : decode cX12_comesOne 14 = .ok (.iconst 3, 1) := by decide +kernel
theorem dX12_comesOne_15 : decode cX12_comesOne 15 = .ok (.aload_n 0, 1) := by decide +kernel
theorem dX12_comesOne_16 : decode cX12_comesOne 16 = .ok (.getfield 7, 3) := by decide +kernel
theorem dX12_comesOne_19 : decode cX12_comesOne 19 = .ok (.iconst 4, 1) := by decide +kernel
theorem dX12_comesOne_20 : decode cX12_comesOne 20 = .ok (.iaload, 1) := by decide +kernel
theorem dX12_comesOne_21 : decode cX12_comesOne 21 = .ok (.imul, 1) := by decide +kernel
theorem dX12_comesOne_22 : decode cX12_comesOne 22 = .ok (.iadd, 1) := by decide +kernel
theorem dX12_comesOne_23 : decode cX12_comesOne 23 = .ok (.istore_n 3, 1) := by decide +kernel
theorem dX12_comesOne_24 : decode cX12_comesOne 24 = .ok (.aload_n 0, 1) := by decide +kernel
theorem dX12_comesOne_25 : decode cX12_comesOne 25 = .ok (.getfield 7, 3) := by decide +kernel
theorem dX12_comesOne_28 : decode cX12_comesOne 28 = .ok (.iload_n 3, 1) := by decide +kernel
theorem dX12_comesOne_29 : decode cX12_comesOne 29 = .ok (.iconst 0, 1) := by decide +kernel
theorem dX12_comesOne_30 : decode cX12_comesOne 30 = .ok (.iadd, 1) := by decide +kernel
theorem dX12_comesOne_31 : decode cX12_comesOne 31 = .ok (.iload_n 1, 1) := by decide +kernel
theorem dX12_comesOne_32 : decode cX12_comesOne 32 = .ok (.iastore, 1) := by decide +kernel
theorem dX12_comesOne_33 : decode cX12_comesOne 33 = .ok (.aload_n 0, 1) := by decide +kernel
theorem dX12_comesOne_34 : decode cX12_comesOne 34 = .ok (.getfield 7, 3) := by decide +kernel
theorem dX12_comesOne_37 : decode cX12_comesOne 37 = .ok (.iload_n 3, 1) := by decide +kernel
theorem dX12_comesOne_38 : decode cX12_comesOne 38 = .ok (.iconst 1, 1) := by decide +kernel
theorem dX12_comesOne_39 : decode cX12_comesOne 39 = .ok (.iadd, 1) := by decide +kernel
theorem dX12_comesOne_40 : decode cX12_comesOne 40 = .ok (.iload_n 2, 1) := by decide +kernel
theorem dX12_comesOne_41 : decode cX12_comesOne 41 = .ok (.iastore, 1) := by decide +kernel
theorem dX12_comesOne_42 : decode cX12_comesOne 42 = .ok (.aload_n 0, 1) := by decide +kernel
theorem dX12_comesOne_43 : decode cX12_comesOne 43 = .ok (.getfield 7, 3) := by decide +kernel
theorem dX12_comesOne_46 : decode cX12_comesOne 46 = .ok (.iload_n 3, 1) := by decide +kernel
theorem dX12_comesOne_47 : decode cX12_comesOne 47 = .ok (.iconst 2, 1) := by decide +kernel
theorem dX12_comesOne_48 : decode cX12_comesOne 48 = .ok (.iadd, 1) := by decide +kernel
theorem dX12_comesOne_49 : decode cX12_comesOne 49 = .ok (.aload_n 0, 1) := by decide +kernel
theorem dX12_comesOne_50 : decode cX12_comesOne 50 = .ok (.getfield 7, 3) := by decide +kernel
theorem dX12_comesOne_53 : decode cX12_comesOne 53 = .ok (.iconst 0, 1) := by decide +kernel
theorem dX12_comesOne_54 : decode cX12_comesOne 54 = .ok (.iaload, 1) := by decide +kernel
theorem dX12_comesOne_55 : decode cX12_comesOne 55 = .ok (.iastore, 1) := by decide +kernel
theorem dX12_comesOne_56 : decode cX12_comesOne 56 = .ok (.aload_n 0, 1) := by decide +kernel
theorem dX12_comesOne_57 : decode cX12_comesOne 57 = .ok (.getfield 7, 3) := by decide +kernel
theorem dX12_comesOne_60 : decode cX12_comesOne 60 = .ok (.iconst 4, 1) := by decide +kernel
theorem dX12_comesOne_61 : decode cX12_comesOne 61 = .ok (.dup2, 1) := by decide +kernel
theorem dX12_comesOne_62 : decode cX12_comesOne 62 = .ok (.iaload, 1) := by decide +kernel
theorem dX12_comesOne_63 : decode cX12_comesOne 63 = .ok (.iconst 1, 1) := by decide +kernel
theorem dX12_comesOne_64 : decode cX12_comesOne 64 = .ok (.iadd, 1) := by decide +kernel
theorem dX12_comesOne_65 : decode cX12_comesOne 65 = .ok (.iastore, 1) := by decide +kernel
theorem dX12_comesOne_66 : decode cX12_comesOne 66 = .ok (.aload_n 0, 1) := by decide +kernel
theorem dX12_comesOne_67 : decode cX12_comesOne 67 = .ok (.iconst 0, 1) := by decide +kernel
theorem dX12_comesOne_68 : decode cX12_comesOne 68 = .ok (.iload_n 1, 1) := by decide +kernel
theorem dX12_comesOne_69 : decode cX12_comesOne 69 = .ok (.iload_n 2, 1) := by decide +kernel
theorem dX12_comesOne_70 : decode cX12_comesOne 70 = .ok (.invokevirtual 332, 3) := by decide +kernel
theorem dX12_comesOne_73 : decode cX12_comesOne 73 = .ok (.iconst 1, 1) := by decide +kernel
theorem dX12_comesOne_74 : decode cX12_comesOne 74 = .ok (.ireturn, 1) := by decide +kernel
set_option maxHeartbeats 4000000 in
set_option maxRecDepth 100000 in
theorem c_X12_comesOne (l : Launch) (D : va_G) (tys : List (ClassId × FieldType)) (base : Nat) (G : iv_G) (h0 : Nat) (g_h0 : Nat → Int32) (r_h0 : Nat → Nat) (a_h0 : G h0 = some (12, g_h0, r_h0)) (x_0 : Int32) (i_x_0 : iv_R 0 9 x_0) (x_1 : Int32) (i_x_1 : iv_R 0 9 x_1) : Met l yX12_comesOne (Cond.code yX12_comesOne cX12_comesOne 4 (some .int) :: iv_W0) ({ frames := 1, cells := 0, slots := 0, locals := 24 }) (iv_Pc iv_sh D classes tys base G [.ref h0, .int x_0, .int x_1]) (iv_Qi iv_sh D classes tys base (fun v G' => iv_Md [60] G G' ∧ iv_R 0 1 v)) 0 0 (iv_A base) := by
  refine iv_head (by decide) (Nat.le_of_ble_eq_true rfl) ?_
  intro p e s m args below meth c ls X hr hlocks hname hB hl
  have X := X
  have hx := X.1.1
  have hb := X.1.2.1
  have hM : iv_Md [60] G G := iv_Md.rf
  have hl : lv_has ls 4 [(0, .ref h0), (1, .int x_0), (2, .int x_1)] := hl
  refine lv_aload_n hx hb dX12_comesOne_0 rfl (lv_at hl 0 rfl) ?_
  refine iv_getr X ft_X12 hB a_h0 sh_12 0 (by decide) rfl k_fl_X12_7 dX12_comesOne_1 (fun b1 g_b1 r_b1 e_b1 a_b1 => ?_)
  refine lv_iconst (v := 4) hx hb dX12_comesOne_4 (by decide) ?_
  refine iv_wald_c X hB a_b1 q_4 (by decide) (lo := 0) (hi' := 20) (by decide) dX12_comesOne_5 (fun x2 e_x2 i_x2 => ?_)
  refine lv_bipush (v := 20) hx hb dX12_comesOne_6 (by decide) ?_
  refine lv_icmp_ne (tgt := 13) hx hb dX12_comesOne_8 (by decide) (fun c3 => ?_) (fun c3 => ?_)
  · skip
    have i3_x2 : iv_R 0 19 x2 := iv_ne_hi c3 i_x2 q_20 (by decide)
    refine lv_iconst (v := 5) hx hb dX12_comesOne_13 (by decide) ?_
    refine lv_iconst (v := 3) hx hb dX12_comesOne_14 (by decide) ?_
    refine lv_aload_n hx hb dX12_comesOne_15 rfl (lv_at hl 0 rfl) ?_
    refine iv_getr0 X ft_X12 hB a_h0 sh_12 0 (by decide) rfl k_fl_X12_7 dX12_comesOne_16 e_b1 ?_
    refine lv_iconst (v := 4) hx hb dX12_comesOne_19 (by decide) ?_
    refine iv_wald_c X hB a_b1 q_4 (by decide) (lo := 0) (hi' := 20) (by decide) dX12_comesOne_20 (fun x5 e_x5 k_x5 => ?_)
    obtain rfl : x2 = x5 := e_x2.trans e_x5.symm
    refine iv_imul hx hb q_3 i3_x2 (lo := 0) (hi := 57) (by decide) dX12_comesOne_21 (fun x6 e_x6 i_x6 => ?_)
    refine iv_iadd hx hb q_5 i_x6 (lo := 5) (hi := 62) (by decide) dX12_comesOne_22 (fun x7 e_x7 i_x7 => ?_)
    refine lv_istore_n (lv' := [(3, .int x7), (0, .ref h0), (1, .int x_0), (2, .int x_1)]) hx hb dX12_comesOne_23 rfl hl (by decide) rfl (fun ls hl => ?_)
    refine lv_aload_n hx hb dX12_comesOne_24 rfl (lv_at hl 1 rfl) ?_
    refine iv_getr0 X ft_X12 hB a_h0 sh_12 0 (by decide) rfl k_fl_X12_7 dX12_comesOne_25 e_b1 ?_
    refine lv_iload_n hx hb dX12_comesOne_28 rfl (lv_at hl 0 rfl) ?_
    refine lv_iconst (v := 0) hx hb dX12_comesOne_29 (by decide) ?_
    refine iv_iadd hx hb i_x7 q_0 (lo := 5) (hi := 62) (by decide) dX12_comesOne_30 (fun x8 e_x8 i_x8 => ?_)
    refine lv_iload_n hx hb dX12_comesOne_31 rfl (lv_at hl 2 rfl) ?_
    refine iv_wast_f X hB a_b1 i_x8 (by decide) dX12_comesOne_32 (fun H locs hB => ?_)
    have hm := iv_Md.put (x := x_0) a_b1 (j := x8.toNatClampNeg) (iv_n146 i_x8 (by decide)) (fun h => absurd h (by decide))
    have h9 := iv_up_eq (G := G) (a := b1) (k := (60, upd g_b1 x8.toNatClampNeg x_0, r_b1))
    generalize iv_up G b1 _ = G9 at hB hm h9
    have hM := hM.stp hm (by decide)
    generalize hgn_g10 : upd g_b1 _ _ = g10 at h9
    have a_h0 := hm.at a_h0 (by decide)
    have a_b1 := h9
    have e11 : x2 = g10 4 := by rw [← hgn_g10]; exact e_x2.trans (iv_updne (iv_neN i_x8 (by decide)))
    refine lv_aload_n hx hb dX12_comesOne_33 rfl (lv_at hl 1 rfl) ?_
    refine iv_getr0 X ft_X12 hB a_h0 sh_12 0 (by decide) rfl k_fl_X12_7 dX12_comesOne_34 e_b1 ?_
    refine lv_iload_n hx hb dX12_comesOne_37 rfl (lv_at hl 0 rfl) ?_
    refine lv_iconst (v := 1) hx hb dX12_comesOne_38 (by decide) ?_
    refine iv_iadd hx hb i_x7 q_1 (lo := 6) (hi := 63) (by decide) dX12_comesOne_39 (fun x12 e_x12 i_x12 => ?_)
    refine lv_iload_n hx hb dX12_comesOne_40 rfl (lv_at hl 3 rfl) ?_
    refine iv_wast_f X hB a_b1 i_x12 (by decide) dX12_comesOne_41 (fun H locs hB => ?_)
    have hm := iv_Md.put (x := x_1) a_b1 (j := x12.toNatClampNeg) (iv_n146 i_x12 (by decide)) (fun h => absurd h (by decide))
    have h9 := iv_up_eq (G := G9) (a := b1) (k := (60, upd g10 x12.toNatClampNeg x_1, r_b1))
    generalize iv_up G9 b1 _ = G13 at hB hm h9
    have hM := hM.stp hm (by decide)
    generalize hgn_g14 : upd g10 _ _ = g14 at h9
    have a_h0 := hm.at a_h0 (by decide)
    have a_b1 := h9
    have e15 : x2 = g14 4 := by rw [← hgn_g14]; exact e11.trans (iv_updne (iv_neN i_x12 (by decide)))
    refine lv_aload_n hx hb dX12_comesOne_42 rfl (lv_at hl 1 rfl) ?_
    refine iv_getr0 X ft_X12 hB a_h0 sh_12 0 (by decide) rfl k_fl_X12_7 dX12_comesOne_43 e_b1 ?_
    refine lv_iload_n hx hb dX12_comesOne_46 rfl (lv_at hl 0 rfl) ?_
    refine lv_iconst (v := 2) hx hb dX12_comesOne_47 (by decide) ?_
    refine iv_iadd hx hb i_x7 q_2 (lo := 7) (hi := 64) (by decide) dX12_comesOne_48 (fun x16 e_x16 i_x16 => ?_)
    refine lv_aload_n hx hb dX12_comesOne_49 rfl (lv_at hl 1 rfl) ?_
    refine iv_getr0 X ft_X12 hB a_h0 sh_12 0 (by decide) rfl k_fl_X12_7 dX12_comesOne_50 e_b1 ?_
    refine lv_iconst (v := 0) hx hb dX12_comesOne_53 (by decide) ?_
    refine iv_wald_c X hB a_b1 q_0 (by decide) (lo := (-2147483648)) (hi' := 2147483647) (by decide) dX12_comesOne_54 (fun x17 e_x17 i_x17 => ?_)
    refine iv_wast_f X hB a_b1 i_x16 (by decide) dX12_comesOne_55 (fun H locs hB => ?_)
    have hm := iv_Md.put (x := x17) a_b1 (j := x16.toNatClampNeg) (iv_n146 i_x16 (by decide)) (fun h => absurd h (by decide))
    have h9 := iv_up_eq (G := G13) (a := b1) (k := (60, upd g14 x16.toNatClampNeg x17, r_b1))
    generalize iv_up G13 b1 _ = G18 at hB hm h9
    have hM := hM.stp hm (by decide)
    generalize hgn_g19 : upd g14 _ _ = g19 at h9
    have a_h0 := hm.at a_h0 (by decide)
    have a_b1 := h9
    have e20 : x2 = g19 4 := by rw [← hgn_g19]; exact e15.trans (iv_updne (iv_neN i_x16 (by decide)))
    have e21 : x17 = g19 0 := by rw [← hgn_g19]; exact e_x17.trans (iv_updne (iv_neN i_x16 (by decide)))
    refine lv_aload_n hx hb dX12_comesOne_56 rfl (lv_at hl 1 rfl) ?_
    refine iv_getr0 X ft_X12 hB a_h0 sh_12 0 (by decide) rfl k_fl_X12_7 dX12_comesOne_57 e_b1 ?_
    refine lv_iconst (v := 4) hx hb dX12_comesOne_60 (by decide) ?_
    refine lv_dup2_11 hx hb dX12_comesOne_61 rfl rfl ?_
    refine iv_wald_c X hB a_b1 q_4 (by decide) (lo := 0) (hi' := 20) (by decide) dX12_comesOne_62 (fun x22 e_x22 k_x22 => ?_)
    obtain rfl : x2 = x22 := e20.trans e_x22.symm
    refine lv_iconst (v := 1) hx hb dX12_comesOne_63 (by decide) ?_
    refine iv_iadd hx hb i3_x2 q_1 (lo := 1) (hi := 20) (by decide) dX12_comesOne_64 (fun x23 e_x23 i_x23 => ?_)
    refine iv_wast_c X hB a_b1 q_4 (by decide) (lo := 0) (hi' := 20) (by decide) (i_x23.wk (by decide)) dX12_comesOne_65 (fun H locs hB => ?_)
    have hB : iv_B iv_sh D classes tys base (iv_up G18 b1 (60, upd g19 4 x23, r_b1)) s.heap H locs := hB
    have hm := iv_Md.put (x := x23) a_b1 (j := 4) (by decide) (fun h => absurd h (by decide))
    have h9 := iv_up_eq (G := G18) (a := b1) (k := (60, upd g19 4 x23, r_b1))
    generalize iv_up G18 b1 _ = G24 at hB hm h9
    have hM := hM.stp hm (by decide)
    generalize hgn_g25 : upd g19 _ _ = g25 at h9
    have a_h0 := hm.at a_h0 (by decide)
    have a_b1 := h9
    have e26 : x17 = g25 0 := by rw [← hgn_g25]; exact e21.trans (iv_updne (by decide))
    have e27 : x23 = g25 4 := by rw [← hgn_g25]; simp [upd]
    refine lv_aload_n hx hb dX12_comesOne_66 rfl (lv_at hl 1 rfl) ?_
    refine lv_iconst (v := 0) hx hb dX12_comesOne_67 (by decide) ?_
    refine lv_iload_n hx hb dX12_comesOne_68 rfl (lv_at hl 2 rfl) ?_
    refine lv_iload_n hx hb dX12_comesOne_69 rfl (lv_at hl 3 rfl) ?_
    refine iv_cVv X k_good k_mf_X12_notes k_im_X12_notes k_sel_X12_notes k_ml_X12_332 ft_X12 hB a_h0 sh_12 (As := [.int 0, .int x_0, .int x_1]) (c_X12_notes l D tys base G24 h0 g_h0 r_h0 a_h0 0 (q_0.wk (by decide)) x_0 (i_x_0.wk (by decide)) x_1 (i_x_1.wk (by decide))) ⟨rfl, rfl⟩ ⟨Nat.le_of_ble_eq_true rfl, Nat.le_of_ble_eq_true rfl⟩ ⟨Nat.le_of_ble_eq_true rfl, Nat.le_of_ble_eq_true rfl⟩ rfl rfl hl.1 (Nat.le_of_ble_eq_true rfl) dX12_comesOne_70 (fun G9 H locs hq hB => ?_)
    have hm := hq
    obtain ⟨G28, hG9⟩ : ∃ g, g = G9 := ⟨_, rfl⟩
    rw [← hG9] at hm hB
    have hM := hM.stp hm (by decide)
    have a_h0 := hm.at a_h0 (by decide)
    obtain ⟨g29, r30, a_b1, f_g29⟩ := hm.ex a_b1
    refine lv_iconst (v := 1) hx hb dX12_comesOne_73 (by decide) ?_
    exact iv_iret X hr hlocks hB ⟨hM, (q_1.wk (by decide))⟩ dX12_comesOne_74
  · skip
    have i30_x2 : iv_R 20 20 x2 := (i_x2.cutLo (n := 20) (iv_eq_r c3 q_20).1)
    refine lv_iconst (v := 0) hx hb dX12_comesOne_11 (by decide) ?_
    exact iv_iret X hr hlocks hB ⟨hM, (q_0.wk (by decide))⟩ dX12_comesOne_12
theorem dX12_isRung_0 : decode cX12_isRung 0 = .ok (.aload_n 0, 1) := by decide +kernel
theorem dX12_isRung_1 : decode cX12_isRung 1 = .ok (.iload_n 1, 1) := by decide +kernel
theorem dX12_isRung_2 : decode cX12_isRung 2 = .ok (.invokevirtual 344, 3) := by decide +kernel
theorem dX12_isRung_5 : decode cX12_isRung 5 = .ok (.istore_n 2, 1) := by decide +kernel
theorem dX12_isRung_6 : decode cX12_isRung 6 = .ok (.aload_n 0, 1) := by decide +kernel
theorem dX12_isRung_7 : decode cX12_isRung 7 = .ok (.iload_n 1, 1) := by decide +kernel
theorem dX12_isRung_8 : decode cX12_isRung 8 = .ok (.invokevirtual 347, 3) := by decide +kernel
theorem dX12_isRung_11 : decode cX12_isRung 11 = .ok (.istore_n 3, 1) := by decide +kernel
theorem dX12_isRung_12 : decode cX12_isRung 12 = .ok (.aload_n 0, 1) := by decide +kernel
theorem dX12_isRung_13 : decode cX12_isRung 13 = .ok (.iload_n 1, 1) := by decide +kernel
theorem dX12_isRung_14 : decode cX12_isRung 14 = .ok (.bipush 7, 2) := by decide +kernel
theorem dX12_isRung_16 : decode cX12_isRung 16 = .ok (.sipush 9999, 3) := by decide +kernel
theorem dX12_isRung_19 : decode cX12_isRung 19 = .ok (.aload_n 0, 1) := by decide +kernel
theorem dX12_isRung_20 : decode cX12_isRung 20 = .ok (.iload_n 1, 1) := by decide +kernel
theorem dX12_isRung_21 : decode cX12_isRung 21 = .ok (.bipush 7, 2) := by decide +kernel
theorem dX12_isRung_23 : decode cX12_isRung 23 = .ok (.invokevirtual 282, 3) := by decide +kernel
theorem dX12_isRung_26 : decode cX12_isRung 26 = .ok (.iconst 1, 1) := by decide +kernel
theorem dX12_isRung_27 : decode cX12_isRung 27 = .ok (.iadd, 1) := by decide +kernel
theorem dX12_isRung_28 : decode cX12_isRung 28 = .ok (.invokestatic 275, 3) := by decide +kernel
theorem dX12_isRung_31 : decode cX12_isRung 31 = .ok (.invokevirtual 72, 3) := by decide +kernel
theorem dX12_isRung_34 : decode cX12_isRung 34 = .ok (.aload_n 0, 1) := by decide +kernel
theorem dX12_isRung_35 : decode cX12_isRung 35 = .ok (.iload_n 1, 1) := by decide +kernel
theorem dX12_isRung_36 : decode cX12_isRung 36 = .ok (.iconst 3, 1) := by decide +kernel
theorem dX12_isRung_37 : decode cX12_isRung 37 = .ok (.iconst 0, 1) := by decide +kernel
theorem dX12_isRung_38 : decode cX12_isRung 38 = .ok (.aload_n 0, 1) := by decide +kernel
theorem dX12_isRung_39 : decode cX12_isRung 39 = .ok (.iload_n 1, 1) := by decide +kernel
theorem dX12_isRung_40 : decode cX12_isRung 40 = .ok (.iconst 3, 1) := by decide +kernel
theorem dX12_isRung_41 : decode cX12_isRung 41 = .ok (.invokevirtual 282, 3) := by decide +kernel
theorem dX12_isRung_44 : decode cX12_isRung 44 = .ok (.iload_n 3, 1) := by decide +kernel
theorem dX12_isRung_45 : decode cX12_isRung 45 = .ok (.isub, 1) := by decide +kernel
theorem dX12_isRung_46 : decode cX12_isRung 46 = .ok (.invokestatic 279, 3) := by decide +kernel
theorem dX12_isRung_49 : decode cX12_isRung 49 = .ok (.invokevirtual 72, 3) := by decide +kernel
theorem dX12_isRung_52 : decode cX12_isRung 52 = .ok (.iload_n 2, 1) := by decide +kernel
theorem dX12_isRung_53 : decode cX12_isRung 53 = .ok (.ifCond .eq 14, 3) := by decide +kernel
theorem dX12_isRung_56 : decode cX12_isRung 56 = .ok (.aload_n 0, 1) := by decide +kernel
theorem dX12_isRung_57 : decode cX12_isRung 57 = .ok (.sipush 1000, 3) := by decide +kernel
theorem dX12_isRung_60 : decode cX12_isRung 60 = .ok (.invokevirtual 350, 3) := by decide +kernel
theorem dX12_isRung_63 : decode cX12_isRung 63 = .ok (.iload_n 2, 1) := by decide +kernel
theorem dX12_isRung_64 : decode cX12_isRung 64 = .ok (.if_icmp .lt 5, 3) := by decide +kernel
theorem dX12_isRung_67 : decode cX12_isRung 67 = .ok (.iconst 0, 1) := by decide +kernel
theorem dX12_isRung_68 : decode cX12_isRung 68 = .ok (.ireturn, 1) := by decide +kernel
theorem dX12_isRung_69 : decode cX12_isRung 69 = .ok (.aload_n 0, 1) := by decide +kernel
theorem dX12_isRung_70 : decode cX12_isRung 70 = .ok (.iload_n 1, 1) := by decide +kernel
theorem dX12_isRung_71 : decode cX12_isRung 71 = .ok (.invokevirtual 317, 3) := by decide +kernel
theorem dX12_isRung_74 : decode cX12_isRung 74 = .ok (.istore 4, 2) := by decide +kernel
theorem dX12_isRung_76 : decode cX12_isRung 76 = .ok (.aload_n 0, 1) := by decide +kernel
theorem dX12_isRung_77 : decode cX12_isRung 77 = .ok (.iload_n 1, 1) := by decide +kernel
theorem dX12_isRung_78 : decode cX12_isRung 78 = .ok (.iload 4, 2) := by decide +kernel
theorem dX12_isRung_80 : decode cX12_isRung 80 = .ok (.ifCond .ne 11, 3) := by decide +kernel
theorem dX12_isRung_83 : decode cX12_isRung 83 = .ok (.aload_n 0, 1) := by decide +kernel
theorem dX12_isRung_84 : decode cX12_isRung 84 = .ok (.iload_n 1, 1) := by decide +kernel
theorem dX12_isRung_85 : decode cX12_isRung 85 = .ok (.invokevirtual 353, 3) := by decide +kernel
theorem dX12_isRung_88 : decode cX12_isRung 88 = .ok (.goto 5, 3) := by decide +kernel
theorem dX12_isRung_91 : decode cX12_isRung 91 = .ok (.iload 4, 2) := by decide +kernel
theorem dX12_isRung_93 : decode cX12_isRung 93 = .ok (.invokestatic 356, 3) := by decide +kernel
theorem dX12_isRung_96 : decode cX12_isRung 96 = .ok (.invokevirtual 359, 3) := by decide +kernel
theorem dX12_isRung_99 : decode cX12_isRung 99 = .ok (.istore 5, 2) := by decide +kernel
theorem dX12_isRung_101 : decode cX12_isRung 101 = .ok (.aload_n 0, 1) := by decide +kernel
theorem dX12_isRung_102 : decode cX12_isRung 102 = .ok (.iload_n 1, 1) := by decide +kernel
theorem dX12_isRung_103 : decode cX12_isRung 103 = .ok (.bipush 6, 2) := by decide +kernel
theorem dX12_isRung_105 : decode cX12_isRung 105 = .ok (.iconst 1, 1) := by decide +kernel
theorem dX12_isRung_106 : decode cX12_isRung 106 = .ok (.invokevirtual 72, 3) := by decide +kernel
theorem dX12_isRung_109 : decode cX12_isRung 109 = .ok (.aload_n 0, 1) := by decide +kernel
theorem dX12_isRung_110 : decode cX12_isRung 110 = .ok (.iload_n 1, 1) := by decide +kernel
theorem dX12_isRung_111 : decode cX12_isRung 111 = .ok (.iload 5, 2) := by decide +kernel
theorem dX12_isRung_113 : decode cX12_isRung 113 = .ok (.invokevirtual 362, 3) := by decide +kernel
theorem dX12_isRung_116 : decode cX12_isRung 116 = .ok (.aload_n 0, 1) := by decide +kernel
theorem dX12_isRung_117 : decode cX12_isRung 117 = .ok (.iload_n 1, 1) := by decide +kernel
theorem dX12_isRung_118 : decode cX12_isRung 118 = .ok (.iconst 4, 1) := by decide +kernel
theorem dX12_isRung_119 : decode cX12_isRung 119 = .ok (.invokevirtual 282, 3) := by decide +kernel
theorem dX12_isRung_122 : decode cX12_isRung 122 = .ok (.iconst 1, 1) := by decide +kernel
theorem dX12_isRung_123 : decode cX12_isRung 123 = .ok (.if_icmp .ne 12, 3) := by decide +kernel
theorem dX12_isRung_126 : decode cX12_isRung 126 = .ok (.aload_n 0, 1) := by decide +kernel
theorem dX12_isRung_127 : decode cX12_isRung 127 = .ok (.iload_n 1, 1) := by decide +kernel
theorem dX12_isRung_128 : decode cX12_isRung 128 = .ok (.iload_n 1, 1) := by decide +kernel
theorem dX12_isRung_129 : decode cX12_isRung 129 = .ok (.invokevirtual 362, 3) := by decide +kernel
theorem dX12_isRung_132 : decode cX12_isRung 132 = .ok (.goto 4, 3) := by decide +kernel
theorem dX12_isRung_135 : decode cX12_isRung 135 = .ok (.iconst 0, 1) := by decide +kernel
theorem dX12_isRung_136 : decode cX12_isRung 136 = .ok (.iadd, 1) := by decide +kernel
theorem dX12_isRung_137 : decode cX12_isRung 137 = .ok (.ireturn, 1) := by decide +kernel
set_option maxHeartbeats 4000000 in
set_option maxRecDepth 100000 in
theorem c_X12_isRung (l : Launch) (D : va_G) (tys : List (ClassId × FieldType)) (base : Nat) (G : iv_G) (h0 : Nat) (g_h0 : Nat → Int32) (r_h0 : Nat → Nat) (a_h0 : G h0 = some (12, g_h0, r_h0)) (x_0 : Int32) (i_x_0 : iv_R 0 9 x_0) (gw : Nat → Int32) (rw : Nat → Nat) (hw : G (r_h0 0) = some (60, gw, rw)) (hsd : ¬ iv_sd0 gw x_0 24) : Met l yX12_isRung (Cond.code yX12_isRung cX12_isRung 6 (some .int) :: iv_W0) ({ frames := 10, cells := 0, slots := 0, locals := 232 }) (iv_Pc iv_sh D classes tys base G [.ref h0, .int x_0]) (iv_Qi iv_sh D classes tys base (fun v G' => iv_Md [60, 67, 68] G G' ∧ iv_R 0 2 v)) 0 0 (iv_A base) := by
  refine iv_head (by decide) (Nat.le_of_ble_eq_true rfl) ?_
  intro p e s m args below meth c ls X hr hlocks hname hB hl
  have X := X
  have hx := X.1.1
  have hb := X.1.2.1
  have hM : iv_Md [60, 67, 68] G G := iv_Md.rf
  have hl : lv_has ls 6 [(0, .ref h0), (1, .int x_0)] := hl
  refine lv_aload_n hx hb dX12_isRung_0 rfl (lv_at hl 0 rfl) ?_
  refine lv_iload_n hx hb dX12_isRung_1 rfl (lv_at hl 1 rfl) ?_
  refine iv_cVi X k_good k_mf_X12_comeOf k_im_X12_comeOf k_sel_X12_comeOf k_ml_X12_344 ft_X12 hB a_h0 sh_12 (As := [.int x_0]) (c_X12_comeOf l D tys base G h0 g_h0 r_h0 a_h0 x_0 i_x_0) ⟨rfl, rfl⟩ ⟨Nat.le_of_ble_eq_true rfl, Nat.le_of_ble_eq_true rfl⟩ ⟨Nat.le_of_ble_eq_true rfl, Nat.le_of_ble_eq_true rfl⟩ rfl rfl hl.1 (Nat.le_of_ble_eq_true rfl) dX12_isRung_2 (fun x1 G9 H locs hq hB => ?_)
  obtain ⟨hm, i_x1⟩ := hq
  obtain ⟨G2, hG9⟩ : ∃ g, g = G9 := ⟨_, rfl⟩
  rw [← hG9] at hm hB
  have hM := hM.stp hm (by decide)
  have a_h0 := hm.at a_h0 (by decide)
  have hw := hm.at hw (by decide)
  refine lv_istore_n (lv' := [(2, .int x1), (0, .ref h0), (1, .int x_0)]) hx hb dX12_isRung_5 rfl hl (by decide) rfl (fun ls hl => ?_)
  refine lv_aload_n hx hb dX12_isRung_6 rfl (lv_at hl 1 rfl) ?_
  refine lv_iload_n hx hb dX12_isRung_7 rfl (lv_at hl 2 rfl) ?_
  refine iv_cVi X k_good k_mf_X12_slackOf k_im_X12_slackOf k_sel_X12_slackOf k_ml_X12_347 ft_X12 hB a_h0 sh_12 (As := [.int x_0]) (c_X12_slackOf l D tys base G2 h0 g_h0 r_h0 a_h0 x_0 i_x_0) ⟨rfl, rfl⟩ ⟨Nat.le_of_ble_eq_true rfl, Nat.le_of_ble_eq_true rfl⟩ ⟨Nat.le_of_ble_eq_true rfl, Nat.le_of_ble_eq_true rfl⟩ rfl rfl hl.1 (Nat.le_of_ble_eq_true rfl) dX12_isRung_8 (fun x3 G9 H locs hq hB => ?_)
  obtain ⟨hm, i_x3⟩ := hq
  obtain ⟨G4, hG9⟩ : ∃ g, g = G9 := ⟨_, rfl⟩
  rw [← hG9] at hm hB
  have hM := hM.stp hm (by decide)
  have a_h0 := hm.at a_h0 (by decide)
  have hw := hm.at hw (by decide)
  refine lv_istore_n (lv' := [(3, .int x3), (2, .int x1), (0, .ref h0), (1, .int x_0)]) hx hb dX12_isRung_11 rfl hl (by decide) rfl (fun ls hl => ?_)
  refine lv_aload_n hx hb dX12_isRung_12 rfl (lv_at hl 2 rfl) ?_
  refine lv_iload_n hx hb dX12_isRung_13 rfl (lv_at hl 3 rfl) ?_
  refine lv_bipush (v := 7) hx hb dX12_isRung_14 (by decide) ?_
  refine lv_sipush (v := 9999) hx hb dX12_isRung_16 (by decide) ?_
  refine lv_aload_n hx hb dX12_isRung_19 rfl (lv_at hl 2 rfl) ?_
  refine lv_iload_n hx hb dX12_isRung_20 rfl (lv_at hl 3 rfl) ?_
  refine lv_bipush (v := 7) hx hb dX12_isRung_21 (by decide) ?_
  refine iv_cVi X k_good k_mf_X12_ofBell k_im_X12_ofBell k_sel_X12_ofBell k_ml_X12_282 ft_X12 hB a_h0 sh_12 (As := [.int x_0, .int 7]) (c_X12_ofBell l D tys base G4 h0 g_h0 r_h0 a_h0 x_0 i_x_0 7 (q_7.wk (by decide))) ⟨rfl, rfl⟩ ⟨Nat.le_of_ble_eq_true rfl, Nat.le_of_ble_eq_true rfl⟩ ⟨Nat.le_of_ble_eq_true rfl, Nat.le_of_ble_eq_true rfl⟩ rfl rfl hl.1 (Nat.le_of_ble_eq_true rfl) dX12_isRung_23 (fun x5 G9 H locs hq hB => ?_)
  obtain ⟨rfl, i_x5, cp6, cp7⟩ := hq
  refine lv_iconst (v := 1) hx hb dX12_isRung_26 (by decide) ?_
  refine lv_iadd hx hb dX12_isRung_27 ?_
  refine lv_topi (fun x8 e_x8 => ?_)
  have i_x8 := iv_R.all x8
  refine iv_cSi X k_good k_mf_X12_lesser k_st_X12_lesser k_ml_X12_275 hB (As := [.int 9999, .int x8]) (c_X12_lesser l D tys base G4 9999 (q_9999.wk (by decide)) x8 i_x8) ⟨rfl, rfl⟩ ⟨Nat.le_of_ble_eq_true rfl, Nat.le_of_ble_eq_true rfl⟩ ⟨Nat.le_of_ble_eq_true rfl, Nat.le_of_ble_eq_true rfl⟩ rfl rfl hl.1 (Nat.le_of_ble_eq_true rfl) dX12_isRung_28 (fun x9 G9 H locs hq hB => ?_)
  obtain ⟨rfl, i_x9⟩ := hq
  refine iv_cVv X k_good k_mf_X12_bells k_im_X12_bells k_sel_X12_bells k_ml_X12_72 ft_X12 hB a_h0 sh_12 (As := [.int x_0, .int 7, .int x9]) (e_X12_bells l D tys base G4 h0 g_h0 r_h0 a_h0 x_0 i_x_0 7 (q_7.wk (by decide)) x9 i_x9 (fun h => absurd h (by decide)) (fun h => absurd h (by decide)) _ rw hw) ⟨rfl, rfl⟩ ⟨Nat.le_of_ble_eq_true rfl, Nat.le_of_ble_eq_true rfl⟩ ⟨Nat.le_of_ble_eq_true rfl, Nat.le_of_ble_eq_true rfl⟩ rfl rfl hl.1 (Nat.le_of_ble_eq_true rfl) dX12_isRung_31 (fun G9 H locs hq hB => ?_)
  obtain ⟨hm, hw⟩ := hq
  obtain ⟨G10, hG9⟩ : ∃ g, g = G9 := ⟨_, rfl⟩
  rw [← hG9] at hm hB hw
  have hM := hM.stp hm (by decide)
  have a_h0 := hm.at a_h0 (by decide)
  refine lv_aload_n hx hb dX12_isRung_34 rfl (lv_at hl 2 rfl) ?_
  refine lv_iload_n hx hb dX12_isRung_35 rfl (lv_at hl 3 rfl) ?_
  refine lv_iconst (v := 3) hx hb dX12_isRung_36 (by decide) ?_
  refine lv_iconst (v := 0) hx hb dX12_isRung_37 (by decide) ?_
  refine lv_aload_n hx hb dX12_isRung_38 rfl (lv_at hl 2 rfl) ?_
  refine lv_iload_n hx hb dX12_isRung_39 rfl (lv_at hl 3 rfl) ?_
  refine lv_iconst (v := 3) hx hb dX12_isRung_40 (by decide) ?_
  refine iv_cVi X k_good k_mf_X12_ofBell k_im_X12_ofBell k_sel_X12_ofBell k_ml_X12_282 ft_X12 hB a_h0 sh_12 (As := [.int x_0, .int 3]) (c_X12_ofBell l D tys base G10 h0 g_h0 r_h0 a_h0 x_0 i_x_0 3 (q_3.wk (by decide))) ⟨rfl, rfl⟩ ⟨Nat.le_of_ble_eq_true rfl, Nat.le_of_ble_eq_true rfl⟩ ⟨Nat.le_of_ble_eq_true rfl, Nat.le_of_ble_eq_true rfl⟩ rfl rfl hl.1 (Nat.le_of_ble_eq_true rfl) dX12_isRung_41 (fun x11 G9 H locs hq hB => ?_)
  obtain ⟨rfl, i_x11, cp12, cp13⟩ := hq
  refine lv_iload_n hx hb dX12_isRung_44 rfl (lv_at hl 0 rfl) ?_
  refine lv_isub hx hb dX12_isRung_45 ?_
  refine lv_topi (fun x14 e_x14 => ?_)
  have i_x14 := iv_R.all x14
  refine iv_cSi X k_good k_mf_X12_greater k_st_X12_greater k_ml_X12_279 hB (As := [.int 0, .int x14]) (c_X12_greater l D tys base G10 0 (q_0.wk (by decide)) x14 i_x14) ⟨rfl, rfl⟩ ⟨Nat.le_of_ble_eq_true rfl, Nat.le_of_ble_eq_true rfl⟩ ⟨Nat.le_of_ble_eq_true rfl, Nat.le_of_ble_eq_true rfl⟩ rfl rfl hl.1 (Nat.le_of_ble_eq_true rfl) dX12_isRung_46 (fun x15 G9 H locs hq hB => ?_)
  obtain ⟨rfl, i_x15⟩ := hq
  refine iv_cVv X k_good k_mf_X12_bells k_im_X12_bells k_sel_X12_bells k_ml_X12_72 ft_X12 hB a_h0 sh_12 (As := [.int x_0, .int 3, .int x15]) (e_X12_bells l D tys base G10 h0 g_h0 r_h0 a_h0 x_0 i_x_0 3 (q_3.wk (by decide)) x15 i_x15 (fun h => absurd h (by decide)) (fun h => absurd h (by decide)) _ rw hw) ⟨rfl, rfl⟩ ⟨Nat.le_of_ble_eq_true rfl, Nat.le_of_ble_eq_true rfl⟩ ⟨Nat.le_of_ble_eq_true rfl, Nat.le_of_ble_eq_true rfl⟩ rfl rfl hl.1 (Nat.le_of_ble_eq_true rfl) dX12_isRung_49 (fun G9 H locs hq hB => ?_)
  obtain ⟨hm, hw⟩ := hq
  obtain ⟨G16, hG9⟩ : ∃ g, g = G9 := ⟨_, rfl⟩
  rw [← hG9] at hm hB hw
  have hM := hM.stp hm (by decide)
  have a_h0 := hm.at a_h0 (by decide)
  refine lv_iload_n hx hb dX12_isRung_52 rfl (lv_at hl 1 rfl) ?_
  refine lv_if_eq (tgt := 67) hx hb dX12_isRung_53 (by decide) (fun c17 => ?_) (fun c17 => ?_)
  · skip
    have i17_x1 : iv_R 0 0 x1 := ((i_x1.cutLo (n := 0) (iv_eq_r c17 q_0).1).cutHi (n := 0) (iv_eq_r c17 q_0).2)
    refine lv_iconst (v := 0) hx hb dX12_isRung_67 (by decide) ?_
    exact iv_iret X hr hlocks hB ⟨hM, (q_0.wk (by decide))⟩ dX12_isRung_68
  · skip
    refine lv_aload_n hx hb dX12_isRung_56 rfl (lv_at hl 2 rfl) ?_
    refine lv_sipush (v := 1000) hx hb dX12_isRung_57 (by decide) ?_
    refine iv_cVi X k_good k_mf_X12_draw k_im_X12_draw k_sel_X12_draw k_ml_X12_350 ft_X12 hB a_h0 sh_12 (As := [.int 1000]) (e_X12_draw l D tys base G16 h0 g_h0 r_h0 a_h0 1000 q_1000 _ rw hw) ⟨rfl, rfl⟩ ⟨Nat.le_of_ble_eq_true rfl, Nat.le_of_ble_eq_true rfl⟩ ⟨Nat.le_of_ble_eq_true rfl, Nat.le_of_ble_eq_true rfl⟩ rfl rfl hl.1 (Nat.le_of_ble_eq_true rfl) dX12_isRung_60 (fun x19 G9 H locs hq hB => ?_)
    obtain ⟨⟨hm, z, hw⟩, i_x19⟩ := hq
    obtain ⟨G20, hG9⟩ : ∃ g, g = G9 := ⟨_, rfl⟩
    rw [← hG9] at hm hB hw
    have hM := hM.stp hm (by decide)
    have a_h0 := hm.at a_h0 (by decide)
    refine lv_iload_n hx hb dX12_isRung_63 rfl (lv_at hl 1 rfl) ?_
    refine lv_icmp_lt (tgt := 69) hx hb dX12_isRung_64 (by decide) (fun c21 => ?_) (fun c21 => ?_)
    · skip
      have i21_x1 : iv_R (-998) 2147483647 x1 := (i_x1.cutLo (n := (-998)) (iv_lt_l c21 i_x19 (by decide)))
      refine lv_aload_n hx hb dX12_isRung_69 rfl (lv_at hl 2 rfl) ?_
      refine lv_iload_n hx hb dX12_isRung_70 rfl (lv_at hl 3 rfl) ?_
      refine iv_cVi X k_good k_mf_X12_clearOf k_im_X12_clearOf k_sel_X12_clearOf k_ml_X12_317 ft_X12 hB a_h0 sh_12 (As := [.int x_0]) (c_X12_clearOf l D tys base G20 h0 g_h0 r_h0 a_h0 x_0 i_x_0) ⟨rfl, rfl⟩ ⟨Nat.le_of_ble_eq_true rfl, Nat.le_of_ble_eq_true rfl⟩ ⟨Nat.le_of_ble_eq_true rfl, Nat.le_of_ble_eq_true rfl⟩ rfl rfl hl.1 (Nat.le_of_ble_eq_true rfl) dX12_isRung_71 (fun x23 G9 H locs hq hB => ?_)
      obtain ⟨hm, i_x23⟩ := hq
      obtain ⟨G24, hG9⟩ : ∃ g, g = G9 := ⟨_, rfl⟩
      rw [← hG9] at hm hB
      have hM := hM.stp hm (by decide)
      have a_h0 := hm.at a_h0 (by decide)
      have hw := hm.at hw (by decide)
      refine lv_istore (lv' := [(4, .int x23), (3, .int x3), (2, .int x1), (0, .ref h0), (1, .int x_0)]) hx hb dX12_isRung_74 hl (by decide) rfl (fun ls hl => ?_)
      refine lv_aload_n hx hb dX12_isRung_76 rfl (lv_at hl 3 rfl) ?_
      refine lv_iload_n hx hb dX12_isRung_77 rfl (lv_at hl 4 rfl) ?_
      refine lv_iload hx hb dX12_isRung_78 (lv_at hl 0 rfl) ?_
      refine lv_if_ne (tgt := 91) hx hb dX12_isRung_80 (by decide) (fun c25 => ?_) (fun c25 => ?_)
      · skip
        have i25_x23 : iv_R 1 16777215 x23 := iv_ne_lo c25 i_x23 q_0 (by decide)
        refine lv_iload hx hb dX12_isRung_91 (lv_at hl 0 rfl) ?_
        refine iv_cSi X k_good k_mf_X12_leastIn k_st_X12_leastIn k_ml_X12_356 hB (As := [.int x23]) (c_X12_leastIn l D tys base G24 x23 i25_x23) ⟨rfl, rfl⟩ ⟨Nat.le_of_ble_eq_true rfl, Nat.le_of_ble_eq_true rfl⟩ ⟨Nat.le_of_ble_eq_true rfl, Nat.le_of_ble_eq_true rfl⟩ rfl rfl hl.1 (Nat.le_of_ble_eq_true rfl) dX12_isRung_93 (fun x27 G9 H locs hq hB => ?_)
        obtain ⟨rfl, i_x27⟩ := hq
        refine iv_cVi X k_good k_mf_X12_astrayOf k_im_X12_astrayOf k_sel_X12_astrayOf k_ml_X12_359 ft_X12 hB a_h0 sh_12 (As := [.int x_0, .int x27]) (c_X12_astrayOf l D tys base G24 h0 g_h0 r_h0 a_h0 x_0 i_x_0 x27 i_x27) ⟨rfl, rfl⟩ ⟨Nat.le_of_ble_eq_true rfl, Nat.le_of_ble_eq_true rfl⟩ ⟨Nat.le_of_ble_eq_true rfl, Nat.le_of_ble_eq_true rfl⟩ rfl rfl hl.1 (Nat.le_of_ble_eq_true rfl) dX12_isRung_96 (fun x28 G9 H locs hq hB => ?_)
        obtain ⟨hm, i_x28⟩ := hq
        obtain ⟨G29, hG9⟩ : ∃ g, g = G9 := ⟨_, rfl⟩
        rw [← hG9] at hm hB
        have hM := hM.stp hm (by decide)
        have a_h0 := hm.at a_h0 (by decide)
        refine lv_istore (lv' := [(5, .int x28), (4, .int x23), (3, .int x3), (2, .int x1), (0, .ref h0), (1, .int x_0)]) hx hb dX12_isRung_99 hl (by decide) rfl (fun ls hl => ?_)
        refine lv_aload_n hx hb dX12_isRung_101 rfl (lv_at hl 4 rfl) ?_
        refine lv_iload_n hx hb dX12_isRung_102 rfl (lv_at hl 5 rfl) ?_
        refine lv_bipush (v := 6) hx hb dX12_isRung_103 (by decide) ?_
        refine lv_iconst (v := 1) hx hb dX12_isRung_105 (by decide) ?_
        refine iv_cVv X k_good k_mf_X12_bells k_im_X12_bells k_sel_X12_bells k_ml_X12_72 ft_X12 hB a_h0 sh_12 (As := [.int x_0, .int 6, .int 1]) (c_X12_bells l D tys base G29 h0 g_h0 r_h0 a_h0 x_0 i_x_0 6 (q_6.wk (by decide)) 1 (q_1.wk (by decide)) (fun h => absurd h (by decide)) (fun h => absurd h (by decide))) ⟨rfl, rfl⟩ ⟨Nat.le_of_ble_eq_true rfl, Nat.le_of_ble_eq_true rfl⟩ ⟨Nat.le_of_ble_eq_true rfl, Nat.le_of_ble_eq_true rfl⟩ rfl rfl hl.1 (Nat.le_of_ble_eq_true rfl) dX12_isRung_106 (fun G9 H locs hq hB => ?_)
        have hm := hq
        obtain ⟨G30, hG9⟩ : ∃ g, g = G9 := ⟨_, rfl⟩
        rw [← hG9] at hm hB
        have hM := hM.stp hm (by decide)
        have a_h0 := hm.at a_h0 (by decide)
        refine lv_aload_n hx hb dX12_isRung_109 rfl (lv_at hl 4 rfl) ?_
        refine lv_iload_n hx hb dX12_isRung_110 rfl (lv_at hl 5 rfl) ?_
        refine lv_iload hx hb dX12_isRung_111 (lv_at hl 0 rfl) ?_
        refine iv_cVi X k_good k_mf_X12_comesOne k_im_X12_comesOne k_sel_X12_comesOne k_ml_X12_362 ft_X12 hB a_h0 sh_12 (As := [.int x_0, .int x28]) (c_X12_comesOne l D tys base G30 h0 g_h0 r_h0 a_h0 x_0 i_x_0 x28 i_x28) ⟨rfl, rfl⟩ ⟨Nat.le_of_ble_eq_true rfl, Nat.le_of_ble_eq_true rfl⟩ ⟨Nat.le_of_ble_eq_true rfl, Nat.le_of_ble_eq_true rfl⟩ rfl rfl hl.1 (Nat.le_of_ble_eq_true rfl) dX12_isRung_113 (fun x31 G9 H locs hq hB => ?_)
        obtain ⟨hm, i_x31⟩ := hq
        obtain ⟨G32, hG9⟩ : ∃ g, g = G9 := ⟨_, rfl⟩
        rw [← hG9] at hm hB
        have hM := hM.stp hm (by decide)
        have a_h0 := hm.at a_h0 (by decide)
        refine lv_aload_n hx hb dX12_isRung_116 rfl (lv_at hl 4 rfl) ?_
        refine lv_iload_n hx hb dX12_isRung_117 rfl (lv_at hl 5 rfl) ?_
        refine lv_iconst (v := 4) hx hb dX12_isRung_118 (by decide) ?_
        refine iv_cVi X k_good k_mf_X12_ofBell k_im_X12_ofBell k_sel_X12_ofBell k_ml_X12_282 ft_X12 hB a_h0 sh_12 (As := [.int x_0, .int 4]) (c_X12_ofBell l D tys base G32 h0 g_h0 r_h0 a_h0 x_0 i_x_0 4 (q_4.wk (by decide))) ⟨rfl, rfl⟩ ⟨Nat.le_of_ble_eq_true rfl, Nat.le_of_ble_eq_true rfl⟩ ⟨Nat.le_of_ble_eq_true rfl, Nat.le_of_ble_eq_true rfl⟩ rfl rfl hl.1 (Nat.le_of_ble_eq_true rfl) dX12_isRung_119 (fun x33 G9 H locs hq hB => ?_)
        obtain ⟨rfl, i_x33, cp34, cp35⟩ := hq
        refine lv_iconst (v := 1) hx hb dX12_isRung_122 (by decide) ?_
        refine lv_icmp_ne (tgt := 135) hx hb dX12_isRung_123 (by decide) (fun c36 => ?_) (fun c36 => ?_)
        · skip
          refine lv_iconst (v := 0) hx hb dX12_isRung_135 (by decide) ?_
          refine iv_iadd hx hb i_x31 q_0 (lo := 0) (hi := 1) (by decide) dX12_isRung_136 (fun x37 e_x37 i_x37 => ?_)
          exact iv_iret X hr hlocks hB ⟨hM, (i_x37.wk (by decide))⟩ dX12_isRung_137
        · skip
          have i37_x33 : iv_R 1 1 x33 := ((i_x33.cutLo (n := 1) (iv_eq_r c36 q_1).1).cutHi (n := 1) (iv_eq_r c36 q_1).2)
          refine lv_aload_n hx hb dX12_isRung_126 rfl (lv_at hl 4 rfl) ?_
          refine lv_iload_n hx hb dX12_isRung_127 rfl (lv_at hl 5 rfl) ?_
          refine lv_iload_n hx hb dX12_isRung_128 rfl (lv_at hl 5 rfl) ?_
          refine iv_cVi X k_good k_mf_X12_comesOne k_im_X12_comesOne k_sel_X12_comesOne k_ml_X12_362 ft_X12 hB a_h0 sh_12 (As := [.int x_0, .int x_0]) (c_X12_comesOne l D tys base G32 h0 g_h0 r_h0 a_h0 x_0 i_x_0 x_0 i_x_0) ⟨rfl, rfl⟩ ⟨Nat.le_of_ble_eq_true rfl, Nat.le_of_ble_eq_true rfl⟩ ⟨Nat.le_of_ble_eq_true rfl, Nat.le_of_ble_eq_true rfl⟩ rfl rfl hl.1 (Nat.le_of_ble_eq_true rfl) dX12_isRung_129 (fun x39 G9 H locs hq hB => ?_)
          obtain ⟨hm, i_x39⟩ := hq
          obtain ⟨G40, hG9⟩ : ∃ g, g = G9 := ⟨_, rfl⟩
          rw [← hG9] at hm hB
          have hM := hM.stp hm (by decide)
          have a_h0 := hm.at a_h0 (by decide)
          refine lv_goto (tgt := 136) hx hb dX12_isRung_132 (by decide) ?_
          refine iv_iadd hx hb i_x31 i_x39 (lo := 0) (hi := 2) (by decide) dX12_isRung_136 (fun x41 e_x41 i_x41 => ?_)
          exact iv_iret X hr hlocks hB ⟨hM, i_x41⟩ dX12_isRung_137
      · skip
        have i41_x23 : iv_R 0 0 x23 := (i_x23.cutHi (n := 0) (iv_eq_r c25 q_0).2)
        refine lv_aload_n hx hb dX12_isRung_83 rfl (lv_at hl 3 rfl) ?_
        refine lv_iload_n hx hb dX12_isRung_84 rfl (lv_at hl 4 rfl) ?_
        refine iv_cVi X k_good k_mf_X12_soundingOf k_im_X12_soundingOf k_sel_X12_soundingOf k_ml_X12_353 ft_X12 hB a_h0 sh_12 (As := [.int x_0]) (e_X12_soundingOf l D tys base G24 h0 g_h0 r_h0 a_h0 x_0 i_x_0 _ rw hw) ⟨rfl, rfl⟩ ⟨Nat.le_of_ble_eq_true rfl, Nat.le_of_ble_eq_true rfl⟩ ⟨Nat.le_of_ble_eq_true rfl, Nat.le_of_ble_eq_true rfl⟩ rfl rfl hl.1 (Nat.le_of_ble_eq_true rfl) dX12_isRung_85 (fun x43 G9 H locs hq hB => ?_)
        obtain ⟨rfl, i_x43, eq_x43⟩ := hq
        have hse : iv_se gw (upd (upd (upd gw (66 + 8 * x_0.toInt.toNat + (7 : Int32).toInt.toNat) x9) (66 + 8 * x_0.toInt.toNat + (3 : Int32).toInt.toNat) x15) 2 z) x_0 := by
          intro k hk
          have t7 : (7 : Int32).toInt.toNat = 7 := rfl
          have t3 : (3 : Int32).toInt.toNat = 3 := rfl
          have w1 := i_x_0.1
          have w2 := i_x_0.2
          simp only [upd]
          rw [if_neg (by omega), if_neg (by omega), if_neg (by omega)]
        have hs_x43 : iv_R 1 16777215 x43 := iv_ne_lo (fun h => hsd (hse.sd0 (eq_x43.mp h))) i_x43 q_0 (by decide)
        have i43_x43 : iv_R 1 16777215 x43 := hs_x43
        refine lv_goto (tgt := 93) hx hb dX12_isRung_88 (by decide) ?_
        refine iv_cSi X k_good k_mf_X12_leastIn k_st_X12_leastIn k_ml_X12_356 hB (As := [.int x43]) (c_X12_leastIn l D tys base G24 x43 i43_x43) ⟨rfl, rfl⟩ ⟨Nat.le_of_ble_eq_true rfl, Nat.le_of_ble_eq_true rfl⟩ ⟨Nat.le_of_ble_eq_true rfl, Nat.le_of_ble_eq_true rfl⟩ rfl rfl hl.1 (Nat.le_of_ble_eq_true rfl) dX12_isRung_93 (fun x45 G9 H locs hq hB => ?_)
        obtain ⟨rfl, i_x45⟩ := hq
        refine iv_cVi X k_good k_mf_X12_astrayOf k_im_X12_astrayOf k_sel_X12_astrayOf k_ml_X12_359 ft_X12 hB a_h0 sh_12 (As := [.int x_0, .int x45]) (c_X12_astrayOf l D tys base G24 h0 g_h0 r_h0 a_h0 x_0 i_x_0 x45 i_x45) ⟨rfl, rfl⟩ ⟨Nat.le_of_ble_eq_true rfl, Nat.le_of_ble_eq_true rfl⟩ ⟨Nat.le_of_ble_eq_true rfl, Nat.le_of_ble_eq_true rfl⟩ rfl rfl hl.1 (Nat.le_of_ble_eq_true rfl) dX12_isRung_96 (fun x46 G9 H locs hq hB => ?_)
        obtain ⟨hm, i_x46⟩ := hq
        obtain ⟨G47, hG9⟩ : ∃ g, g = G9 := ⟨_, rfl⟩
        rw [← hG9] at hm hB
        have hM := hM.stp hm (by decide)
        have a_h0 := hm.at a_h0 (by decide)
        refine lv_istore (lv' := [(5, .int x46), (4, .int x23), (3, .int x3), (2, .int x1), (0, .ref h0), (1, .int x_0)]) hx hb dX12_isRung_99 hl (by decide) rfl (fun ls hl => ?_)
        refine lv_aload_n hx hb dX12_isRung_101 rfl (lv_at hl 4 rfl) ?_
        refine lv_iload_n hx hb dX12_isRung_102 rfl (lv_at hl 5 rfl) ?_
        refine lv_bipush (v := 6) hx hb dX12_isRung_103 (by decide) ?_
        refine lv_iconst (v := 1) hx hb dX12_isRung_105 (by decide) ?_
        refine iv_cVv X k_good k_mf_X12_bells k_im_X12_bells k_sel_X12_bells k_ml_X12_72 ft_X12 hB a_h0 sh_12 (As := [.int x_0, .int 6, .int 1]) (c_X12_bells l D tys base G47 h0 g_h0 r_h0 a_h0 x_0 i_x_0 6 (q_6.wk (by decide)) 1 (q_1.wk (by decide)) (fun h => absurd h (by decide)) (fun h => absurd h (by decide))) ⟨rfl, rfl⟩ ⟨Nat.le_of_ble_eq_true rfl, Nat.le_of_ble_eq_true rfl⟩ ⟨Nat.le_of_ble_eq_true rfl, Nat.le_of_ble_eq_true rfl⟩ rfl rfl hl.1 (Nat.le_of_ble_eq_true rfl) dX12_isRung_106 (fun G9 H locs hq hB => ?_)
        have hm := hq
        obtain ⟨G48, hG9⟩ : ∃ g, g = G9 := ⟨_, rfl⟩
        rw [← hG9] at hm hB
        have hM := hM.stp hm (by decide)
        have a_h0 := hm.at a_h0 (by decide)
        refine lv_aload_n hx hb dX12_isRung_109 rfl (lv_at hl 4 rfl) ?_
        refine lv_iload_n hx hb dX12_isRung_110 rfl (lv_at hl 5 rfl) ?_
        refine lv_iload hx hb dX12_isRung_111 (lv_at hl 0 rfl) ?_
        refine iv_cVi X k_good k_mf_X12_comesOne k_im_X12_comesOne k_sel_X12_comesOne k_ml_X12_362 ft_X12 hB a_h0 sh_12 (As := [.int x_0, .int x46]) (c_X12_comesOne l D tys base G48 h0 g_h0 r_h0 a_h0 x_0 i_x_0 x46 i_x46) ⟨rfl, rfl⟩ ⟨Nat.le_of_ble_eq_true rfl, Nat.le_of_ble_eq_true rfl⟩ ⟨Nat.le_of_ble_eq_true rfl, Nat.le_of_ble_eq_true rfl⟩ rfl rfl hl.1 (Nat.le_of_ble_eq_true rfl) dX12_isRung_113 (fun x49 G9 H locs hq hB => ?_)
        obtain ⟨hm, i_x49⟩ := hq
        obtain ⟨G50, hG9⟩ : ∃ g, g = G9 := ⟨_, rfl⟩
        rw [← hG9] at hm hB
        have hM := hM.stp hm (by decide)
        have a_h0 := hm.at a_h0 (by decide)
        refine lv_aload_n hx hb dX12_isRung_116 rfl (lv_at hl 4 rfl) ?_
        refine lv_iload_n hx hb dX12_isRung_117 rfl (lv_at hl 5 rfl) ?_
        refine lv_iconst (v := 4) hx hb dX12_isRung_118 (by decide) ?_
        refine iv_cVi X k_good k_mf_X12_ofBell k_im_X12_ofBell k_sel_X12_ofBell k_ml_X12_282 ft_X12 hB a_h0 sh_12 (As := [.int x_0, .int 4]) (c_X12_ofBell l D tys base G50 h0 g_h0 r_h0 a_h0 x_0 i_x_0 4 (q_4.wk (by decide))) ⟨rfl, rfl⟩ ⟨Nat.le_of_ble_eq_true rfl, Nat.le_of_ble_eq_true rfl⟩ ⟨Nat.le_of_ble_eq_true rfl, Nat.le_of_ble_eq_true rfl⟩ rfl rfl hl.1 (Nat.le_of_ble_eq_true rfl) dX12_isRung_119 (fun x51 G9 H locs hq hB => ?_)
        obtain ⟨rfl, i_x51, cp52, cp53⟩ := hq
        refine lv_iconst (v := 1) hx hb dX12_isRung_122 (by decide) ?_
        refine lv_icmp_ne (tgt := 135) hx hb dX12_isRung_123 (by decide) (fun c54 => ?_) (fun c54 => ?_)
        · skip
          refine lv_iconst (v := 0) hx hb dX12_isRung_135 (by decide) ?_
          refine iv_iadd hx hb i_x49 q_0 (lo := 0) (hi := 1) (by decide) dX12_isRung_136 (fun x55 e_x55 i_x55 => ?_)
          exact iv_iret X hr hlocks hB ⟨hM, (i_x55.wk (by decide))⟩ dX12_isRung_137
        · skip
          have i55_x51 : iv_R 1 1 x51 := ((i_x51.cutLo (n := 1) (iv_eq_r c54 q_1).1).cutHi (n := 1) (iv_eq_r c54 q_1).2)
          refine lv_aload_n hx hb dX12_isRung_126 rfl (lv_at hl 4 rfl) ?_
          refine lv_iload_n hx hb dX12_isRung_127 rfl (lv_at hl 5 rfl) ?_
          refine lv_iload_n hx hb dX12_isRung_128 rfl (lv_at hl 5 rfl) ?_
          refine iv_cVi X k_good k_mf_X12_comesOne k_im_X12_comesOne k_sel_X12_comesOne k_ml_X12_362 ft_X12 hB a_h0 sh_12 (As := [.int x_0, .int x_0]) (c_X12_comesOne l D tys base G50 h0 g_h0 r_h0 a_h0 x_0 i_x_0 x_0 i_x_0) ⟨rfl, rfl⟩ ⟨Nat.le_of_ble_eq_true rfl, Nat.le_of_ble_eq_true rfl⟩ ⟨Nat.le_of_ble_eq_true rfl, Nat.le_of_ble_eq_true rfl⟩ rfl rfl hl.1 (Nat.le_of_ble_eq_true rfl) dX12_isRung_129 (fun x57 G9 H locs hq hB => ?_)
          obtain ⟨hm, i_x57⟩ := hq
          obtain ⟨G58, hG9⟩ : ∃ g, g = G9 := ⟨_, rfl⟩
          rw [← hG9] at hm hB
          have hM := hM.stp hm (by decide)
          have a_h0 := hm.at a_h0 (by decide)
          refine lv_goto (tgt := 136) hx hb dX12_isRung_132 (by decide) ?_
          refine iv_iadd hx hb i_x49 i_x57 (lo := 0) (hi := 2) (by decide) dX12_isRung_136 (fun x59 e_x59 i_x59 => ?_)
          exact iv_iret X hr hlocks hB ⟨hM, i_x59⟩ dX12_isRung_137
    · skip
      have i59_x1 : iv_R (-2147483648) 999 x1 := (i_x1.cutHi (n := 999) (iv_le_r (iv_nlt c21) i_x19))
      refine lv_iconst (v := 0) hx hb dX12_isRung_67 (by decide) ?_
      exact iv_iret X hr hlocks hB ⟨hM, (q_0.wk (by decide))⟩ dX12_isRung_68
