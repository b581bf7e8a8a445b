def iv_la (gw : Nat → Int32) (i : Nat) (h : Int32) : Prop := (h + 24 - gw (207 + 3 * i)).toInt.tmod 24 < (gw (208 + 3 * i)).toInt
def iv_hl (gw : Nat → Int32) (b h : Int32) : Prop := ∃ i : Nat, (i : Int) < (gw 149).toInt ∧ gw (206 + 3 * i) = b ∧ iv_la gw i h
def iv_sn (gw : Nat → Int32) (b h : Int32) : Prop := gw (66 + 8 * b.toInt.toNat + 6) = 0 ∧ iv_hl gw b h
def iv_sd0 (gw : Nat → Int32) (b n : Int32) : Prop := ∀ h : Int32, iv_R 0 23 h → h.toInt < n.toInt → ¬ iv_sn gw b h
theorem iv_sd0_s {gw : Nat → Int32} {b n n' : Int32} (h : iv_sd0 gw b n) (h1 : ¬ iv_sn gw b n) (e : n'.toInt = n.toInt + 1) : iv_sd0 gw b n' := fun k hk hlt => (Decidable.em (k.toInt < n.toInt)).elim (fun q => h k hk q) (fun q => (Int32.toInt_inj.mp (show n.toInt = k.toInt by omega)) ▸ h1)
theorem iv_sd0_w {gw : Nat → Int32} {b n n' : Int32} (h : iv_sd0 gw b n') (e : n'.toInt = n.toInt + 1) : iv_sd0 gw b n := fun k hk hlt => h k hk (by omega)
theorem iv_or0 (x : Int32) : x ||| 0 = x := by
  apply Int32.toBitVec_inj.mp
  show x.toBitVec ||| 0#32 = x.toBitVec
  exact BitVec.or_zero
theorem iv_orn {x y : Int32} (h : x ||| y = 0) : y = 0 := by
  have h1 : x.toBitVec ||| y.toBitVec = 0#32 := congrArg Int32.toBitVec h
  exact Int32.toBitVec_inj.mp (BitVec.or_eq_zero_iff.mp h1).2
set_option maxHeartbeats 4000000 in
set_option maxRecDepth 100000 in
theorem e_X12_ofBell (l : Launch) (D : va_G) (tys : List (ClassId × FieldType)) (base : Nat) (G : iv_G) (h0 : Nat) (g_h0 : Nat → Int32) (r_h0 : Nat → Nat) (a_h0 : G h0 = some (12, g_h0, r_h0)) (x_0 : Int32) (i_x_0 : iv_R 0 9 x_0) (x_1 : Int32) (i_x_1 : iv_R 0 7 x_1) (gw : Nat → Int32) (rw : Nat → Nat) (hw : G (r_h0 0) = some (60, gw, rw)) : Met l yX12_ofBell (Cond.code yX12_ofBell cX12_ofBell 3 (some .int) :: iv_W0) ({ frames := 0, cells := 0, slots := 0, locals := 0 }) (iv_Pc iv_sh D classes tys base G [.ref h0, .int x_0, .int x_1]) (iv_Qi iv_sh D classes tys base (fun v G' => G = G' ∧ v = gw (66 + 8 * x_0.toInt.toNat + x_1.toInt.toNat))) 0 0 (iv_A base) := by
  refine iv_head (by decide) (Nat.le_of_ble_eq_true rfl) ?_
  intro p e s m args below meth c ls X hr hlocks hname hB hl
  have X := X
  have hx := X.1.1
  have hb := X.1.2.1
  have hl : lv_has ls 3 [(0, .ref h0), (1, .int x_0), (2, .int x_1)] := hl
  refine lv_aload_n hx hb dX12_ofBell_0 rfl (lv_at hl 0 rfl) ?_
  refine iv_getr X ft_X12 hB a_h0 sh_12 0 (by decide) rfl k_fl_X12_7 dX12_ofBell_1 (fun b1 g_b1 r_b1 e_b1 a_b1 => ?_)
  refine lv_bipush (v := 66) hx hb dX12_ofBell_4 (by decide) ?_
  refine lv_bipush (v := 8) hx hb dX12_ofBell_6 (by decide) ?_
  refine lv_iload_n hx hb dX12_ofBell_8 rfl (lv_at hl 1 rfl) ?_
  refine iv_imul hx hb q_8 i_x_0 (lo := 0) (hi := 72) (by decide) dX12_ofBell_9 (fun x2 e_x2 i_x2 => ?_)
  refine iv_iadd hx hb q_66 i_x2 (lo := 66) (hi := 138) (by decide) dX12_ofBell_10 (fun x3 e_x3 i_x3 => ?_)
  refine lv_iload_n hx hb dX12_ofBell_11 rfl (lv_at hl 2 rfl) ?_
  refine iv_iadd hx hb i_x3 i_x_1 (lo := 66) (hi := 145) (by decide) dX12_ofBell_12 (fun x4 e_x4 i_x4 => ?_)
  refine iv_aldP X hB a_b1 sh_60 (iv_in i_x4 (by decide)) dX12_ofBell_13 (fun hP => ?_)
  refine lv_topi (fun x5 e_x5 => ?_)
  have i_x5 := iv_R.all x5
  exact iv_iret X hr hlocks hB ⟨rfl, by have w1 : x2.toInt = 8 * x_0.toInt := e_x2; have w2 : x3.toInt = 66 + x2.toInt := e_x3; have w3 : x4.toInt = x3.toInt + x_1.toInt := e_x4; have w4 := i_x_0.1; have w5 := i_x_1.1; rw [e_x5, iv_samew hw e_b1 a_b1]; congr 1; show x4.toInt.toNat = _; omega⟩ dX12_ofBell_14
set_option maxHeartbeats 4000000 in
set_option maxRecDepth 100000 in
theorem e_X12_isLineAt (l : Launch) (D : va_G) (tys : List (ClassId × FieldType)) (base : Nat) (G : iv_G) (h0 : Nat) (g_h0 : Nat → Int32) (r_h0 : Nat → Nat) (a_h0 : G h0 = some (12, g_h0, r_h0)) (x_0 : Int32) (i_x_0 : iv_R 0 19 x_0) (x_1 : Int32) (i_x_1 : iv_R (-2147483648) 2147483647 x_1) (gw : Nat → Int32) (rw : Nat → Nat) (hw : G (r_h0 0) = some (60, gw, rw)) : Met l yX12_isLineAt (Cond.code yX12_isLineAt cX12_isLineAt 3 (some .boolean) :: iv_W0) ({ frames := 0, cells := 0, slots := 0, locals := 0 }) (iv_Pc iv_sh D classes tys base G [.ref h0, .int x_0, .int x_1]) (iv_Qi iv_sh D classes tys base (fun v G' => G = G' ∧ iv_R 0 1 v ∧ (v = 0 ↔ ¬ iv_la gw x_0.toInt.toNat x_1))) 0 0 (iv_A base) := by
  refine iv_head (by decide) (Nat.le_of_ble_eq_true rfl) ?_
  intro p e s m args below meth c ls X hr hlocks hname hB hl
  have X := X
  have hx := X.1.1
  have hb := X.1.2.1
  have hl : lv_has ls 3 [(0, .ref h0), (1, .int x_0), (2, .int x_1)] := hl
  refine lv_iload_n hx hb dX12_isLineAt_0 rfl (lv_at hl 2 rfl) ?_
  refine lv_bipush (v := 24) hx hb dX12_isLineAt_1 (by decide) ?_
  refine lv_iadd hx hb dX12_isLineAt_3 ?_
  refine lv_topi (fun x1 e_x1 => ?_)
  have i_x1 := iv_R.all x1
  refine lv_aload_n hx hb dX12_isLineAt_4 rfl (lv_at hl 0 rfl) ?_
  refine iv_getr X ft_X12 hB a_h0 sh_12 0 (by decide) rfl k_fl_X12_7 dX12_isLineAt_5 (fun b2 g_b2 r_b2 e_b2 a_b2 => ?_)
  refine lv_sipush (v := 206) hx hb dX12_isLineAt_8 (by decide) ?_
  refine lv_iconst (v := 3) hx hb dX12_isLineAt_11 (by decide) ?_
  refine lv_iload_n hx hb dX12_isLineAt_12 rfl (lv_at hl 1 rfl) ?_
  refine iv_imul hx hb q_3 i_x_0 (lo := 0) (hi := 57) (by decide) dX12_isLineAt_13 (fun x3 e_x3 i_x3 => ?_)
  refine iv_iadd hx hb q_206 i_x3 (lo := 206) (hi := 263) (by decide) dX12_isLineAt_14 (fun x4 e_x4 i_x4 => ?_)
  refine lv_iconst (v := 1) hx hb dX12_isLineAt_15 (by decide) ?_
  refine iv_iadd hx hb i_x4 q_1 (lo := 207) (hi := 264) (by decide) dX12_isLineAt_16 (fun x5 e_x5 i_x5 => ?_)
  refine iv_wald_f X hB a_b2 i_x5 (by decide) dX12_isLineAt_17 (fun x6 e_x6 i_x6 => ?_)
  refine lv_isub hx hb dX12_isLineAt_18 ?_
  refine lv_topi (fun x7 e_x7 => ?_)
  have i_x7 := iv_R.all x7
  refine lv_bipush (v := 24) hx hb dX12_isLineAt_19 (by decide) ?_
  refine iv_irem hx hb i_x7 q_24 (lo := (-23)) (hi := 23) (by decide) dX12_isLineAt_21 (fun x8 e_x8 i_x8 => ?_)
  refine lv_aload_n hx hb dX12_isLineAt_22 rfl (lv_at hl 0 rfl) ?_
  refine iv_getr0 X ft_X12 hB a_h0 sh_12 0 (by decide) rfl k_fl_X12_7 dX12_isLineAt_23 e_b2 ?_
  refine lv_sipush (v := 206) hx hb dX12_isLineAt_26 (by decide) ?_
  refine lv_iconst (v := 3) hx hb dX12_isLineAt_29 (by decide) ?_
  refine lv_iload_n hx hb dX12_isLineAt_30 rfl (lv_at hl 1 rfl) ?_
  refine iv_imul hx hb q_3 i_x_0 (lo := 0) (hi := 57) (by decide) dX12_isLineAt_31 (fun x9 e_x9 i_x9 => ?_)
  refine iv_iadd hx hb q_206 i_x9 (lo := 206) (hi := 263) (by decide) dX12_isLineAt_32 (fun x10 e_x10 i_x10 => ?_)
  refine lv_iconst (v := 2) hx hb dX12_isLineAt_33 (by decide) ?_
  refine iv_iadd hx hb i_x10 q_2 (lo := 208) (hi := 265) (by decide) dX12_isLineAt_34 (fun x11 e_x11 i_x11 => ?_)
  refine iv_wald_f X hB a_b2 i_x11 (by decide) dX12_isLineAt_35 (fun x12 e_x12 i_x12 => ?_)
  have w0 := i_x_0.1
  have hx6 : x6 = gw (207 + 3 * x_0.toInt.toNat) := by have w1 : x3.toInt = 3 * x_0.toInt := e_x3; have w2 : x4.toInt = 206 + x3.toInt := e_x4; have w3 : x5.toInt = x4.toInt + 1 := e_x5; rw [e_x6, iv_samew hw e_b2 a_b2]; congr 1; show x5.toInt.toNat = _; omega
  have hx12 : x12 = gw (208 + 3 * x_0.toInt.toNat) := by have w1 : x9.toInt = 3 * x_0.toInt := e_x9; have w2 : x10.toInt = 206 + x9.toInt := e_x10; have w3 : x11.toInt = x10.toInt + 2 := e_x11; rw [e_x12, iv_samew hw e_b2 a_b2]; congr 1; show x11.toInt.toNat = _; omega
  have hla : iv_la gw x_0.toInt.toNat x_1 ↔ x8.toInt < x12.toInt := by
    have w1 : x8.toInt = x7.toInt.tmod 24 := e_x8
    rw [w1, e_x7, e_x1, hx6, hx12]; exact Iff.rfl
  refine lv_icmp_ge (tgt := 43) hx hb dX12_isLineAt_36 (by decide) (fun c13 => ?_) (fun c13 => ?_)
  · skip
    have i13_x12 : iv_R (-2147483648) 23 x12 := (i_x12.cutHi (n := 23) (iv_le_r c13 i_x8))
    refine lv_iconst (v := 0) hx hb dX12_isLineAt_43 (by decide) ?_
    exact iv_zret X hr hlocks hB (q_0.wk (by decide)) ⟨rfl, (q_0.wk (by decide)), fun _ h => absurd (hla.mp h) (Int.not_lt.mpr (Int32.le_iff_toInt_le.mp c13)), fun _ => rfl⟩ dX12_isLineAt_44
  · skip
    have i14_x12 : iv_R (-22) 2147483647 x12 := (i_x12.cutLo (n := (-22)) (iv_lt_l (iv_nle c13) i_x8 (by decide)))
    refine lv_iconst (v := 1) hx hb dX12_isLineAt_39 (by decide) ?_
    refine lv_goto (tgt := 44) hx hb dX12_isLineAt_40 (by decide) ?_
    exact iv_zret X hr hlocks hB (q_1.wk (by decide)) ⟨rfl, (q_1.wk (by decide)), fun h => absurd h (by decide), fun h => absurd (hla.mpr (Int.not_le.mp (fun q => c13 (Int32.le_iff_toInt_le.mpr q)))) h⟩ dX12_isLineAt_44
set_option maxHeartbeats 4000000 in
set_option maxRecDepth 100000 in
theorem e_X12_hasLine (l : Launch) (D : va_G) (tys : List (ClassId × FieldType)) (base : Nat) (G : iv_G) (h0 : Nat) (g_h0 : Nat → Int32) (r_h0 : Nat → Nat) (a_h0 : G h0 = some (12, g_h0, r_h0)) (x_0 : Int32) (i_x_0 : iv_R 0 9 x_0) (x_1 : Int32) (i_x_1 : iv_R (-2147483648) 2147483647 x_1) (gw : Nat → Int32) (rw : Nat → Nat) (hw : G (r_h0 0) = some (60, gw, rw)) : Met l yX12_hasLine (Cond.code yX12_hasLine cX12_hasLine 4 (some .boolean) :: iv_W0) ({ frames := 1, cells := 0, slots := 0, locals := 22 }) (iv_Pc iv_sh D classes tys base G [.ref h0, .int x_0, .int x_1]) (iv_Qi iv_sh D classes tys base (fun v G' => G = G' ∧ iv_R 0 1 v ∧ (v = 0 ↔ ¬ iv_hl gw x_0 x_1))) 0 0 (iv_A base) := by
  refine iv_head (by decide) (Nat.le_of_ble_eq_true rfl) ?_
  intro p e s m args below meth c ls X hr hlocks hname hB hl
  have X := X
  have hx := X.1.1
  have hb := X.1.2.1
  have hl : lv_has ls 4 [(0, .ref h0), (1, .int x_0), (2, .int x_1)] := hl
  refine lv_iconst (v := 0) hx hb dX12_hasLine_0 (by decide) ?_
  refine lv_istore_n (lv' := [(3, .int 0), (0, .ref h0), (1, .int x_0), (2, .int x_1)]) hx hb dX12_hasLine_1 rfl hl (by decide) rfl (fun ls hl => ?_)
  have L_2 : ∀ (n_2 : Nat) (H : Heap) (locs : List Loc) (hB : iv_B iv_sh D classes tys base G s.heap H locs) (x1 : Int32) (i_x1 : iv_R 0 20 x1) (inv : ∀ i : Nat, (i : Int) < x1.toInt → ¬ (gw (206 + 3 * i) = x_0 ∧ iv_la gw i x_1)) (hn_2 : (21 - x1.toInt).toNat < n_2) (ls : Array Slot) (hl : lv_has ls 4 [(3, .int x1), (0, .ref h0), (1, .int x_0), (2, .int x_1)]), W p l e ({ frames := 1, cells := 0, slots := 0, locals := 22 } : Room) s m args below meth c H locs 0 0 (MQ below (iv_Qi iv_sh D classes tys base (fun v G' => G = G' ∧ iv_R 0 1 v ∧ (v = 0 ↔ ¬ iv_hl gw x_0 x_1))) args s 0 0 (iv_A base)) (F0 m 2 ls []) := by
    intro n_2
    induction n_2 with
    | zero => intro H locs hB x1 i_x1 inv hn_2 ls hl; exact absurd hn_2 (Nat.not_lt_zero _)
    | succ n_2 ih_2 =>
      intro H locs hB x1 i_x1 inv hn_2 ls hl
      refine lv_iload_n hx hb dX12_hasLine_2 rfl (lv_at hl 0 rfl) ?_
      refine lv_aload_n hx hb dX12_hasLine_3 rfl (lv_at hl 1 rfl) ?_
      refine iv_getr X ft_X12 hB a_h0 sh_12 0 (by decide) rfl k_fl_X12_7 dX12_hasLine_4 (fun b2 g_b2 r_b2 e_b2 a_b2 => ?_)
      refine lv_sipush (v := 149) hx hb dX12_hasLine_7 (by decide) ?_
      refine iv_wald_c X hB a_b2 q_149 (by decide) (lo := 0) (hi' := 20) (by decide) dX12_hasLine_10 (fun x3 e_x3 i_x3 => ?_)
      refine lv_icmp_ge (tgt := 47) hx hb dX12_hasLine_11 (by decide) (fun c4 => ?_) (fun c4 => ?_)
      · skip
        refine lv_iconst (v := 0) hx hb dX12_hasLine_47 (by decide) ?_
        exact iv_zret X hr hlocks hB (q_0.wk (by decide)) ⟨rfl, (q_0.wk (by decide)), fun _ h => (by obtain ⟨i, h1, h2⟩ := h; have w2 : x3 = gw 149 := (by rw [e_x3, iv_samew hw e_b2 a_b2]; rfl); have w1 := Int32.le_iff_toInt_le.mp c4; rw [w2] at w1; exact inv i (by omega) h2), fun _ => rfl⟩ dX12_hasLine_48
      · skip
        have i4_x1 : iv_R 0 19 x1 := (i_x1.cutHi (n := 19) (iv_lt_r (iv_nle c4) i_x3 (by decide)))
        have i5_x3 : iv_R 1 20 x3 := (i_x3.cutLo (n := 1) (iv_lt_l (iv_nle c4) i_x1 (by decide)))
        refine lv_aload_n hx hb dX12_hasLine_14 rfl (lv_at hl 1 rfl) ?_
        refine iv_getr0 X ft_X12 hB a_h0 sh_12 0 (by decide) rfl k_fl_X12_7 dX12_hasLine_15 e_b2 ?_
        refine lv_sipush (v := 206) hx hb dX12_hasLine_18 (by decide) ?_
        refine lv_iconst (v := 3) hx hb dX12_hasLine_21 (by decide) ?_
        refine lv_iload_n hx hb dX12_hasLine_22 rfl (lv_at hl 0 rfl) ?_
        refine iv_imul hx hb q_3 i4_x1 (lo := 0) (hi := 57) (by decide) dX12_hasLine_23 (fun x7 e_x7 i_x7 => ?_)
        refine iv_iadd hx hb q_206 i_x7 (lo := 206) (hi := 263) (by decide) dX12_hasLine_24 (fun x8 e_x8 i_x8 => ?_)
        refine iv_wald_f X hB a_b2 i_x8 (by decide) dX12_hasLine_25 (fun x9 e_x9 i_x9 => ?_)
        refine lv_iload_n hx hb dX12_hasLine_26 rfl (lv_at hl 2 rfl) ?_
        have hx9 : x9 = gw (206 + 3 * x1.toInt.toNat) := by have w0 := i_x1.1; have w1 : x7.toInt = 3 * x1.toInt := e_x7; have w2 : x8.toInt = 206 + x7.toInt := e_x8; rw [e_x9, iv_samew hw e_b2 a_b2]; congr 1; show x8.toInt.toNat = _; omega
        refine lv_icmp_ne (tgt := 41) hx hb dX12_hasLine_27 (by decide) (fun c10 => ?_) (fun c10 => ?_)
        · skip
          refine iv_iinc hx hb i4_x1 (lo := 1) (hi := 20) (by decide) dX12_hasLine_41 hl (k := 0) rfl (by decide) (fun x11 ls e_x11 i_x11 hl => ?_)
          have hl : lv_has ls 4 [(3, .int x11), (0, .ref h0), (1, .int x_0), (2, .int x_1)] := hl
          refine lv_goto (tgt := 2) hx hb dX12_hasLine_44 (by decide) ?_
          exact ih_2 _ _ hB x11 (i_x11.wk (by decide)) (by have w9 : x11.toInt = x1.toInt + 1 := e_x11; have w8 := i_x1.1; exact fun i hi => (Decidable.em ((i : Int) < x1.toInt)).elim (fun q => inv i q) (fun q => (show x1.toInt.toNat = i from (by omega)) ▸ (fun h => c10 (hx9.trans h.1)))) (iv_mup (c := 1) i_x1 (by decide) (by decide) (by omega) hn_2) _ (lv_sub hl [0, 1, 2, 3] rfl)
        · skip
          have i11_x9 : iv_R 0 9 x9 := ((i_x9.cutLo (n := 0) (iv_eq_r c10 i_x_0).1).cutHi (n := 9) (iv_eq_r c10 i_x_0).2)
          refine lv_aload_n hx hb dX12_hasLine_30 rfl (lv_at hl 1 rfl) ?_
          refine lv_iload_n hx hb dX12_hasLine_31 rfl (lv_at hl 0 rfl) ?_
          refine lv_iload_n hx hb dX12_hasLine_32 rfl (lv_at hl 3 rfl) ?_
          refine iv_cVi X k_good k_mf_X12_isLineAt k_im_X12_isLineAt k_sel_X12_isLineAt k_ml_X12_296 ft_X12 hB a_h0 sh_12 (As := [.int x1, .int x_1]) (e_X12_isLineAt l D tys base G h0 g_h0 r_h0 a_h0 x1 i4_x1 x_1 i_x_1 gw rw hw) ⟨rfl, rfl⟩ ⟨Nat.le_of_ble_eq_true rfl, Nat.le_of_ble_eq_true rfl⟩ ⟨Nat.le_of_ble_eq_true rfl, Nat.le_of_ble_eq_true rfl⟩ rfl rfl hl.1 (Nat.le_of_ble_eq_true rfl) dX12_hasLine_33 (fun x13 G9 H locs hq hB => ?_)
          obtain ⟨rfl, i_x13, eq13⟩ := hq
          refine lv_if_eq (tgt := 41) hx hb dX12_hasLine_36 (by decide) (fun c14 => ?_) (fun c14 => ?_)
          · skip
            have i14_x13 : iv_R 0 0 x13 := (i_x13.cutHi (n := 0) (iv_eq_r c14 q_0).2)
            refine iv_iinc hx hb i4_x1 (lo := 1) (hi := 20) (by decide) dX12_hasLine_41 hl (k := 0) rfl (by decide) (fun x16 ls e_x16 i_x16 hl => ?_)
            have hl : lv_has ls 4 [(3, .int x16), (0, .ref h0), (1, .int x_0), (2, .int x_1)] := hl
            refine lv_goto (tgt := 2) hx hb dX12_hasLine_44 (by decide) ?_
            exact ih_2 _ _ hB x16 (i_x16.wk (by decide)) (by have w9 : x16.toInt = x1.toInt + 1 := e_x16; have w8 := i_x1.1; exact fun i hi => (Decidable.em ((i : Int) < x1.toInt)).elim (fun q => inv i q) (fun q => (show x1.toInt.toNat = i from (by omega)) ▸ (fun h => eq13.mp c14 h.2))) (iv_mup (c := 1) i_x1 (by decide) (by decide) (by omega) hn_2) _ (lv_sub hl [0, 1, 2, 3] rfl)
          · skip
            have i16_x13 : iv_R 1 1 x13 := iv_ne_lo c14 i_x13 q_0 (by decide)
            refine lv_iconst (v := 1) hx hb dX12_hasLine_39 (by decide) ?_
            exact iv_zret X hr hlocks hB (q_1.wk (by decide)) ⟨rfl, (q_1.wk (by decide)), fun h => absurd h (by decide), fun h => absurd ⟨x1.toInt.toNat, (by have w2 : x3 = gw 149 := (by rw [e_x3, iv_samew hw e_b2 a_b2]; rfl); have w1 : ¬ x3.toInt ≤ x1.toInt := fun h => c4 (Int32.le_iff_toInt_le.mpr h); rw [w2] at w1; have w3 := i_x1.1; omega), hx9.symm.trans c10, Classical.byContradiction (fun q => c14 (eq13.mpr q))⟩ h⟩ dX12_hasLine_40
  exact L_2 _ _ _ hB 0 (q_0.wk (by decide)) (fun j hj => absurd hj (by have w1 : (0 : Int32).toInt = 0 := rfl; omega)) (Nat.lt_succ_self _) _ (lv_sub hl [0, 1, 2, 3] rfl)
set_option maxHeartbeats 4000000 in
set_option maxRecDepth 100000 in
theorem e_X12_sounds (l : Launch) (D : va_G) (tys : List (ClassId × FieldType)) (base : Nat) (G : iv_G) (h0 : Nat) (g_h0 : Nat → Int32) (r_h0 : Nat → Nat) (a_h0 : G h0 = some (12, g_h0, r_h0)) (x_0 : Int32) (i_x_0 : iv_R 0 9 x_0) (x_1 : Int32) (i_x_1 : iv_R 0 23 x_1) (gw : Nat → Int32) (rw : Nat → Nat) (hw : G (r_h0 0) = some (60, gw, rw)) : Met l yX12_sounds (Cond.code yX12_sounds cX12_sounds 3 (some .boolean) :: iv_W0) ({ frames := 2, cells := 0, slots := 0, locals := 45 }) (iv_Pc iv_sh D classes tys base G [.ref h0, .int x_0, .int x_1]) (iv_Qi iv_sh D classes tys base (fun v G' => G = G' ∧ iv_R 0 1 v ∧ (v = 0 ↔ ¬ iv_sn gw x_0 x_1))) 0 0 (iv_A base) := by
  refine iv_head (by decide) (Nat.le_of_ble_eq_true rfl) ?_
  intro p e s m args below meth c ls X hr hlocks hname hB hl
  have X := X
  have hx := X.1.1
  have hb := X.1.2.1
  have hl : lv_has ls 3 [(0, .ref h0), (1, .int x_0), (2, .int x_1)] := hl
  refine lv_aload_n hx hb dX12_sounds_0 rfl (lv_at hl 0 rfl) ?_
  refine lv_iload_n hx hb dX12_sounds_1 rfl (lv_at hl 1 rfl) ?_
  refine lv_bipush (v := 6) hx hb dX12_sounds_2 (by decide) ?_
  refine iv_cVi X k_good k_mf_X12_ofBell k_im_X12_ofBell k_sel_X12_ofBell k_ml_X12_282 ft_X12 hB a_h0 sh_12 (As := [.int x_0, .int 6]) (e_X12_ofBell l D tys base G h0 g_h0 r_h0 a_h0 x_0 i_x_0 6 (q_6.wk (by decide)) gw rw hw) ⟨rfl, rfl⟩ ⟨Nat.le_of_ble_eq_true rfl, Nat.le_of_ble_eq_true rfl⟩ ⟨Nat.le_of_ble_eq_true rfl, Nat.le_of_ble_eq_true rfl⟩ rfl rfl hl.1 (Nat.le_of_ble_eq_true rfl) dX12_sounds_4 (fun x1 G9 H locs hq hB => ?_)
  obtain ⟨rfl, eq1⟩ := hq
  have i_x1 := iv_R.all x1
  have hx1 : x1 = gw (66 + 8 * x_0.toInt.toNat + 6) := eq1
  refine lv_if_ne (tgt := 23) hx hb dX12_sounds_7 (by decide) (fun c4 => ?_) (fun c4 => ?_)
  · skip
    refine lv_iconst (v := 0) hx hb dX12_sounds_23 (by decide) ?_
    exact iv_zret X hr hlocks hB (q_0.wk (by decide)) ⟨rfl, (q_0.wk (by decide)), fun _ h => c4 (hx1.trans h.1), fun _ => rfl⟩ dX12_sounds_24
  · skip
    have i4_x1 : iv_R 0 0 x1 := ((i_x1.cutLo (n := 0) (iv_eq_r c4 q_0).1).cutHi (n := 0) (iv_eq_r c4 q_0).2)
    refine lv_aload_n hx hb dX12_sounds_10 rfl (lv_at hl 0 rfl) ?_
    refine lv_iload_n hx hb dX12_sounds_11 rfl (lv_at hl 1 rfl) ?_
    refine lv_iload_n hx hb dX12_sounds_12 rfl (lv_at hl 2 rfl) ?_
    refine iv_cVi X k_good k_mf_X12_hasLine k_im_X12_hasLine k_sel_X12_hasLine k_ml_X12_299 ft_X12 hB a_h0 sh_12 (As := [.int x_0, .int x_1]) (e_X12_hasLine l D tys base G h0 g_h0 r_h0 a_h0 x_0 i_x_0 x_1 (i_x_1.wk (by decide)) gw rw hw) ⟨rfl, rfl⟩ ⟨Nat.le_of_ble_eq_true rfl, Nat.le_of_ble_eq_true rfl⟩ ⟨Nat.le_of_ble_eq_true rfl, Nat.le_of_ble_eq_true rfl⟩ rfl rfl hl.1 (Nat.le_of_ble_eq_true rfl) dX12_sounds_13 (fun x6 G9 H locs hq hB => ?_)
    obtain ⟨rfl, i_x6, eq6⟩ := hq
    refine lv_if_eq (tgt := 23) hx hb dX12_sounds_16 (by decide) (fun c7 => ?_) (fun c7 => ?_)
    · skip
      have i7_x6 : iv_R 0 0 x6 := (i_x6.cutHi (n := 0) (iv_eq_r c7 q_0).2)
      refine lv_iconst (v := 0) hx hb dX12_sounds_23 (by decide) ?_
      exact iv_zret X hr hlocks hB (q_0.wk (by decide)) ⟨rfl, (q_0.wk (by decide)), fun _ h => eq6.mp c7 h.2, fun _ => rfl⟩ dX12_sounds_24
    · skip
      have i8_x6 : iv_R 1 1 x6 := iv_ne_lo c7 i_x6 q_0 (by decide)
      refine lv_iconst (v := 1) hx hb dX12_sounds_19 (by decide) ?_
      refine lv_goto (tgt := 24) hx hb dX12_sounds_20 (by decide) ?_
      exact iv_zret X hr hlocks hB (q_1.wk (by decide)) ⟨rfl, (q_1.wk (by decide)), fun h => absurd h (by decide), fun h => absurd ⟨hx1.symm.trans c4, Classical.byContradiction (fun q => c7 (eq6.mpr q))⟩ h⟩ dX12_sounds_24
set_option maxHeartbeats 4000000 in
set_option maxRecDepth 100000 in
theorem e_X12_soundingOf (l : Launch) (D : va_G) (tys : List (ClassId × FieldType)) (base : Nat) (G : iv_G) (h0 : Nat) (g_h0 : Nat → Int32) (r_h0 : Nat → Nat) (a_h0 : G h0 = some (12, g_h0, r_h0)) (x_0 : Int32) (i_x_0 : iv_R 0 9 x_0) (gw : Nat → Int32) (rw : Nat → Nat) (hw : G (r_h0 0) = some (60, gw, rw)) : Met l yX12_soundingOf (Cond.code yX12_soundingOf cX12_soundingOf 4 (some .int) :: iv_W0) ({ frames := 3, cells := 0, slots := 0, locals := 67 }) (iv_Pc iv_sh D classes tys base G [.ref h0, .int x_0]) (iv_Qi iv_sh D classes tys base (fun v G' => G = G' ∧ iv_R 0 16777215 v ∧ (v = 0 ↔ iv_sd0 gw x_0 24))) 0 0 (iv_A base) := by
  refine iv_head (by decide) (Nat.le_of_ble_eq_true rfl) ?_
  intro p e s m args below meth c ls X hr hlocks hname hB hl
  have X := X
  have hx := X.1.1
  have hb := X.1.2.1
  have hl : lv_has ls 4 [(0, .ref h0), (1, .int x_0)] := hl
  refine lv_iconst (v := 0) hx hb dX12_soundingOf_0 (by decide) ?_
  refine lv_istore_n (lv' := [(2, .int 0), (0, .ref h0), (1, .int x_0)]) hx hb dX12_soundingOf_1 rfl hl (by decide) rfl (fun ls hl => ?_)
  refine lv_iconst (v := 0) hx hb dX12_soundingOf_2 (by decide) ?_
  refine lv_istore_n (lv' := [(3, .int 0), (2, .int 0), (0, .ref h0), (1, .int x_0)]) hx hb dX12_soundingOf_3 rfl hl (by decide) rfl (fun ls hl => ?_)
  have L_4 : ∀ (n_4 : Nat) (H : Heap) (locs : List Loc) (hB : iv_B iv_sh D classes tys base G s.heap H locs) (x1 : Int32) (i_x1 : iv_R 0 16777215 x1) (x2 : Int32) (i_x2 : iv_R 0 24 x2) (inv : x1 = 0 ↔ iv_sd0 gw x_0 x2) (hn_4 : (25 - x2.toInt).toNat < n_4) (ls : Array Slot) (hl : lv_has ls 4 [(3, .int x2), (2, .int x1), (0, .ref h0), (1, .int x_0)]), W p l e ({ frames := 3, cells := 0, slots := 0, locals := 67 } : Room) s m args below meth c H locs 0 0 (MQ below (iv_Qi iv_sh D classes tys base (fun v G' => G = G' ∧ iv_R 0 16777215 v ∧ (v = 0 ↔ iv_sd0 gw x_0 24))) args s 0 0 (iv_A base)) (F0 m 4 ls []) := by
    intro n_4
    induction n_4 with
    | zero => intro H locs hB x1 i_x1 x2 i_x2 inv hn_4 ls hl; exact absurd hn_4 (Nat.not_lt_zero _)
    | succ n_4 ih_4 =>
      intro H locs hB x1 i_x1 x2 i_x2 inv hn_4 ls hl
      refine lv_iload_n hx hb dX12_soundingOf_4 rfl (lv_at hl 0 rfl) ?_
      refine lv_bipush (v := 24) hx hb dX12_soundingOf_5 (by decide) ?_
      refine lv_icmp_ge (tgt := 35) hx hb dX12_soundingOf_7 (by decide) (fun c3 => ?_) (fun c3 => ?_)
      · skip
        have i3_x2 : iv_R 24 24 x2 := (i_x2.cutLo (n := 24) (iv_le_l c3 q_24))
        refine lv_iload_n hx hb dX12_soundingOf_35 rfl (lv_at hl 1 rfl) ?_
        exact iv_iret X hr hlocks hB ⟨rfl, i_x1, by have w1 : x2 = 24 := Int32.toInt_inj.mp (by have w2 := i3_x2.1; have w3 := i3_x2.2; have w4 : (24 : Int32).toInt = 24 := rfl; omega); rw [← w1]; exact inv⟩ dX12_soundingOf_36
      · skip
        have i4_x2 : iv_R 0 23 x2 := (i_x2.cutHi (n := 23) (iv_lt_r (iv_nle c3) q_24 (by decide)))
        refine lv_iload_n hx hb dX12_soundingOf_10 rfl (lv_at hl 1 rfl) ?_
        refine lv_aload_n hx hb dX12_soundingOf_11 rfl (lv_at hl 2 rfl) ?_
        refine lv_iload_n hx hb dX12_soundingOf_12 rfl (lv_at hl 3 rfl) ?_
        refine lv_iload_n hx hb dX12_soundingOf_13 rfl (lv_at hl 0 rfl) ?_
        refine iv_cVi X k_good k_mf_X12_sounds k_im_X12_sounds k_sel_X12_sounds k_ml_X12_302 ft_X12 hB a_h0 sh_12 (As := [.int x_0, .int x2]) (e_X12_sounds l D tys base G h0 g_h0 r_h0 a_h0 x_0 i_x_0 x2 i4_x2 gw rw hw) ⟨rfl, rfl⟩ ⟨Nat.le_of_ble_eq_true rfl, Nat.le_of_ble_eq_true rfl⟩ ⟨Nat.le_of_ble_eq_true rfl, Nat.le_of_ble_eq_true rfl⟩ rfl rfl hl.1 (Nat.le_of_ble_eq_true rfl) dX12_soundingOf_14 (fun x6 G9 H locs hq hB => ?_)
        obtain ⟨rfl, i_x6, eq6⟩ := hq
        refine lv_if_eq (tgt := 26) hx hb dX12_soundingOf_17 (by decide) (fun c7 => ?_) (fun c7 => ?_)
        · skip
          have i7_x6 : iv_R 0 0 x6 := (i_x6.cutHi (n := 0) (iv_eq_r c7 q_0).2)
          refine lv_iconst (v := 0) hx hb dX12_soundingOf_26 (by decide) ?_
          refine iv_ior hx hb i_x1 q_0 (k := 24) (hi := 16777215) (by decide) dX12_soundingOf_27 (fun x9 e_x9 i_x9 => ?_)
          refine lv_istore_n (lv' := [(2, .int x9), (3, .int x2), (0, .ref h0), (1, .int x_0)]) hx hb dX12_soundingOf_28 rfl hl (by decide) rfl (fun ls hl => ?_)
          refine iv_iinc hx hb i4_x2 (lo := 1) (hi := 24) (by decide) dX12_soundingOf_29 hl (k := 1) rfl (by decide) (fun x10 ls e_x10 i_x10 hl => ?_)
          have hl : lv_has ls 4 [(3, .int x10), (2, .int x9), (0, .ref h0), (1, .int x_0)] := hl
          refine lv_goto (tgt := 4) hx hb dX12_soundingOf_32 (by decide) ?_
          exact ih_4 _ _ hB x9 i_x9 x10 (i_x10.wk (by decide)) (by have w1 : x10.toInt = x2.toInt + 1 := e_x10; have w2 : x9 = x1 := e_x9.trans (iv_or0 x1); rw [w2]; exact inv.trans ⟨fun h => iv_sd0_s h (eq6.mp c7) w1, fun h => iv_sd0_w h w1⟩) (iv_mup (c := 1) i_x2 (by decide) (by decide) (by omega) hn_4) _ (lv_sub hl [0, 1, 2, 3] rfl)
        · skip
          have i10_x6 : iv_R 1 1 x6 := iv_ne_lo c7 i_x6 q_0 (by decide)
          refine lv_iconst (v := 1) hx hb dX12_soundingOf_20 (by decide) ?_
          refine lv_iload_n hx hb dX12_soundingOf_21 rfl (lv_at hl 0 rfl) ?_
          refine iv_shl1 hx hb i4_x2 (lo := 1) (hi := 8388608) (by decide) dX12_soundingOf_22 (fun x12 e_x12 i_x12 => ?_)
          refine lv_goto (tgt := 27) hx hb dX12_soundingOf_23 (by decide) ?_
          refine iv_ior hx hb i_x1 i_x12 (k := 24) (hi := 16777215) (by decide) dX12_soundingOf_27 (fun x13 e_x13 i_x13 => ?_)
          refine lv_istore_n (lv' := [(2, .int x13), (3, .int x2), (0, .ref h0), (1, .int x_0)]) hx hb dX12_soundingOf_28 rfl hl (by decide) rfl (fun ls hl => ?_)
          refine iv_iinc hx hb i4_x2 (lo := 1) (hi := 24) (by decide) dX12_soundingOf_29 hl (k := 1) rfl (by decide) (fun x14 ls e_x14 i_x14 hl => ?_)
          have hl : lv_has ls 4 [(3, .int x14), (2, .int x13), (0, .ref h0), (1, .int x_0)] := hl
          refine lv_goto (tgt := 4) hx hb dX12_soundingOf_32 (by decide) ?_
          exact ih_4 _ _ hB x13 i_x13 x14 (i_x14.wk (by decide)) (by have w1 : x14.toInt = x2.toInt + 1 := e_x14; exact ⟨fun h => absurd (iv_orn (e_x13.symm.trans h)) (iv_nz i_x12 (by decide)), fun h => absurd (eq6.mpr (h x2 i4_x2 (by omega))) c7⟩) (iv_mup (c := 1) i_x2 (by decide) (by decide) (by omega) hn_4) _ (lv_sub hl [0, 1, 2, 3] rfl)
  exact L_4 _ _ _ hB 0 (q_0.wk (by decide)) 0 (q_0.wk (by decide)) ⟨fun _ k hk hlt => absurd hk.1 (by have w1 : (0 : Int32).toInt = 0 := rfl; omega), fun _ => rfl⟩ (Nat.lt_succ_self _) _ (lv_sub hl [0, 1, 2, 3] rfl)
