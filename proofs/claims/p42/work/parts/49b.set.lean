set_option maxHeartbeats 4000000 in
set_option maxRecDepth 100000 in
theorem e_X5_hasBell (l : Launch) (D : va_G) (tys : List (ClassId × FieldType)) (base : Nat) (G : iv_G) (h0 : Nat) (g_h0 : Nat → Int32) (r_h0 : Nat → Nat) (a_h0 : G h0 = some (5, g_h0, r_h0)) (x_0 : Int32) (i_x_0 : iv_R (-2147483648) 2147483647 x_0) : Met l yX5_hasBell (Cond.code yX5_hasBell cX5_hasBell 2 (some .boolean) :: iv_W0) ({ frames := 0, cells := 0, slots := 0, locals := 0 }) (iv_Pc iv_sh D classes tys base G [.ref h0, .int x_0]) (iv_Qi iv_sh D classes tys base (fun v G' => G = G' ∧ iv_R 0 1 v ∧ (¬ v = 0 → iv_R 0 9 x_0) ∧ (¬ v = 0 ↔ 0 ≤ x_0.toInt ∧ x_0.toInt < (g_h0 1).toInt))) 0 0 (iv_A base) := by
  refine iv_head (by decide) (Nat.le_of_ble_eq_true rfl) ?_
  intro p e s m args below meth c ls X hr hlocks hname hB hl
  have X := X
  have hx := X.1.1
  have hb := X.1.2.1
  have hl : lv_has ls 2 [(0, .ref h0), (1, .int x_0)] := hl
  refine lv_iload_n hx hb dX5_hasBell_0 rfl (lv_at hl 1 rfl) ?_
  refine lv_if_lt (tgt := 16) hx hb dX5_hasBell_1 (by decide) (fun c1 => ?_) (fun c1 => ?_)
  · skip
    have i1_x_0 : iv_R (-2147483648) (-1) x_0 := (i_x_0.cutHi (n := (-1)) (iv_lt_r c1 q_0 (by decide)))
    refine lv_iconst (v := 0) hx hb dX5_hasBell_16 (by decide) ?_
    exact iv_zret X hr hlocks hB (q_0.wk (by decide)) ⟨rfl, (q_0.wk (by decide)), fun h => absurd (iv_z q_0) h, (⟨fun h => absurd rfl h, fun h => by have w1 := Int32.lt_iff_toInt_lt.mp c1; have w2 := i1_x_0.1; have w3 := i1_x_0.2; have e0 : (0 : Int32).toInt = 0 := rfl; have e1 : (1 : Int32).toInt = 1 := rfl; omega⟩)⟩ dX5_hasBell_17
  · skip
    have i2_x_0 : iv_R 0 2147483647 x_0 := (i_x_0.cutLo (n := 0) (iv_le_l (iv_nlt c1) q_0))
    refine lv_iload_n hx hb dX5_hasBell_4 rfl (lv_at hl 1 rfl) ?_
    refine lv_aload_n hx hb dX5_hasBell_5 rfl (lv_at hl 0 rfl) ?_
    refine iv_geti X ft_X5 hB a_h0 sh_5 1 (by decide) rfl k_fl_X5_61 dX5_hasBell_6 (fun x4 e_x4 i_x4 => ?_)
    refine lv_icmp_ge (tgt := 16) hx hb dX5_hasBell_9 (by decide) (fun c5 => ?_) (fun c5 => ?_)
    · skip
      refine lv_iconst (v := 0) hx hb dX5_hasBell_16 (by decide) ?_
      exact iv_zret X hr hlocks hB (q_0.wk (by decide)) ⟨rfl, (q_0.wk (by decide)), fun h => absurd (iv_z q_0) h, (⟨fun h => absurd rfl h, fun h => by have w1 := mt Int32.lt_iff_toInt_lt.mpr c1; have w2 := i2_x_0.1; have w3 := i2_x_0.2; have w4 := congrArg Int32.toInt e_x4; have w5 := Int32.le_iff_toInt_le.mp c5; have e0 : (0 : Int32).toInt = 0 := rfl; have e1 : (1 : Int32).toInt = 1 := rfl; omega⟩)⟩ dX5_hasBell_17
    · skip
      have i5_x_0 : iv_R 0 9 x_0 := (i2_x_0.cutHi (n := 9) (iv_lt_r (iv_nle c5) i_x4 (by decide)))
      have i6_x4 : iv_R 1 10 x4 := (i_x4.cutLo (n := 1) (iv_lt_l (iv_nle c5) i2_x_0 (by decide)))
      refine lv_iconst (v := 1) hx hb dX5_hasBell_12 (by decide) ?_
      refine lv_goto (tgt := 17) hx hb dX5_hasBell_13 (by decide) ?_
      exact iv_zret X hr hlocks hB (q_1.wk (by decide)) ⟨rfl, (q_1.wk (by decide)), fun _ => i5_x_0, (⟨fun _ => by have w1 := mt Int32.lt_iff_toInt_lt.mpr c1; have w2 := congrArg Int32.toInt e_x4; have w3 := mt Int32.le_iff_toInt_le.mpr c5; have w4 := i5_x_0.1; have w5 := i5_x_0.2; have w6 := i6_x4.1; have w7 := i6_x4.2; have e0 : (0 : Int32).toInt = 0 := rfl; have e1 : (1 : Int32).toInt = 1 := rfl; omega, fun _ => by decide⟩)⟩ dX5_hasBell_17
set_option maxHeartbeats 4000000 in
set_option maxRecDepth 100000 in
theorem e_X11_isSetForAll (l : Launch) (D : va_G) (tys : List (ClassId × FieldType)) (base : Nat) (G : iv_G) (h0 : Nat) (g_h0 : Nat → Int32) (r_h0 : Nat → Nat) (a_h0 : G h0 = some (11, g_h0, r_h0)) (x_0 : Int32) (i_x_0 : iv_R (-2147483648) 2 x_0) (x_1 : Int32) (i_x_1 : iv_R (-2147483648) 2147483647 x_1) : Met l yX11_isSetForAll (Cond.code yX11_isSetForAll cX11_isSetForAll 3 (some .boolean) :: iv_W0) ({ frames := 1, cells := 0, slots := 0, locals := 22 }) (iv_Pc iv_sh D classes tys base G [.ref h0, .int x_0, .int x_1]) (iv_Qi iv_sh D classes tys base (fun v G' => iv_MdO [5] G G' ∧ iv_R 0 1 v ∧ ((¬ v = 0 → iv_R 0 2 x_0) ∧ (¬ v = 0 → iv_R 0 1000 x_1)) ∧ hs_A v x_0 x_1 (r_h0 0) G G' ∧ (¬ v = 0 ↔ (x_0.toInt = 0 ∧ 0 ≤ x_1.toInt ∧ x_1.toInt ≤ 12) ∨ (x_0.toInt = 1 ∧ 0 ≤ x_1.toInt ∧ x_1.toInt ≤ 9) ∨ (x_0.toInt = 2 ∧ 0 ≤ x_1.toInt ∧ x_1.toInt ≤ 1000)))) 0 0 (iv_A base) := by
  refine iv_head (by decide) (Nat.le_of_ble_eq_true rfl) ?_
  intro p e s m args below meth c ls X hr hlocks hname hB hl
  have X := X
  have hx := X.1.1
  have hb := X.1.2.1
  have hM : iv_MdO [5] G G := iv_MdO.rf
  have hQ : iv_kq iv_no G G := iv_kq.rf
  have hl : lv_has ls 3 [(0, .ref h0), (1, .int x_0), (2, .int x_1)] := hl
  refine lv_iload_n hx hb dX11_isSetForAll_0 rfl (lv_at hl 1 rfl) ?_
  refine lv_if_ne (tgt := 24) hx hb dX11_isSetForAll_1 (by decide) (fun c1 => ?_) (fun c1 => ?_)
  · skip
    refine lv_iload_n hx hb dX11_isSetForAll_24 rfl (lv_at hl 1 rfl) ?_
    refine lv_iconst (v := 1) hx hb dX11_isSetForAll_25 (by decide) ?_
    refine lv_icmp_ne (tgt := 49) hx hb dX11_isSetForAll_26 (by decide) (fun c2 => ?_) (fun c2 => ?_)
    · skip
      refine lv_iload_n hx hb dX11_isSetForAll_49 rfl (lv_at hl 1 rfl) ?_
      refine lv_iconst (v := 2) hx hb dX11_isSetForAll_50 (by decide) ?_
      refine lv_icmp_ne (tgt := 75) hx hb dX11_isSetForAll_51 (by decide) (fun c3 => ?_) (fun c3 => ?_)
      · skip
        have i3_x_0 : iv_R (-2147483648) 1 x_0 := iv_ne_hi c3 i_x_0 q_2 (by decide)
        refine lv_iconst (v := 0) hx hb dX11_isSetForAll_75 (by decide) ?_
        exact iv_zret X hr hlocks hB (q_0.wk (by decide)) ⟨hM, (q_0.wk (by decide)), ⟨fun h => absurd (iv_z q_0) h, fun h => absurd (iv_z q_0) h⟩, (⟨fun _ => hQ, fun h => absurd rfl h.1⟩), (⟨fun h => absurd rfl h, fun h => by have w1 := i_x_1.1; have w2 := i_x_1.2; have w3 := mt Int32.toInt_inj.mp c1; have w4 := mt Int32.toInt_inj.mp c2; have w5 := mt Int32.toInt_inj.mp c3; have w6 := i3_x_0.1; have w7 := i3_x_0.2; have e0 : (0 : Int32).toInt = 0 := rfl; have e1 : (1 : Int32).toInt = 1 := rfl; have e2 : (2 : Int32).toInt = 2 := rfl; omega⟩)⟩ dX11_isSetForAll_76
      · skip
        have i4_x_0 : iv_R 2 2 x_0 := (i_x_0.cutLo (n := 2) (iv_eq_r c3 q_2).1)
        refine lv_iload_n hx hb dX11_isSetForAll_54 rfl (lv_at hl 2 rfl) ?_
        refine lv_iconst (v := 0) hx hb dX11_isSetForAll_55 (by decide) ?_
        refine lv_sipush (v := 1000) hx hb dX11_isSetForAll_56 (by decide) ?_
        refine iv_cSi X k_good k_mf_X11_isWithin k_st_X11_isWithin k_ml_X11_83 hB (As := [.int x_1, .int 0, .int 1000]) (c_X11_isWithin l D tys base G x_1 i_x_1 0 (q_0.wk (by decide)) 1000 (q_1000.wk (by decide))) ⟨rfl, rfl⟩ ⟨Nat.le_of_ble_eq_true rfl, Nat.le_of_ble_eq_true rfl⟩ ⟨Nat.le_of_ble_eq_true rfl, Nat.le_of_ble_eq_true rfl⟩ rfl rfl hl.1 (Nat.le_of_ble_eq_true rfl) dX11_isSetForAll_59 (fun x6 G9 H locs hq hB => ?_)
        obtain ⟨rfl, i_x6, hp7⟩ := hq
        have k8 : ¬ x6 = 0 → iv_R 0 1000 x_1 := fun h => ⟨iv_max i_x_1.1 (Int.le_trans q_0.1 (hp7.1 h).1) (by decide), iv_min i_x_1.2 (Int.le_trans (hp7.1 h).2 q_1000.2) (by decide)⟩
        refine lv_if_eq (tgt := 75) hx hb dX11_isSetForAll_62 (by decide) (fun c9 => ?_) (fun c9 => ?_)
        · skip
          have i9_x6 : iv_R 0 0 x6 := (i_x6.cutHi (n := 0) (iv_eq_r c9 q_0).2)
          refine lv_iconst (v := 0) hx hb dX11_isSetForAll_75 (by decide) ?_
          exact iv_zret X hr hlocks hB (q_0.wk (by decide)) ⟨hM, (q_0.wk (by decide)), ⟨fun _ => (i4_x_0.wk (by decide)), fun h => absurd (iv_z q_0) h⟩, (⟨fun _ => hQ, fun h => absurd rfl h.1⟩), (⟨fun h => absurd rfl h, fun h => by have w1 := i_x_1.1; have w2 := i_x_1.2; have w3 := mt Int32.toInt_inj.mp c1; have w4 := mt Int32.toInt_inj.mp c2; have w5 := congrArg Int32.toInt c3; have w6 := i4_x_0.1; have w7 := i4_x_0.2; have w8 := congrArg Int32.toInt c9; have w9 := hp7.2 c9; have w10 := i9_x6.1; have w11 := i9_x6.2; have e0 : (0 : Int32).toInt = 0 := rfl; have e1 : (1 : Int32).toInt = 1 := rfl; have e2 : (2 : Int32).toInt = 2 := rfl; have e1000 : (1000 : Int32).toInt = 1000 := rfl; omega⟩)⟩ dX11_isSetForAll_76
        · skip
          have i10_x6 : iv_R 1 1 x6 := iv_ne_lo c9 i_x6 q_0 (by decide)
          have i11_x_1 : iv_R 0 1000 x_1 := ((i_x_1.cutLo (n := 0) (k8 c9).1).cutHi (n := 1000) (k8 c9).2)
          refine lv_aload_n hx hb dX11_isSetForAll_65 rfl (lv_at hl 0 rfl) ?_
          refine iv_getr X ft_X11 hB a_h0 sh_11 0 (by decide) rfl k_fl_X11_12 dX11_isSetForAll_66 (fun b13 g_b13 r_b13 e_b13 a_b13 => ?_)
          refine lv_iload_n hx hb dX11_isSetForAll_69 rfl (lv_at hl 2 rfl) ?_
          refine iv_puti X ft_X5 hB a_b13 sh_5 5 (by decide) rfl rfl k_fl_X11_116 rfl (i11_x_1.wk (by decide)) rfl rfl dX11_isSetForAll_70 (fun H locs hB => ?_)
          have hm := iv_Md.put (x := x_1) a_b13 (j := 5) (by decide) (by decide)
          have h9 := iv_up_eq (G := G) (a := b13) (k := (5, upd g_b13 5 x_1, r_b13))
          generalize iv_up G b13 _ = G14 at hB hm h9
          have hM := hM.stp (iv_MdO.ofM hm) (by decide)
          have hQ := hQ.tr (iv_kq.T (iv_MdT.of hm))
          have a_h0 := hm.at a_h0 (by decide)
          refine lv_iconst (v := 1) hx hb dX11_isSetForAll_73 (by decide) ?_
          exact iv_zret X hr hlocks hB (q_1.wk (by decide)) ⟨hM, (q_1.wk (by decide)), ⟨fun _ => (i4_x_0.wk (by decide)), fun _ => i11_x_1⟩, (⟨fun _ => hQ, fun h => absurd h.2 (by have w1 := i4_x_0.1; have w2 := i4_x_0.2; omega)⟩), (⟨fun _ => by have w1 := mt Int32.toInt_inj.mp c1; have w2 := mt Int32.toInt_inj.mp c2; have w3 := congrArg Int32.toInt c3; have w4 := i4_x_0.1; have w5 := i4_x_0.2; have w6 := mt Int32.toInt_inj.mp c9; have w7 := hp7.1 c9; have w8 := i10_x6.1; have w9 := i10_x6.2; have w10 := i11_x_1.1; have w11 := i11_x_1.2; have e0 : (0 : Int32).toInt = 0 := rfl; have e1 : (1 : Int32).toInt = 1 := rfl; have e2 : (2 : Int32).toInt = 2 := rfl; have e1000 : (1000 : Int32).toInt = 1000 := rfl; omega, fun _ => by decide⟩)⟩ dX11_isSetForAll_74
    · skip
      have i15_x_0 : iv_R 1 1 x_0 := ((i_x_0.cutLo (n := 1) (iv_eq_r c2 q_1).1).cutHi (n := 1) (iv_eq_r c2 q_1).2)
      refine lv_iload_n hx hb dX11_isSetForAll_29 rfl (lv_at hl 2 rfl) ?_
      refine lv_iconst (v := 0) hx hb dX11_isSetForAll_30 (by decide) ?_
      refine lv_bipush (v := 9) hx hb dX11_isSetForAll_31 (by decide) ?_
      refine iv_cSi X k_good k_mf_X11_isWithin k_st_X11_isWithin k_ml_X11_83 hB (As := [.int x_1, .int 0, .int 9]) (c_X11_isWithin l D tys base G x_1 i_x_1 0 (q_0.wk (by decide)) 9 (q_9.wk (by decide))) ⟨rfl, rfl⟩ ⟨Nat.le_of_ble_eq_true rfl, Nat.le_of_ble_eq_true rfl⟩ ⟨Nat.le_of_ble_eq_true rfl, Nat.le_of_ble_eq_true rfl⟩ rfl rfl hl.1 (Nat.le_of_ble_eq_true rfl) dX11_isSetForAll_33 (fun x17 G9 H locs hq hB => ?_)
      obtain ⟨rfl, i_x17, hp18⟩ := hq
      have k19 : ¬ x17 = 0 → iv_R 0 9 x_1 := fun h => ⟨iv_max i_x_1.1 (Int.le_trans q_0.1 (hp18.1 h).1) (by decide), iv_min i_x_1.2 (Int.le_trans (hp18.1 h).2 q_9.2) (by decide)⟩
      refine lv_if_eq (tgt := 49) hx hb dX11_isSetForAll_36 (by decide) (fun c20 => ?_) (fun c20 => ?_)
      · skip
        have i20_x17 : iv_R 0 0 x17 := (i_x17.cutHi (n := 0) (iv_eq_r c20 q_0).2)
        refine lv_iload_n hx hb dX11_isSetForAll_49 rfl (lv_at hl 1 rfl) ?_
        refine lv_iconst (v := 2) hx hb dX11_isSetForAll_50 (by decide) ?_
        refine lv_icmp_ne (tgt := 75) hx hb dX11_isSetForAll_51 (by decide) (fun c22 => ?_) (fun c22 => ?_)
        · skip
          refine lv_iconst (v := 0) hx hb dX11_isSetForAll_75 (by decide) ?_
          exact iv_zret X hr hlocks hB (q_0.wk (by decide)) ⟨hM, (q_0.wk (by decide)), ⟨fun _ => (i15_x_0.wk (by decide)), fun h => absurd (iv_z q_0) h⟩, (⟨fun _ => hQ, fun h => absurd rfl h.1⟩), (⟨fun h => absurd rfl h, fun h => by have w1 := mt Int32.toInt_inj.mp c1; have w2 := congrArg Int32.toInt c2; have w3 := i15_x_0.1; have w4 := i15_x_0.2; have w5 := congrArg Int32.toInt c20; have w6 := hp18.2 c20; have w7 := i20_x17.1; have w8 := i20_x17.2; have w9 := mt Int32.toInt_inj.mp c22; have e0 : (0 : Int32).toInt = 0 := rfl; have e1 : (1 : Int32).toInt = 1 := rfl; have e2 : (2 : Int32).toInt = 2 := rfl; have e9 : (9 : Int32).toInt = 9 := rfl; have e1000 : (1000 : Int32).toInt = 1000 := rfl; omega⟩)⟩ dX11_isSetForAll_76
        · skip
          exact (i15_x_0.cutLo (n := 2) (iv_eq_r c22 q_2).1).no (by decide)
      · skip
        have i22_x17 : iv_R 1 1 x17 := iv_ne_lo c20 i_x17 q_0 (by decide)
        have i23_x_1 : iv_R 0 9 x_1 := ((i_x_1.cutLo (n := 0) (k19 c20).1).cutHi (n := 9) (k19 c20).2)
        refine lv_aload_n hx hb dX11_isSetForAll_39 rfl (lv_at hl 0 rfl) ?_
        refine iv_getr X ft_X11 hB a_h0 sh_11 0 (by decide) rfl k_fl_X11_12 dX11_isSetForAll_40 (fun b25 g_b25 r_b25 e_b25 a_b25 => ?_)
        refine lv_iload_n hx hb dX11_isSetForAll_43 rfl (lv_at hl 2 rfl) ?_
        refine iv_puti X ft_X5 hB a_b25 sh_5 4 (by decide) rfl rfl k_fl_X11_113 rfl (i23_x_1.wk (by decide)) rfl rfl dX11_isSetForAll_44 (fun H locs hB => ?_)
        have hm := iv_Md.put (x := x_1) a_b25 (j := 4) (by decide) (by decide)
        have h9 := iv_up_eq (G := G) (a := b25) (k := (5, upd g_b25 4 x_1, r_b25))
        generalize iv_up G b25 _ = G26 at hB hm h9
        have hM := hM.stp (iv_MdO.ofM hm) (by decide)
        have hQ := hQ.tr (iv_kq.T (iv_MdT.of hm))
        have a_h0 := hm.at a_h0 (by decide)
        refine lv_iconst (v := 1) hx hb dX11_isSetForAll_47 (by decide) ?_
        exact iv_zret X hr hlocks hB (q_1.wk (by decide)) ⟨hM, (q_1.wk (by decide)), ⟨fun _ => (i15_x_0.wk (by decide)), fun _ => (i23_x_1.wk (by decide))⟩, (⟨fun _ => hQ, fun h => absurd h.2 (by have w1 := i15_x_0.1; have w2 := i15_x_0.2; omega)⟩), (⟨fun _ => by have w1 := mt Int32.toInt_inj.mp c1; have w2 := congrArg Int32.toInt c2; have w3 := i15_x_0.1; have w4 := i15_x_0.2; have w5 := mt Int32.toInt_inj.mp c20; have w6 := hp18.1 c20; have w7 := i22_x17.1; have w8 := i22_x17.2; have w9 := i23_x_1.1; have w10 := i23_x_1.2; have e0 : (0 : Int32).toInt = 0 := rfl; have e1 : (1 : Int32).toInt = 1 := rfl; have e2 : (2 : Int32).toInt = 2 := rfl; have e9 : (9 : Int32).toInt = 9 := rfl; have e1000 : (1000 : Int32).toInt = 1000 := rfl; omega, fun _ => by decide⟩)⟩ dX11_isSetForAll_48
  · skip
    have i27_x_0 : iv_R 0 0 x_0 := ((i_x_0.cutLo (n := 0) (iv_eq_r c1 q_0).1).cutHi (n := 0) (iv_eq_r c1 q_0).2)
    refine lv_iload_n hx hb dX11_isSetForAll_4 rfl (lv_at hl 2 rfl) ?_
    refine lv_iconst (v := 0) hx hb dX11_isSetForAll_5 (by decide) ?_
    refine lv_bipush (v := 12) hx hb dX11_isSetForAll_6 (by decide) ?_
    refine iv_cSi X k_good k_mf_X11_isWithin k_st_X11_isWithin k_ml_X11_83 hB (As := [.int x_1, .int 0, .int 12]) (c_X11_isWithin l D tys base G x_1 i_x_1 0 (q_0.wk (by decide)) 12 (q_12.wk (by decide))) ⟨rfl, rfl⟩ ⟨Nat.le_of_ble_eq_true rfl, Nat.le_of_ble_eq_true rfl⟩ ⟨Nat.le_of_ble_eq_true rfl, Nat.le_of_ble_eq_true rfl⟩ rfl rfl hl.1 (Nat.le_of_ble_eq_true rfl) dX11_isSetForAll_8 (fun x29 G9 H locs hq hB => ?_)
    obtain ⟨rfl, i_x29, hp30⟩ := hq
    have k31 : ¬ x29 = 0 → iv_R 0 12 x_1 := fun h => ⟨iv_max i_x_1.1 (Int.le_trans q_0.1 (hp30.1 h).1) (by decide), iv_min i_x_1.2 (Int.le_trans (hp30.1 h).2 q_12.2) (by decide)⟩
    refine lv_if_eq (tgt := 24) hx hb dX11_isSetForAll_11 (by decide) (fun c32 => ?_) (fun c32 => ?_)
    · skip
      have i32_x29 : iv_R 0 0 x29 := (i_x29.cutHi (n := 0) (iv_eq_r c32 q_0).2)
      refine lv_iload_n hx hb dX11_isSetForAll_24 rfl (lv_at hl 1 rfl) ?_
      refine lv_iconst (v := 1) hx hb dX11_isSetForAll_25 (by decide) ?_
      refine lv_icmp_ne (tgt := 49) hx hb dX11_isSetForAll_26 (by decide) (fun c34 => ?_) (fun c34 => ?_)
      · skip
        refine lv_iload_n hx hb dX11_isSetForAll_49 rfl (lv_at hl 1 rfl) ?_
        refine lv_iconst (v := 2) hx hb dX11_isSetForAll_50 (by decide) ?_
        refine lv_icmp_ne (tgt := 75) hx hb dX11_isSetForAll_51 (by decide) (fun c35 => ?_) (fun c35 => ?_)
        · skip
          refine lv_iconst (v := 0) hx hb dX11_isSetForAll_75 (by decide) ?_
          exact iv_zret X hr hlocks hB (q_0.wk (by decide)) ⟨hM, (q_0.wk (by decide)), ⟨fun _ => (i27_x_0.wk (by decide)), fun h => absurd (iv_z q_0) h⟩, (⟨fun _ => hQ, fun h => absurd rfl h.1⟩), (⟨fun h => absurd rfl h, fun h => by have w1 := congrArg Int32.toInt c1; have w2 := i27_x_0.1; have w3 := i27_x_0.2; have w4 := congrArg Int32.toInt c32; have w5 := hp30.2 c32; have w6 := i32_x29.1; have w7 := i32_x29.2; have w8 := mt Int32.toInt_inj.mp c34; have w9 := mt Int32.toInt_inj.mp c35; have e0 : (0 : Int32).toInt = 0 := rfl; have e1 : (1 : Int32).toInt = 1 := rfl; have e2 : (2 : Int32).toInt = 2 := rfl; have e9 : (9 : Int32).toInt = 9 := rfl; have e12 : (12 : Int32).toInt = 12 := rfl; have e1000 : (1000 : Int32).toInt = 1000 := rfl; omega⟩)⟩ dX11_isSetForAll_76
        · skip
          exact (i27_x_0.cutLo (n := 2) (iv_eq_r c35 q_2).1).no (by decide)
      · skip
        exact (i27_x_0.cutLo (n := 1) (iv_eq_r c34 q_1).1).no (by decide)
    · skip
      have i35_x29 : iv_R 1 1 x29 := iv_ne_lo c32 i_x29 q_0 (by decide)
      have i36_x_1 : iv_R 0 12 x_1 := ((i_x_1.cutLo (n := 0) (k31 c32).1).cutHi (n := 12) (k31 c32).2)
      refine lv_aload_n hx hb dX11_isSetForAll_14 rfl (lv_at hl 0 rfl) ?_
      refine iv_getr X ft_X11 hB a_h0 sh_11 0 (by decide) rfl k_fl_X11_12 dX11_isSetForAll_15 (fun b38 g_b38 r_b38 e_b38 a_b38 => ?_)
      refine lv_iload_n hx hb dX11_isSetForAll_18 rfl (lv_at hl 2 rfl) ?_
      refine iv_puti X ft_X5 hB a_b38 sh_5 3 (by decide) rfl rfl k_fl_X11_110 rfl (i36_x_1.wk (by decide)) rfl rfl dX11_isSetForAll_19 (fun H locs hB => ?_)
      have hm := iv_MdO.put (x := x_1) a_b38 (j := 3) List.not_mem_nil (fun h => absurd h (by decide))
      have h9 := iv_up_eq (G := G) (a := b38) (k := (5, upd g_b38 3 x_1, r_b38))
      have hq8 : iv_kq (fun c j a => c = 5 ∧ j = 3 ∧ a = b38) G (iv_up G b38 (5, upd g_b38 3 x_1, r_b38)) := iv_kq.put a_b38 ⟨rfl, rfl, rfl⟩
      have hv8 : iv_kc 5 (3) b38 x_1 (iv_up G b38 (5, upd g_b38 3 x_1, r_b38)) := iv_kc.up
      generalize iv_up G b38 _ = G39 at hB hm h9 hq8 hv8
      have hM := hM.stp hm (by decide)
      have hQ : iv_kq (fun c j a => c = 5 ∧ j = 3 ∧ a = r_h0 0) _ _ := (hQ.sub (fun c j a q => by first | exact False.elim q | exact q)).tr (hq8.sub (fun c j a q => by obtain ⟨rfl, rfl, rfl⟩ := q; exact ⟨rfl, rfl, e_b38⟩))
      have hV1 := hv8
      have a_h0 := hm.at a_h0 (by decide)
      refine lv_iconst (v := 1) hx hb dX11_isSetForAll_22 (by decide) ?_
      exact iv_zret X hr hlocks hB (q_1.wk (by decide)) ⟨hM, (q_1.wk (by decide)), ⟨fun _ => (i27_x_0.wk (by decide)), fun _ => (i36_x_1.wk (by decide))⟩, (⟨fun h => absurd ⟨by decide, by have w1 := i27_x_0.1; have w2 := i27_x_0.2; omega⟩ h, fun _ => ⟨hQ, e_b38 ▸ hV1⟩⟩), (⟨fun _ => by have w1 := congrArg Int32.toInt c1; have w2 := i27_x_0.1; have w3 := i27_x_0.2; have w4 := mt Int32.toInt_inj.mp c32; have w5 := hp30.1 c32; have w6 := i35_x29.1; have w7 := i35_x29.2; have w8 := i36_x_1.1; have w9 := i36_x_1.2; have e0 : (0 : Int32).toInt = 0 := rfl; have e1 : (1 : Int32).toInt = 1 := rfl; have e2 : (2 : Int32).toInt = 2 := rfl; have e9 : (9 : Int32).toInt = 9 := rfl; have e12 : (12 : Int32).toInt = 12 := rfl; have e1000 : (1000 : Int32).toInt = 1000 := rfl; omega, fun _ => by decide⟩)⟩ dX11_isSetForAll_23
set_option maxHeartbeats 4000000 in
set_option maxRecDepth 100000 in
theorem e_X11_isSetForBell (l : Launch) (D : va_G) (tys : List (ClassId × FieldType)) (base : Nat) (G : iv_G) (h0 : Nat) (g_h0 : Nat → Int32) (r_h0 : Nat → Nat) (a_h0 : G h0 = some (11, g_h0, r_h0)) (x_0 : Int32) (i_x_0 : iv_R 3 2147483647 x_0) (x_1 : Int32) (i_x_1 : iv_R (-2147483648) 2147483647 x_1) (x_2 : Int32) (i_x_2 : iv_R (-2147483648) 2147483647 x_2) : Met l yX11_isSetForBell (Cond.code yX11_isSetForBell cX11_isSetForBell 5 (some .boolean) :: iv_W0) ({ frames := 1, cells := 0, slots := 0, locals := 22 }) (iv_Pc iv_sh D classes tys base G [.ref h0, .int x_0, .int x_1, .int x_2]) (iv_Qi iv_sh D classes tys base (fun v G' => iv_MdO [1] G G' ∧ iv_R 0 1 v ∧ ((¬ v = 0 → iv_R 3 5 x_0) ∧ (¬ v = 0 → iv_R 0 9 x_1) ∧ (¬ v = 0 → iv_R 0 99 x_2)) ∧ hs_B v x_0 x_1 x_2 (r_h0 0) G G' ∧ (∀ n : Int32, iv_kc 5 1 (r_h0 0) n G → (¬ v = 0 ↔ (0 ≤ x_1.toInt ∧ x_1.toInt < n.toInt) ∧ ((x_0.toInt = 3 ∧ 0 ≤ x_2.toInt ∧ x_2.toInt ≤ 99) ∨ (x_0.toInt = 4 ∧ 0 ≤ x_2.toInt ∧ x_2.toInt ≤ 1) ∨ (x_0.toInt = 5 ∧ 0 ≤ x_2.toInt ∧ x_2.toInt ≤ 47)))))) 0 0 (iv_A base) := by
  refine iv_head (by decide) (Nat.le_of_ble_eq_true rfl) ?_
  intro p e s m args below meth c ls X hr hlocks hname hB hl
  have X := X
  have hx := X.1.1
  have hb := X.1.2.1
  have hM : iv_MdO [1] G G := iv_MdO.rf
  have hQ : iv_kq iv_no G G := iv_kq.rf
  have hl : lv_has ls 5 [(0, .ref h0), (1, .int x_0), (2, .int x_1), (3, .int x_2)] := hl
  refine lv_aload_n hx hb dX11_isSetForBell_0 rfl (lv_at hl 0 rfl) ?_
  refine iv_getr X ft_X11 hB a_h0 sh_11 0 (by decide) rfl k_fl_X11_12 dX11_isSetForBell_1 (fun b1 g_b1 r_b1 e_b1 a_b1 => ?_)
  have a_b1o := a_b1
  refine lv_iload_n hx hb dX11_isSetForBell_4 rfl (lv_at hl 2 rfl) ?_
  refine iv_cVi X k_good k_mf_X5_hasBell k_im_X5_hasBell k_sel_X5_hasBell k_ml_X11_119 ft_X5 hB a_b1 sh_5 (As := [.int x_1]) (e_X5_hasBell l D tys base G b1 g_b1 r_b1 a_b1 x_1 i_x_1) ⟨rfl, rfl⟩ ⟨Nat.le_of_ble_eq_true rfl, Nat.le_of_ble_eq_true rfl⟩ ⟨Nat.le_of_ble_eq_true rfl, Nat.le_of_ble_eq_true rfl⟩ rfl rfl hl.1 (Nat.le_of_ble_eq_true rfl) dX11_isSetForBell_5 (fun x2 G9 H locs hq hB => ?_)
  obtain ⟨rfl, i_x2, hp3, ex_x2⟩ := hq
  refine lv_if_ne (tgt := 13) hx hb dX11_isSetForBell_8 (by decide) (fun c4 => ?_) (fun c4 => ?_)
  · skip
    have i4_x2 : iv_R 1 1 x2 := iv_ne_lo c4 i_x2 q_0 (by decide)
    have i5_x_1 : iv_R 0 9 x_1 := ((i_x_1.cutLo (n := 0) (hp3 c4).1).cutHi (n := 9) (hp3 c4).2)
    refine lv_aload_n hx hb dX11_isSetForBell_13 rfl (lv_at hl 0 rfl) ?_
    refine iv_getr0 X ft_X11 hB a_h0 sh_11 0 (by decide) rfl k_fl_X11_12 dX11_isSetForBell_14 e_b1 ?_
    refine iv_getr X ft_X5 hB a_b1 sh_5 0 (by decide) rfl k_fl_X11_93 dX11_isSetForBell_17 (fun b7 g_b7 r_b7 e_b7 a_b7 => ?_)
    refine lv_iload_n hx hb dX11_isSetForBell_20 rfl (lv_at hl 2 rfl) ?_
    refine iv_aald X hB a_b7 sh_40 (iv_in i5_x_1 (by decide)) dX11_isSetForBell_21 (fun b8 g_b8 r_b8 e_b8 a_b8 => ?_)
    have hBA : iv_bA (r_h0 0) x_1.toInt.toNat b8 G := ⟨_, _, _, _, (by rw [← e_b1]; exact a_b1), (by rw [← e_b7]; exact a_b7), e_b8⟩
    refine lv_astore (lv' := [(4, .ref b8), (0, .ref h0), (1, .int x_0), (2, .int x_1), (3, .int x_2)]) hx hb dX11_isSetForBell_22 hl (by decide) rfl (fun ls hl => ?_)
    refine lv_iload_n hx hb dX11_isSetForBell_24 rfl (lv_at hl 2 rfl) ?_
    refine lv_iconst (v := 3) hx hb dX11_isSetForBell_25 (by decide) ?_
    refine lv_icmp_ne (tgt := 47) hx hb dX11_isSetForBell_26 (by decide) (fun c9 => ?_) (fun c9 => ?_)
    · skip
      have i9_x_0 : iv_R 4 2147483647 x_0 := iv_ne_lo c9 i_x_0 q_3 (by decide)
      refine lv_iload_n hx hb dX11_isSetForBell_47 rfl (lv_at hl 2 rfl) ?_
      refine lv_iconst (v := 4) hx hb dX11_isSetForBell_48 (by decide) ?_
      refine lv_icmp_ne (tgt := 69) hx hb dX11_isSetForBell_49 (by decide) (fun c11 => ?_) (fun c11 => ?_)
      · skip
        have i11_x_0 : iv_R 5 2147483647 x_0 := iv_ne_lo c11 i9_x_0 q_4 (by decide)
        refine lv_iload_n hx hb dX11_isSetForBell_69 rfl (lv_at hl 2 rfl) ?_
        refine lv_iconst (v := 5) hx hb dX11_isSetForBell_70 (by decide) ?_
        refine lv_icmp_ne (tgt := 92) hx hb dX11_isSetForBell_71 (by decide) (fun c13 => ?_) (fun c13 => ?_)
        · skip
          have i13_x_0 : iv_R 6 2147483647 x_0 := iv_ne_lo c13 i11_x_0 q_5 (by decide)
          refine lv_iconst (v := 0) hx hb dX11_isSetForBell_92 (by decide) ?_
          exact iv_zret X hr hlocks hB (q_0.wk (by decide)) ⟨hM, (q_0.wk (by decide)), ⟨fun h => absurd (iv_z q_0) h, fun _ => i5_x_1, fun h => absurd (iv_z q_0) h⟩, (⟨fun _ => hQ, fun h => absurd rfl h.1⟩), (fun n hn => ⟨fun h => absurd rfl h, fun h => by have wn := congrArg Int32.toInt (hn.val (by rw [← e_b1]; exact a_b1o)); have w1 := i_x_2.1; have w2 := i_x_2.2; have w3 := mt Int32.toInt_inj.mp c4; have w4 := (ex_x2).mp c4; have w5 := i4_x2.1; have w6 := i4_x2.2; have w7 := i5_x_1.1; have w8 := i5_x_1.2; have w9 := mt Int32.toInt_inj.mp c9; have w10 := mt Int32.toInt_inj.mp c11; have w11 := mt Int32.toInt_inj.mp c13; have w12 := i13_x_0.1; have w13 := i13_x_0.2; have e0 : (0 : Int32).toInt = 0 := rfl; have e1 : (1 : Int32).toInt = 1 := rfl; have e3 : (3 : Int32).toInt = 3 := rfl; have e4 : (4 : Int32).toInt = 4 := rfl; have e5 : (5 : Int32).toInt = 5 := rfl; omega⟩)⟩ dX11_isSetForBell_93
        · skip
          have i14_x_0 : iv_R 5 5 x_0 := (i11_x_0.cutHi (n := 5) (iv_eq_r c13 q_5).2)
          refine lv_iload_n hx hb dX11_isSetForBell_74 rfl (lv_at hl 4 rfl) ?_
          refine lv_iconst (v := 0) hx hb dX11_isSetForBell_75 (by decide) ?_
          refine lv_bipush (v := 47) hx hb dX11_isSetForBell_76 (by decide) ?_
          refine iv_cSi X k_good k_mf_X11_isWithin k_st_X11_isWithin k_ml_X11_83 hB (As := [.int x_2, .int 0, .int 47]) (c_X11_isWithin l D tys base G x_2 i_x_2 0 (q_0.wk (by decide)) 47 (q_47.wk (by decide))) ⟨rfl, rfl⟩ ⟨Nat.le_of_ble_eq_true rfl, Nat.le_of_ble_eq_true rfl⟩ ⟨Nat.le_of_ble_eq_true rfl, Nat.le_of_ble_eq_true rfl⟩ rfl rfl hl.1 (Nat.le_of_ble_eq_true rfl) dX11_isSetForBell_78 (fun x16 G9 H locs hq hB => ?_)
          obtain ⟨rfl, i_x16, hp17⟩ := hq
          have k18 : ¬ x16 = 0 → iv_R 0 47 x_2 := fun h => ⟨iv_max i_x_2.1 (Int.le_trans q_0.1 (hp17.1 h).1) (by decide), iv_min i_x_2.2 (Int.le_trans (hp17.1 h).2 q_47.2) (by decide)⟩
          refine lv_if_eq (tgt := 92) hx hb dX11_isSetForBell_81 (by decide) (fun c19 => ?_) (fun c19 => ?_)
          · skip
            have i19_x16 : iv_R 0 0 x16 := (i_x16.cutHi (n := 0) (iv_eq_r c19 q_0).2)
            refine lv_iconst (v := 0) hx hb dX11_isSetForBell_92 (by decide) ?_
            exact iv_zret X hr hlocks hB (q_0.wk (by decide)) ⟨hM, (q_0.wk (by decide)), ⟨fun _ => (i14_x_0.wk (by decide)), fun _ => i5_x_1, fun h => absurd (iv_z q_0) h⟩, (⟨fun _ => hQ, fun h => absurd rfl h.1⟩), (fun n hn => ⟨fun h => absurd rfl h, fun h => by have wn := congrArg Int32.toInt (hn.val (by rw [← e_b1]; exact a_b1o)); have w1 := i_x_2.1; have w2 := i_x_2.2; have w3 := mt Int32.toInt_inj.mp c4; have w4 := (ex_x2).mp c4; have w5 := i4_x2.1; have w6 := i4_x2.2; have w7 := i5_x_1.1; have w8 := i5_x_1.2; have w9 := mt Int32.toInt_inj.mp c9; have w10 := mt Int32.toInt_inj.mp c11; have w11 := congrArg Int32.toInt c13; have w12 := i14_x_0.1; have w13 := i14_x_0.2; have w14 := congrArg Int32.toInt c19; have w15 := hp17.2 c19; have w16 := i19_x16.1; have w17 := i19_x16.2; have e0 : (0 : Int32).toInt = 0 := rfl; have e1 : (1 : Int32).toInt = 1 := rfl; have e3 : (3 : Int32).toInt = 3 := rfl; have e4 : (4 : Int32).toInt = 4 := rfl; have e5 : (5 : Int32).toInt = 5 := rfl; have e47 : (47 : Int32).toInt = 47 := rfl; omega⟩)⟩ dX11_isSetForBell_93
          · skip
            have i20_x16 : iv_R 1 1 x16 := iv_ne_lo c19 i_x16 q_0 (by decide)
            have i21_x_2 : iv_R 0 47 x_2 := ((i_x_2.cutLo (n := 0) (k18 c19).1).cutHi (n := 47) (k18 c19).2)
            refine lv_aload hx hb dX11_isSetForBell_84 (lv_at hl 0 rfl) ?_
            refine lv_iload_n hx hb dX11_isSetForBell_86 rfl (lv_at hl 4 rfl) ?_
            refine iv_puti X ft_X1 hB a_b8 sh_1 1 (by decide) rfl rfl k_fl_X11_128 rfl (i21_x_2.wk (by decide)) rfl rfl dX11_isSetForBell_87 (fun H locs hB => ?_)
            have hm := iv_MdO.put (x := x_2) a_b8 (j := 1) List.not_mem_nil (fun h => absurd h (by decide))
            have h9 := iv_up_eq (G := G) (a := b8) (k := (1, upd g_b8 1 x_2, r_b8))
            have hq8 : iv_kq (fun c j a => c = 1 ∧ j = 1 ∧ a = b8) G (iv_up G b8 (1, upd g_b8 1 x_2, r_b8)) := iv_kq.put a_b8 ⟨rfl, rfl, rfl⟩
            have hv8 : iv_kc 1 (1) b8 x_2 (iv_up G b8 (1, upd g_b8 1 x_2, r_b8)) := iv_kc.up
            generalize iv_up G b8 _ = G23 at hB hm h9 hq8 hv8
            have hM := hM.stp hm (by decide)
            have hQ : iv_kq (fun c j a => c = 1 ∧ j = 1 ∧ a = b8) _ _ := (hQ.sub (fun c j a q => by first | exact False.elim q | exact q)).tr (hq8.sub (fun c j a q => by obtain ⟨rfl, rfl, rfl⟩ := q; exact ⟨rfl, rfl, rfl⟩))
            have hV1 := hv8
            generalize hgn_g24 : upd g_b8 _ _ = g24 at h9
            have a_h0 := hm.at a_h0 (by decide)
            have a_b8 := h9
            have e9_g24 : x_2 = g24 1 := by rw [← hgn_g24]; simp [upd]
            refine lv_iconst (v := 1) hx hb dX11_isSetForBell_90 (by decide) ?_
            exact iv_zret X hr hlocks hB (q_1.wk (by decide)) ⟨hM, (q_1.wk (by decide)), ⟨fun _ => (i14_x_0.wk (by decide)), fun _ => i5_x_1, fun _ => (i21_x_2.wk (by decide))⟩, (⟨fun h => absurd ⟨by decide, by have w1 := i14_x_0.1; have w2 := i14_x_0.2; omega⟩ h, fun _ => ⟨b8, hBA, hQ, hV1⟩⟩), (fun n hn => ⟨fun _ => by have wn := congrArg Int32.toInt (hn.val (by rw [← e_b1]; exact a_b1o)); have w1 := mt Int32.toInt_inj.mp c4; have w2 := (ex_x2).mp c4; have w3 := i4_x2.1; have w4 := i4_x2.2; have w5 := i5_x_1.1; have w6 := i5_x_1.2; have w7 := mt Int32.toInt_inj.mp c9; have w8 := mt Int32.toInt_inj.mp c11; have w9 := congrArg Int32.toInt c13; have w10 := i14_x_0.1; have w11 := i14_x_0.2; have w12 := mt Int32.toInt_inj.mp c19; have w13 := hp17.1 c19; have w14 := i20_x16.1; have w15 := i20_x16.2; have w16 := i21_x_2.1; have w17 := i21_x_2.2; have e0 : (0 : Int32).toInt = 0 := rfl; have e1 : (1 : Int32).toInt = 1 := rfl; have e3 : (3 : Int32).toInt = 3 := rfl; have e4 : (4 : Int32).toInt = 4 := rfl; have e5 : (5 : Int32).toInt = 5 := rfl; have e47 : (47 : Int32).toInt = 47 := rfl; omega, fun _ => by decide⟩)⟩ dX11_isSetForBell_91
      · skip
        have i24_x_0 : iv_R 4 4 x_0 := (i9_x_0.cutHi (n := 4) (iv_eq_r c11 q_4).2)
        refine lv_iload_n hx hb dX11_isSetForBell_52 rfl (lv_at hl 4 rfl) ?_
        refine lv_iconst (v := 0) hx hb dX11_isSetForBell_53 (by decide) ?_
        refine lv_iconst (v := 1) hx hb dX11_isSetForBell_54 (by decide) ?_
        refine iv_cSi X k_good k_mf_X11_isWithin k_st_X11_isWithin k_ml_X11_83 hB (As := [.int x_2, .int 0, .int 1]) (c_X11_isWithin l D tys base G x_2 i_x_2 0 (q_0.wk (by decide)) 1 (q_1.wk (by decide))) ⟨rfl, rfl⟩ ⟨Nat.le_of_ble_eq_true rfl, Nat.le_of_ble_eq_true rfl⟩ ⟨Nat.le_of_ble_eq_true rfl, Nat.le_of_ble_eq_true rfl⟩ rfl rfl hl.1 (Nat.le_of_ble_eq_true rfl) dX11_isSetForBell_55 (fun x26 G9 H locs hq hB => ?_)
        obtain ⟨rfl, i_x26, hp27⟩ := hq
        have k28 : ¬ x26 = 0 → iv_R 0 1 x_2 := fun h => ⟨iv_max i_x_2.1 (Int.le_trans q_0.1 (hp27.1 h).1) (by decide), iv_min i_x_2.2 (Int.le_trans (hp27.1 h).2 q_1.2) (by decide)⟩
        refine lv_if_eq (tgt := 69) hx hb dX11_isSetForBell_58 (by decide) (fun c29 => ?_) (fun c29 => ?_)
        · skip
          have i29_x26 : iv_R 0 0 x26 := (i_x26.cutHi (n := 0) (iv_eq_r c29 q_0).2)
          refine lv_iload_n hx hb dX11_isSetForBell_69 rfl (lv_at hl 2 rfl) ?_
          refine lv_iconst (v := 5) hx hb dX11_isSetForBell_70 (by decide) ?_
          refine lv_icmp_ne (tgt := 92) hx hb dX11_isSetForBell_71 (by decide) (fun c31 => ?_) (fun c31 => ?_)
          · skip
            refine lv_iconst (v := 0) hx hb dX11_isSetForBell_92 (by decide) ?_
            exact iv_zret X hr hlocks hB (q_0.wk (by decide)) ⟨hM, (q_0.wk (by decide)), ⟨fun _ => (i24_x_0.wk (by decide)), fun _ => i5_x_1, fun h => absurd (iv_z q_0) h⟩, (⟨fun _ => hQ, fun h => absurd rfl h.1⟩), (fun n hn => ⟨fun h => absurd rfl h, fun h => by have wn := congrArg Int32.toInt (hn.val (by rw [← e_b1]; exact a_b1o)); have w1 := mt Int32.toInt_inj.mp c4; have w2 := (ex_x2).mp c4; have w3 := i4_x2.1; have w4 := i4_x2.2; have w5 := i5_x_1.1; have w6 := i5_x_1.2; have w7 := mt Int32.toInt_inj.mp c9; have w8 := congrArg Int32.toInt c11; have w9 := i24_x_0.1; have w10 := i24_x_0.2; have w11 := congrArg Int32.toInt c29; have w12 := hp27.2 c29; have w13 := i29_x26.1; have w14 := i29_x26.2; have w15 := mt Int32.toInt_inj.mp c31; have e0 : (0 : Int32).toInt = 0 := rfl; have e1 : (1 : Int32).toInt = 1 := rfl; have e3 : (3 : Int32).toInt = 3 := rfl; have e4 : (4 : Int32).toInt = 4 := rfl; have e5 : (5 : Int32).toInt = 5 := rfl; have e47 : (47 : Int32).toInt = 47 := rfl; omega⟩)⟩ dX11_isSetForBell_93
          · skip
            exact (i24_x_0.cutLo (n := 5) (iv_eq_r c31 q_5).1).no (by decide)
        · skip
          have i31_x26 : iv_R 1 1 x26 := iv_ne_lo c29 i_x26 q_0 (by decide)
          have i32_x_2 : iv_R 0 1 x_2 := ((i_x_2.cutLo (n := 0) (k28 c29).1).cutHi (n := 1) (k28 c29).2)
          refine lv_aload hx hb dX11_isSetForBell_61 (lv_at hl 0 rfl) ?_
          refine lv_iload_n hx hb dX11_isSetForBell_63 rfl (lv_at hl 4 rfl) ?_
          refine iv_puti X ft_X1 hB a_b8 sh_1 4 (by decide) rfl rfl k_fl_X11_125 rfl (i32_x_2.wk (by decide)) rfl rfl dX11_isSetForBell_64 (fun H locs hB => ?_)
          have hm := iv_Md.put (x := x_2) a_b8 (j := 4) (by decide) (by decide)
          have h9 := iv_up_eq (G := G) (a := b8) (k := (1, upd g_b8 4 x_2, r_b8))
          generalize iv_up G b8 _ = G34 at hB hm h9
          have hM := hM.stp (iv_MdO.ofM hm) (by decide)
          have hQ := hQ.tr (iv_kq.T (iv_MdT.of hm))
          generalize hgn_g35 : upd g_b8 _ _ = g35 at h9
          have a_h0 := hm.at a_h0 (by decide)
          have a_b8 := h9
          have e9_g35 : x_2 = g35 4 := by rw [← hgn_g35]; simp [upd]
          refine lv_iconst (v := 1) hx hb dX11_isSetForBell_67 (by decide) ?_
          exact iv_zret X hr hlocks hB (q_1.wk (by decide)) ⟨hM, (q_1.wk (by decide)), ⟨fun _ => (i24_x_0.wk (by decide)), fun _ => i5_x_1, fun _ => (i32_x_2.wk (by decide))⟩, (⟨fun _ => hQ, fun h => absurd h.2 (by have w1 := i24_x_0.1; have w2 := i24_x_0.2; omega)⟩), (fun n hn => ⟨fun _ => by have wn := congrArg Int32.toInt (hn.val (by rw [← e_b1]; exact a_b1o)); have w1 := mt Int32.toInt_inj.mp c4; have w2 := (ex_x2).mp c4; have w3 := i4_x2.1; have w4 := i4_x2.2; have w5 := i5_x_1.1; have w6 := i5_x_1.2; have w7 := mt Int32.toInt_inj.mp c9; have w8 := congrArg Int32.toInt c11; have w9 := i24_x_0.1; have w10 := i24_x_0.2; have w11 := mt Int32.toInt_inj.mp c29; have w12 := hp27.1 c29; have w13 := i31_x26.1; have w14 := i31_x26.2; have w15 := i32_x_2.1; have w16 := i32_x_2.2; have e0 : (0 : Int32).toInt = 0 := rfl; have e1 : (1 : Int32).toInt = 1 := rfl; have e3 : (3 : Int32).toInt = 3 := rfl; have e4 : (4 : Int32).toInt = 4 := rfl; have e5 : (5 : Int32).toInt = 5 := rfl; have e47 : (47 : Int32).toInt = 47 := rfl; omega, fun _ => by decide⟩)⟩ dX11_isSetForBell_68
    · skip
      have i35_x_0 : iv_R 3 3 x_0 := (i_x_0.cutHi (n := 3) (iv_eq_r c9 q_3).2)
      refine lv_iload_n hx hb dX11_isSetForBell_29 rfl (lv_at hl 4 rfl) ?_
      refine lv_iconst (v := 0) hx hb dX11_isSetForBell_30 (by decide) ?_
      refine lv_bipush (v := 99) hx hb dX11_isSetForBell_31 (by decide) ?_
      refine iv_cSi X k_good k_mf_X11_isWithin k_st_X11_isWithin k_ml_X11_83 hB (As := [.int x_2, .int 0, .int 99]) (c_X11_isWithin l D tys base G x_2 i_x_2 0 (q_0.wk (by decide)) 99 (q_99.wk (by decide))) ⟨rfl, rfl⟩ ⟨Nat.le_of_ble_eq_true rfl, Nat.le_of_ble_eq_true rfl⟩ ⟨Nat.le_of_ble_eq_true rfl, Nat.le_of_ble_eq_true rfl⟩ rfl rfl hl.1 (Nat.le_of_ble_eq_true rfl) dX11_isSetForBell_33 (fun x37 G9 H locs hq hB => ?_)
      obtain ⟨rfl, i_x37, hp38⟩ := hq
      have k39 : ¬ x37 = 0 → iv_R 0 99 x_2 := fun h => ⟨iv_max i_x_2.1 (Int.le_trans q_0.1 (hp38.1 h).1) (by decide), iv_min i_x_2.2 (Int.le_trans (hp38.1 h).2 q_99.2) (by decide)⟩
      refine lv_if_eq (tgt := 47) hx hb dX11_isSetForBell_36 (by decide) (fun c40 => ?_) (fun c40 => ?_)
      · skip
        have i40_x37 : iv_R 0 0 x37 := (i_x37.cutHi (n := 0) (iv_eq_r c40 q_0).2)
        refine lv_iload_n hx hb dX11_isSetForBell_47 rfl (lv_at hl 2 rfl) ?_
        refine lv_iconst (v := 4) hx hb dX11_isSetForBell_48 (by decide) ?_
        refine lv_icmp_ne (tgt := 69) hx hb dX11_isSetForBell_49 (by decide) (fun c42 => ?_) (fun c42 => ?_)
        · skip
          refine lv_iload_n hx hb dX11_isSetForBell_69 rfl (lv_at hl 2 rfl) ?_
          refine lv_iconst (v := 5) hx hb dX11_isSetForBell_70 (by decide) ?_
          refine lv_icmp_ne (tgt := 92) hx hb dX11_isSetForBell_71 (by decide) (fun c43 => ?_) (fun c43 => ?_)
          · skip
            refine lv_iconst (v := 0) hx hb dX11_isSetForBell_92 (by decide) ?_
            exact iv_zret X hr hlocks hB (q_0.wk (by decide)) ⟨hM, (q_0.wk (by decide)), ⟨fun _ => (i35_x_0.wk (by decide)), fun _ => i5_x_1, fun h => absurd (iv_z q_0) h⟩, (⟨fun _ => hQ, fun h => absurd rfl h.1⟩), (fun n hn => ⟨fun h => absurd rfl h, fun h => by have wn := congrArg Int32.toInt (hn.val (by rw [← e_b1]; exact a_b1o)); have w1 := mt Int32.toInt_inj.mp c4; have w2 := (ex_x2).mp c4; have w3 := i4_x2.1; have w4 := i4_x2.2; have w5 := i5_x_1.1; have w6 := i5_x_1.2; have w7 := congrArg Int32.toInt c9; have w8 := i35_x_0.1; have w9 := i35_x_0.2; have w10 := congrArg Int32.toInt c40; have w11 := hp38.2 c40; have w12 := i40_x37.1; have w13 := i40_x37.2; have w14 := mt Int32.toInt_inj.mp c42; have w15 := mt Int32.toInt_inj.mp c43; have e0 : (0 : Int32).toInt = 0 := rfl; have e1 : (1 : Int32).toInt = 1 := rfl; have e3 : (3 : Int32).toInt = 3 := rfl; have e4 : (4 : Int32).toInt = 4 := rfl; have e5 : (5 : Int32).toInt = 5 := rfl; have e47 : (47 : Int32).toInt = 47 := rfl; have e99 : (99 : Int32).toInt = 99 := rfl; omega⟩)⟩ dX11_isSetForBell_93
          · skip
            exact (i35_x_0.cutLo (n := 5) (iv_eq_r c43 q_5).1).no (by decide)
        · skip
          exact (i35_x_0.cutLo (n := 4) (iv_eq_r c42 q_4).1).no (by decide)
      · skip
        have i43_x37 : iv_R 1 1 x37 := iv_ne_lo c40 i_x37 q_0 (by decide)
        have i44_x_2 : iv_R 0 99 x_2 := ((i_x_2.cutLo (n := 0) (k39 c40).1).cutHi (n := 99) (k39 c40).2)
        refine lv_aload hx hb dX11_isSetForBell_39 (lv_at hl 0 rfl) ?_
        refine lv_iload_n hx hb dX11_isSetForBell_41 rfl (lv_at hl 4 rfl) ?_
        refine iv_puti X ft_X1 hB a_b8 sh_1 3 (by decide) rfl rfl k_fl_X11_122 rfl (i44_x_2.wk (by decide)) rfl rfl dX11_isSetForBell_42 (fun H locs hB => ?_)
        have hm := iv_Md.put (x := x_2) a_b8 (j := 3) (by decide) (by decide)
        have h9 := iv_up_eq (G := G) (a := b8) (k := (1, upd g_b8 3 x_2, r_b8))
        generalize iv_up G b8 _ = G46 at hB hm h9
        have hM := hM.stp (iv_MdO.ofM hm) (by decide)
        have hQ := hQ.tr (iv_kq.T (iv_MdT.of hm))
        generalize hgn_g47 : upd g_b8 _ _ = g47 at h9
        have a_h0 := hm.at a_h0 (by decide)
        have a_b8 := h9
        have e9_g47 : x_2 = g47 3 := by rw [← hgn_g47]; simp [upd]
        refine lv_iconst (v := 1) hx hb dX11_isSetForBell_45 (by decide) ?_
        exact iv_zret X hr hlocks hB (q_1.wk (by decide)) ⟨hM, (q_1.wk (by decide)), ⟨fun _ => (i35_x_0.wk (by decide)), fun _ => i5_x_1, fun _ => i44_x_2⟩, (⟨fun _ => hQ, fun h => absurd h.2 (by have w1 := i35_x_0.1; have w2 := i35_x_0.2; omega)⟩), (fun n hn => ⟨fun _ => by have wn := congrArg Int32.toInt (hn.val (by rw [← e_b1]; exact a_b1o)); have w1 := mt Int32.toInt_inj.mp c4; have w2 := (ex_x2).mp c4; have w3 := i4_x2.1; have w4 := i4_x2.2; have w5 := i5_x_1.1; have w6 := i5_x_1.2; have w7 := congrArg Int32.toInt c9; have w8 := i35_x_0.1; have w9 := i35_x_0.2; have w10 := mt Int32.toInt_inj.mp c40; have w11 := hp38.1 c40; have w12 := i43_x37.1; have w13 := i43_x37.2; have w14 := i44_x_2.1; have w15 := i44_x_2.2; have e0 : (0 : Int32).toInt = 0 := rfl; have e1 : (1 : Int32).toInt = 1 := rfl; have e3 : (3 : Int32).toInt = 3 := rfl; have e4 : (4 : Int32).toInt = 4 := rfl; have e5 : (5 : Int32).toInt = 5 := rfl; have e47 : (47 : Int32).toInt = 47 := rfl; have e99 : (99 : Int32).toInt = 99 := rfl; omega, fun _ => by decide⟩)⟩ dX11_isSetForBell_46
  · skip
    have i47_x2 : iv_R 0 0 x2 := (i_x2.cutHi (n := 0) (iv_eq_r c4 q_0).2)
    refine lv_iconst (v := 0) hx hb dX11_isSetForBell_11 (by decide) ?_
    exact iv_zret X hr hlocks hB (q_0.wk (by decide)) ⟨hM, (q_0.wk (by decide)), ⟨fun h => absurd (iv_z q_0) h, fun h => absurd (iv_z q_0) h, fun h => absurd (iv_z q_0) h⟩, (⟨fun _ => hQ, fun h => absurd rfl h.1⟩), (fun n hn => ⟨fun h => absurd rfl h, fun h => by have wn := congrArg Int32.toInt (hn.val (by rw [← e_b1]; exact a_b1o)); have w1 := congrArg Int32.toInt c4; have w2 := (mt (ex_x2).mpr (fun q => q c4)); have w3 := i47_x2.1; have w4 := i47_x2.2; have e0 : (0 : Int32).toInt = 0 := rfl; have e1 : (1 : Int32).toInt = 1 := rfl; have e3 : (3 : Int32).toInt = 3 := rfl; have e4 : (4 : Int32).toInt = 4 := rfl; have e5 : (5 : Int32).toInt = 5 := rfl; have e47 : (47 : Int32).toInt = 47 := rfl; have e99 : (99 : Int32).toInt = 99 := rfl; omega⟩)⟩ dX11_isSetForBell_12
set_option maxHeartbeats 4000000 in
set_option maxRecDepth 100000 in
theorem e_X11_set (l : Launch) (D : va_G) (tys : List (ClassId × FieldType)) (base : Nat) (G : iv_G) (h0 : Nat) (g_h0 : Nat → Int32) (r_h0 : Nat → Nat) (a_h0 : G h0 = some (11, g_h0, r_h0)) (x_0 : Int32) (i_x_0 : iv_R (-2147483648) 2147483647 x_0) (x_1 : Int32) (i_x_1 : iv_R (-2147483648) 2147483647 x_1) (x_2 : Int32) (i_x_2 : iv_R (-2147483648) 2147483647 x_2) : Met l yX11_set (Cond.code yX11_set cX11_set 5 (some .boolean) :: iv_W0) ({ frames := 2, cells := 0, slots := 0, locals := 46 }) (iv_Pc iv_sh D classes tys base G [.ref h0, .int x_0, .int x_1, .int x_2]) (iv_Qi iv_sh D classes tys base (fun v G' => iv_MdO [1, 5, 6] G G' ∧ iv_R 0 1 v ∧ ((¬ v = 0 → iv_R 0 5 x_0) ∧ (¬ v = 0 → iv_R 0 1000 x_2)) ∧ hs_S v x_0 x_1 x_2 (r_h0 0) G G' ∧ (∀ n : Int32, iv_kc 5 1 (r_h0 0) n G → (¬ v = 0 ↔ (x_0.toInt = 0 ∧ 0 ≤ x_2.toInt ∧ x_2.toInt ≤ 12) ∨ (x_0.toInt = 1 ∧ 0 ≤ x_2.toInt ∧ x_2.toInt ≤ 9) ∨ (x_0.toInt = 2 ∧ 0 ≤ x_2.toInt ∧ x_2.toInt ≤ 1000) ∨ ((0 ≤ x_1.toInt ∧ x_1.toInt < n.toInt) ∧ ((x_0.toInt = 3 ∧ 0 ≤ x_2.toInt ∧ x_2.toInt ≤ 99) ∨ (x_0.toInt = 4 ∧ 0 ≤ x_2.toInt ∧ x_2.toInt ≤ 1) ∨ (x_0.toInt = 5 ∧ 0 ≤ x_2.toInt ∧ x_2.toInt ≤ 47))))))) 0 0 (iv_A base) := by
  refine iv_head (by decide) (Nat.le_of_ble_eq_true rfl) ?_
  intro p e s m args below meth c ls X hr hlocks hname hB hl
  have X := X
  have hx := X.1.1
  have hb := X.1.2.1
  have hM : iv_MdO [1, 5, 6] G G := iv_MdO.rf
  have hl : lv_has ls 5 [(0, .ref h0), (1, .int x_0), (2, .int x_1), (3, .int x_2)] := hl
  refine lv_iload_n hx hb dX11_set_0 rfl (lv_at hl 1 rfl) ?_
  refine lv_iconst (v := 3) hx hb dX11_set_1 (by decide) ?_
  refine lv_icmp_lt (tgt := 15) hx hb dX11_set_2 (by decide) (fun c1 => ?_) (fun c1 => ?_)
  · skip
    have i1_x_0 : iv_R (-2147483648) 2 x_0 := (i_x_0.cutHi (n := 2) (iv_lt_r c1 q_3 (by decide)))
    refine lv_aload_n hx hb dX11_set_15 rfl (lv_at hl 0 rfl) ?_
    refine lv_iload_n hx hb dX11_set_16 rfl (lv_at hl 1 rfl) ?_
    refine lv_iload_n hx hb dX11_set_17 rfl (lv_at hl 3 rfl) ?_
    refine iv_cVi X k_good k_mf_X11_isSetForAll k_im_X11_isSetForAll k_sel_X11_isSetForAll k_ml_X11_106 ft_X11 hB a_h0 sh_11 (As := [.int x_0, .int x_2]) (e_X11_isSetForAll l D tys base G h0 g_h0 r_h0 a_h0 x_0 i1_x_0 x_2 i_x_2) ⟨rfl, rfl⟩ ⟨Nat.le_of_ble_eq_true rfl, Nat.le_of_ble_eq_true rfl⟩ ⟨Nat.le_of_ble_eq_true rfl, Nat.le_of_ble_eq_true rfl⟩ rfl rfl hl.1 (Nat.le_of_ble_eq_true rfl) dX11_set_18 (fun x3 G9 H locs hq hB => ?_)
    obtain ⟨hm, i_x3, hp4, hs, ex_x3⟩ := hq
    obtain ⟨G5, hG9⟩ : ∃ g, g = G9 := ⟨_, rfl⟩
    rw [← hG9] at hm hB hs
    have hM := hM.stp hm (by decide)
    have a_h0 := hm.at a_h0 (by decide)
    refine lv_istore (lv' := [(4, .int x3), (0, .ref h0), (1, .int x_0), (2, .int x_1), (3, .int x_2)]) hx hb dX11_set_21 hl (by decide) rfl (fun ls hl => ?_)
    refine lv_iload hx hb dX11_set_23 (lv_at hl 0 rfl) ?_
    refine lv_if_eq (tgt := 35) hx hb dX11_set_25 (by decide) (fun c6 => ?_) (fun c6 => ?_)
    · skip
      have i6_x3 : iv_R 0 0 x3 := (i_x3.cutHi (n := 0) (iv_eq_r c6 q_0).2)
      refine lv_iload hx hb dX11_set_35 (lv_at hl 0 rfl) ?_
      exact iv_zret X hr hlocks hB (i6_x3.wk (by decide)) ⟨hM, (i6_x3.wk (by decide)), ⟨fun h => absurd (iv_z i6_x3) h, fun h => absurd (iv_z i6_x3) h⟩, hs.S (by have w1 := i1_x_0.2; omega), (fun n hn => ⟨fun h => by have w1 := i_x_1.1; have w2 := i_x_1.2; have w3 := i_x_2.1; have w4 := i_x_2.2; have w5 := Int32.lt_iff_toInt_lt.mp c1; have w6 := i1_x_0.1; have w7 := i1_x_0.2; have w8 := congrArg Int32.toInt c6; have w9 := (mt (ex_x3).mpr (fun q => q c6)); have w10 := i6_x3.1; have w11 := i6_x3.2; have e0 : (0 : Int32).toInt = 0 := rfl; have e1 : (1 : Int32).toInt = 1 := rfl; have e3 : (3 : Int32).toInt = 3 := rfl; have u0 := mt Int32.toInt_inj.mp h; have u1 := (ex_x3).mp h; omega, fun h h8 => by have w1 := i_x_1.1; have w2 := i_x_1.2; have w3 := i_x_2.1; have w4 := i_x_2.2; have w5 := Int32.lt_iff_toInt_lt.mp c1; have w6 := i1_x_0.1; have w7 := i1_x_0.2; have w8 := congrArg Int32.toInt c6; have w9 := (mt (ex_x3).mpr (fun q => q c6)); have w10 := i6_x3.1; have w11 := i6_x3.2; have e0 : (0 : Int32).toInt = 0 := rfl; have e1 : (1 : Int32).toInt = 1 := rfl; have e3 : (3 : Int32).toInt = 3 := rfl; have u0 := congrArg Int32.toInt h8; have u1 := (mt (ex_x3).mpr (fun q => q h8)); omega⟩)⟩ dX11_set_37
    · skip
      have i7_x3 : iv_R 1 1 x3 := iv_ne_lo c6 i_x3 q_0 (by decide)
      have i8_x_0 : iv_R 0 2 x_0 := (i1_x_0.cutLo (n := 0) (hp4.1 c6).1)
      have i9_x_2 : iv_R 0 1000 x_2 := ((i_x_2.cutLo (n := 0) (hp4.2 c6).1).cutHi (n := 1000) (hp4.2 c6).2)
      refine lv_aload_n hx hb dX11_set_28 rfl (lv_at hl 1 rfl) ?_
      refine iv_getr X ft_X11 hB a_h0 sh_11 3 (by decide) rfl k_fl_X11_22 dX11_set_29 (fun b11 g_b11 r_b11 e_b11 a_b11 => ?_)
      refine iv_cVv X k_good k_mf_X6_forget k_im_X6_forget k_sel_X6_forget k_ml_X11_76 ft_X6 hB a_b11 sh_6 (As := []) (c_X6_forget l D tys base G5 b11 g_b11 r_b11 a_b11) ⟨rfl, rfl⟩ ⟨Nat.le_of_ble_eq_true rfl, Nat.le_of_ble_eq_true rfl⟩ ⟨Nat.le_of_ble_eq_true rfl, Nat.le_of_ble_eq_true rfl⟩ rfl rfl hl.1 (Nat.le_of_ble_eq_true rfl) dX11_set_32 (fun G9 H locs hq hB => ?_)
      have hm := hq
      obtain ⟨G12, hG9⟩ : ∃ g, g = G9 := ⟨_, rfl⟩
      rw [← hG9] at hm hB
      have hM := hM.stp (iv_MdO.ofM hm) (by decide)
      have hs := hs.T (iv_MdT.of hm)
      have a_h0 := hm.at a_h0 (by decide)
      refine lv_iload hx hb dX11_set_35 (lv_at hl 0 rfl) ?_
      exact iv_zret X hr hlocks hB (i7_x3.wk (by decide)) ⟨hM, (i7_x3.wk (by decide)), ⟨fun _ => (i8_x_0.wk (by decide)), fun _ => i9_x_2⟩, hs.S (by have w1 := i1_x_0.2; omega), (fun n hn => ⟨fun h => by have w1 := i_x_1.1; have w2 := i_x_1.2; have w3 := Int32.lt_iff_toInt_lt.mp c1; have w4 := mt Int32.toInt_inj.mp c6; have w5 := (ex_x3).mp c6; have w6 := i7_x3.1; have w7 := i7_x3.2; have w8 := i8_x_0.1; have w9 := i8_x_0.2; have w10 := i9_x_2.1; have w11 := i9_x_2.2; have e0 : (0 : Int32).toInt = 0 := rfl; have e1 : (1 : Int32).toInt = 1 := rfl; have e3 : (3 : Int32).toInt = 3 := rfl; have u0 := mt Int32.toInt_inj.mp h; have u1 := (ex_x3).mp h; omega, fun h h8 => by have w1 := i_x_1.1; have w2 := i_x_1.2; have w3 := Int32.lt_iff_toInt_lt.mp c1; have w4 := mt Int32.toInt_inj.mp c6; have w5 := (ex_x3).mp c6; have w6 := i7_x3.1; have w7 := i7_x3.2; have w8 := i8_x_0.1; have w9 := i8_x_0.2; have w10 := i9_x_2.1; have w11 := i9_x_2.2; have e0 : (0 : Int32).toInt = 0 := rfl; have e1 : (1 : Int32).toInt = 1 := rfl; have e3 : (3 : Int32).toInt = 3 := rfl; have u0 := congrArg Int32.toInt h8; have u1 := (mt (ex_x3).mpr (fun q => q h8)); omega⟩)⟩ dX11_set_37
  · skip
    have i12_x_0 : iv_R 3 2147483647 x_0 := (i_x_0.cutLo (n := 3) (iv_le_l (iv_nlt c1) q_3))
    refine lv_aload_n hx hb dX11_set_5 rfl (lv_at hl 0 rfl) ?_
    refine lv_iload_n hx hb dX11_set_6 rfl (lv_at hl 1 rfl) ?_
    refine lv_iload_n hx hb dX11_set_7 rfl (lv_at hl 2 rfl) ?_
    refine lv_iload_n hx hb dX11_set_8 rfl (lv_at hl 3 rfl) ?_
    refine iv_cVi X k_good k_mf_X11_isSetForBell k_im_X11_isSetForBell k_sel_X11_isSetForBell k_ml_X11_103 ft_X11 hB a_h0 sh_11 (As := [.int x_0, .int x_1, .int x_2]) (e_X11_isSetForBell l D tys base G h0 g_h0 r_h0 a_h0 x_0 i12_x_0 x_1 i_x_1 x_2 i_x_2) ⟨rfl, rfl⟩ ⟨Nat.le_of_ble_eq_true rfl, Nat.le_of_ble_eq_true rfl⟩ ⟨Nat.le_of_ble_eq_true rfl, Nat.le_of_ble_eq_true rfl⟩ rfl rfl hl.1 (Nat.le_of_ble_eq_true rfl) dX11_set_9 (fun x14 G9 H locs hq hB => ?_)
    obtain ⟨hm, i_x14, hp15, hs, ex_x14⟩ := hq
    obtain ⟨G16, hG9⟩ : ∃ g, g = G9 := ⟨_, rfl⟩
    rw [← hG9] at hm hB hs
    have hM := hM.stp hm (by decide)
    have a_h0 := hm.at a_h0 (by decide)
    refine lv_goto (tgt := 21) hx hb dX11_set_12 (by decide) ?_
    refine lv_istore (lv' := [(4, .int x14), (0, .ref h0), (1, .int x_0), (2, .int x_1), (3, .int x_2)]) hx hb dX11_set_21 hl (by decide) rfl (fun ls hl => ?_)
    refine lv_iload hx hb dX11_set_23 (lv_at hl 0 rfl) ?_
    refine lv_if_eq (tgt := 35) hx hb dX11_set_25 (by decide) (fun c17 => ?_) (fun c17 => ?_)
    · skip
      have i17_x14 : iv_R 0 0 x14 := (i_x14.cutHi (n := 0) (iv_eq_r c17 q_0).2)
      refine lv_iload hx hb dX11_set_35 (lv_at hl 0 rfl) ?_
      exact iv_zret X hr hlocks hB (i17_x14.wk (by decide)) ⟨hM, (i17_x14.wk (by decide)), ⟨fun h => absurd (iv_z i17_x14) h, fun h => absurd (iv_z i17_x14) h⟩, hs.S (by have w1 := i12_x_0.1; omega), (fun n hn => ⟨fun h => by have w1 := i_x_1.1; have w2 := i_x_1.2; have w3 := mt Int32.lt_iff_toInt_lt.mpr c1; have w4 := i12_x_0.1; have w5 := i12_x_0.2; have w6 := congrArg Int32.toInt c17; have w7 := (mt (ex_x14 n hn).mpr (fun q => q c17)); have w8 := i17_x14.1; have w9 := i17_x14.2; have e0 : (0 : Int32).toInt = 0 := rfl; have e1 : (1 : Int32).toInt = 1 := rfl; have e3 : (3 : Int32).toInt = 3 := rfl; have u0 := mt Int32.toInt_inj.mp h; have u1 := (ex_x14 n hn).mp h; omega, fun h h8 => by have w1 := i_x_1.1; have w2 := i_x_1.2; have w3 := mt Int32.lt_iff_toInt_lt.mpr c1; have w4 := i12_x_0.1; have w5 := i12_x_0.2; have w6 := congrArg Int32.toInt c17; have w7 := (mt (ex_x14 n hn).mpr (fun q => q c17)); have w8 := i17_x14.1; have w9 := i17_x14.2; have e0 : (0 : Int32).toInt = 0 := rfl; have e1 : (1 : Int32).toInt = 1 := rfl; have e3 : (3 : Int32).toInt = 3 := rfl; have u0 := congrArg Int32.toInt h8; have u1 := (mt (ex_x14 n hn).mpr (fun q => q h8)); omega⟩)⟩ dX11_set_37
    · skip
      have i18_x14 : iv_R 1 1 x14 := iv_ne_lo c17 i_x14 q_0 (by decide)
      have i19_x_0 : iv_R 3 5 x_0 := (i12_x_0.cutHi (n := 5) (hp15.1 c17).2)
      have i20_x_1 : iv_R 0 9 x_1 := ((i_x_1.cutLo (n := 0) (hp15.2.1 c17).1).cutHi (n := 9) (hp15.2.1 c17).2)
      have i21_x_2 : iv_R 0 99 x_2 := ((i_x_2.cutLo (n := 0) (hp15.2.2 c17).1).cutHi (n := 99) (hp15.2.2 c17).2)
      refine lv_aload_n hx hb dX11_set_28 rfl (lv_at hl 1 rfl) ?_
      refine iv_getr X ft_X11 hB a_h0 sh_11 3 (by decide) rfl k_fl_X11_22 dX11_set_29 (fun b23 g_b23 r_b23 e_b23 a_b23 => ?_)
      refine iv_cVv X k_good k_mf_X6_forget k_im_X6_forget k_sel_X6_forget k_ml_X11_76 ft_X6 hB a_b23 sh_6 (As := []) (c_X6_forget l D tys base G16 b23 g_b23 r_b23 a_b23) ⟨rfl, rfl⟩ ⟨Nat.le_of_ble_eq_true rfl, Nat.le_of_ble_eq_true rfl⟩ ⟨Nat.le_of_ble_eq_true rfl, Nat.le_of_ble_eq_true rfl⟩ rfl rfl hl.1 (Nat.le_of_ble_eq_true rfl) dX11_set_32 (fun G9 H locs hq hB => ?_)
      have hm := hq
      obtain ⟨G24, hG9⟩ : ∃ g, g = G9 := ⟨_, rfl⟩
      rw [← hG9] at hm hB
      have hM := hM.stp (iv_MdO.ofM hm) (by decide)
      have hs := hs.T (iv_MdT.of hm)
      have a_h0 := hm.at a_h0 (by decide)
      refine lv_iload hx hb dX11_set_35 (lv_at hl 0 rfl) ?_
      exact iv_zret X hr hlocks hB (i18_x14.wk (by decide)) ⟨hM, (i18_x14.wk (by decide)), ⟨fun _ => (i19_x_0.wk (by decide)), fun _ => (i21_x_2.wk (by decide))⟩, hs.S (by have w1 := i12_x_0.1; omega), (fun n hn => ⟨fun h => by have w1 := mt Int32.lt_iff_toInt_lt.mpr c1; have w2 := mt Int32.toInt_inj.mp c17; have w3 := (ex_x14 n hn).mp c17; have w4 := i18_x14.1; have w5 := i18_x14.2; have w6 := i19_x_0.1; have w7 := i19_x_0.2; have w8 := i20_x_1.1; have w9 := i20_x_1.2; have w10 := i21_x_2.1; have w11 := i21_x_2.2; have e0 : (0 : Int32).toInt = 0 := rfl; have e1 : (1 : Int32).toInt = 1 := rfl; have e3 : (3 : Int32).toInt = 3 := rfl; have u0 := mt Int32.toInt_inj.mp h; have u1 := (ex_x14 n hn).mp h; omega, fun h h8 => by have w1 := mt Int32.lt_iff_toInt_lt.mpr c1; have w2 := mt Int32.toInt_inj.mp c17; have w3 := (ex_x14 n hn).mp c17; have w4 := i18_x14.1; have w5 := i18_x14.2; have w6 := i19_x_0.1; have w7 := i19_x_0.2; have w8 := i20_x_1.1; have w9 := i20_x_1.2; have w10 := i21_x_2.1; have w11 := i21_x_2.2; have e0 : (0 : Int32).toInt = 0 := rfl; have e1 : (1 : Int32).toInt = 1 := rfl; have e3 : (3 : Int32).toInt = 3 := rfl; have u0 := congrArg Int32.toInt h8; have u1 := (mt (ex_x14 n hn).mpr (fun q => q h8)); omega⟩)⟩ dX11_set_37
set_option maxHeartbeats 4000000 in
set_option maxRecDepth 100000 in
theorem e_X12_isBell (l : Launch) (D : va_G) (tys : List (ClassId × FieldType)) (base : Nat) (G : iv_G) (h0 : Nat) (g_h0 : Nat → Int32) (r_h0 : Nat → Nat) (a_h0 : G h0 = some (12, g_h0, r_h0)) (x_0 : Int32) (i_x_0 : iv_R (-2147483648) 2147483647 x_0) : Met l yX12_isBell (Cond.code yX12_isBell cX12_isBell 2 (some .boolean) :: iv_W0) ({ frames := 1, cells := 0, slots := 0, locals := 22 }) (iv_Pc iv_sh D classes tys base G [.ref h0, .int x_0]) (iv_Qi iv_sh D classes tys base (fun v G' => G = G' ∧ iv_R 0 1 v ∧ (¬ v = 0 → iv_R 0 9 x_0) ∧ (∀ n : Int32, iv_kc 60 146 (r_h0 0) n G → (¬ v = 0 ↔ 0 ≤ x_0.toInt ∧ x_0.toInt < n.toInt)))) 0 0 (iv_A base) := by
  refine iv_head (by decide) (Nat.le_of_ble_eq_true rfl) ?_
  intro p e s m args below meth c ls X hr hlocks hname hB hl
  have X := X
  have hx := X.1.1
  have hb := X.1.2.1
  have hl : lv_has ls 2 [(0, .ref h0), (1, .int x_0)] := hl
  refine lv_iload_n hx hb dX12_isBell_0 rfl (lv_at hl 1 rfl) ?_
  refine lv_iconst (v := 0) hx hb dX12_isBell_1 (by decide) ?_
  refine lv_aload_n hx hb dX12_isBell_2 rfl (lv_at hl 0 rfl) ?_
  refine iv_getr X ft_X12 hB a_h0 sh_12 0 (by decide) rfl k_fl_X12_7 dX12_isBell_3 (fun b1 g_b1 r_b1 e_b1 a_b1 => ?_)
  refine lv_sipush (v := 146) hx hb dX12_isBell_6 (by decide) ?_
  refine iv_wald_c X hB a_b1 q_146 (by decide) (lo := 0) (hi' := 10) (by decide) dX12_isBell_9 (fun x2 e_x2 i_x2 => ?_)
  refine lv_iconst (v := 1) hx hb dX12_isBell_10 (by decide) ?_
  refine iv_isub hx hb i_x2 q_1 (lo := (-1)) (hi := 9) (by decide) dX12_isBell_11 (fun x3 e_x3 i_x3 => ?_)
  refine iv_cSi X k_good k_mf_X12_isIn k_st_X12_isIn k_ml_X12_56 hB (As := [.int x_0, .int 0, .int x3]) (c_X12_isIn l D tys base G x_0 i_x_0 0 (q_0.wk (by decide)) x3 (i_x3.wk (by decide))) ⟨rfl, rfl⟩ ⟨Nat.le_of_ble_eq_true rfl, Nat.le_of_ble_eq_true rfl⟩ ⟨Nat.le_of_ble_eq_true rfl, Nat.le_of_ble_eq_true rfl⟩ rfl rfl hl.1 (Nat.le_of_ble_eq_true rfl) dX12_isBell_12 (fun x4 G9 H locs hq hB => ?_)
  obtain ⟨rfl, i_x4, hp5⟩ := hq
  have k6 : ¬ x4 = 0 → iv_R 0 9 x_0 := fun h => ⟨iv_max i_x_0.1 (Int.le_trans q_0.1 (hp5.1 h).1) (by decide), iv_min i_x_0.2 (Int.le_trans (hp5.1 h).2 i_x3.2) (by decide)⟩
  exact iv_zret X hr hlocks hB i_x4 ⟨rfl, i_x4, fun h => (k6 h).wk (by decide), (fun n hn => ⟨fun h => by have wn := congrArg Int32.toInt (hn.val (by rw [← e_b1]; exact a_b1)); have w1 := i_x_0.1; have w2 := i_x_0.2; have w3 := congrArg Int32.toInt (show x2 = g_b1 146 from e_x2); have w4 := i_x4.1; have w5 := i_x4.2; have e0 : (0 : Int32).toInt = 0 := rfl; have e1 : (1 : Int32).toInt = 1 := rfl; have e146 : (146 : Int32).toInt = 146 := rfl; have u0 := mt Int32.toInt_inj.mp h; have u1 := hp5.1 h; omega, fun h h8 => by have wn := congrArg Int32.toInt (hn.val (by rw [← e_b1]; exact a_b1)); have w1 := i_x_0.1; have w2 := i_x_0.2; have w3 := congrArg Int32.toInt (show x2 = g_b1 146 from e_x2); have w4 := i_x4.1; have w5 := i_x4.2; have e0 : (0 : Int32).toInt = 0 := rfl; have e1 : (1 : Int32).toInt = 1 := rfl; have e146 : (146 : Int32).toInt = 146 := rfl; have u0 := congrArg Int32.toInt h8; have u1 := hp5.2 h8; omega⟩)⟩ dX12_isBell_15
set_option maxHeartbeats 4000000 in
set_option maxRecDepth 100000 in
theorem e_X12_canSet (l : Launch) (D : va_G) (tys : List (ClassId × FieldType)) (base : Nat) (G : iv_G) (h0 : Nat) (g_h0 : Nat → Int32) (r_h0 : Nat → Nat) (a_h0 : G h0 = some (12, g_h0, r_h0)) (x_0 : Int32) (i_x_0 : iv_R (-2147483648) 2147483647 x_0) (x_1 : Int32) (i_x_1 : iv_R (-2147483648) 2147483647 x_1) (x_2 : Int32) (i_x_2 : iv_R (-2147483648) 2147483647 x_2) : Met l yX12_canSet (Cond.code yX12_canSet cX12_canSet 4 (some .boolean) :: iv_W0) ({ frames := 2, cells := 0, slots := 0, locals := 43 }) (iv_Pc iv_sh D classes tys base G [.ref h0, .int x_0, .int x_1, .int x_2]) (iv_Qi iv_sh D classes tys base (fun v G' => G = G' ∧ iv_R 0 1 v ∧ ((¬ v = 0 → iv_R 0 5 x_0) ∧ (¬ v = 0 → iv_R 0 1000 x_2)) ∧ (¬ v = 0 → 3 ≤ x_0.toInt → iv_R 0 9 x_1) ∧ (¬ v = 0 → 5 ≤ x_0.toInt → iv_R 0 47 x_2) ∧ (∀ n : Int32, iv_kc 60 146 (r_h0 0) n G → (¬ v = 0 ↔ (x_0.toInt = 0 ∧ 0 ≤ x_2.toInt ∧ x_2.toInt ≤ 12) ∨ (x_0.toInt = 1 ∧ 0 ≤ x_2.toInt ∧ x_2.toInt ≤ 9) ∨ (x_0.toInt = 2 ∧ 0 ≤ x_2.toInt ∧ x_2.toInt ≤ 1000) ∨ ((0 ≤ x_1.toInt ∧ x_1.toInt < n.toInt) ∧ ((x_0.toInt = 3 ∧ 0 ≤ x_2.toInt ∧ x_2.toInt ≤ 99) ∨ (x_0.toInt = 4 ∧ 0 ≤ x_2.toInt ∧ x_2.toInt ≤ 1) ∨ (x_0.toInt = 5 ∧ 0 ≤ x_2.toInt ∧ x_2.toInt ≤ 47))))))) 0 0 (iv_A base) := by
  refine iv_head (by decide) (Nat.le_of_ble_eq_true rfl) ?_
  intro p e s m args below meth c ls X hr hlocks hname hB hl
  have X := X
  have hx := X.1.1
  have hb := X.1.2.1
  have hl : lv_has ls 4 [(0, .ref h0), (1, .int x_0), (2, .int x_1), (3, .int x_2)] := hl
  refine lv_iload_n hx hb dX12_canSet_0 rfl (lv_at hl 1 rfl) ?_
  by_cases w1 : x_0.toInt = 0
  · skip
    refine lv_tableIn (tgt := 40) hx hb dX12_canSet_1 (by omega) (by omega) (by rw [w1]; rfl) (by decide) ?_
    have w1i : iv_R 0 0 x_0 := iv_lit w1
    refine lv_iload_n hx hb dX12_canSet_40 rfl (lv_at hl 3 rfl) ?_
    refine lv_iconst (v := 0) hx hb dX12_canSet_41 (by decide) ?_
    refine lv_bipush (v := 12) hx hb dX12_canSet_42 (by decide) ?_
    refine iv_cSi X k_good k_mf_X12_isIn k_st_X12_isIn k_ml_X12_56 hB (As := [.int x_2, .int 0, .int 12]) (c_X12_isIn l D tys base G x_2 i_x_2 0 (q_0.wk (by decide)) 12 (q_12.wk (by decide))) ⟨rfl, rfl⟩ ⟨Nat.le_of_ble_eq_true rfl, Nat.le_of_ble_eq_true rfl⟩ ⟨Nat.le_of_ble_eq_true rfl, Nat.le_of_ble_eq_true rfl⟩ rfl rfl hl.1 (Nat.le_of_ble_eq_true rfl) dX12_canSet_44 (fun x2 G9 H locs hq hB => ?_)
    obtain ⟨rfl, i_x2, hp3⟩ := hq
    have k4 : ¬ x2 = 0 → iv_R 0 12 x_2 := fun h => ⟨iv_max i_x_2.1 (Int.le_trans q_0.1 (hp3.1 h).1) (by decide), iv_min i_x_2.2 (Int.le_trans (hp3.1 h).2 q_12.2) (by decide)⟩
    exact iv_zret X hr hlocks hB i_x2 ⟨rfl, i_x2, ⟨fun _ => (w1i.wk (by decide)), fun h => (k4 h).wk (by decide)⟩, fun _ h => absurd (Int.le_trans h w1i.2) (by decide), fun _ h => absurd (Int.le_trans h w1i.2) (by decide), (fun n hn => ⟨fun h => by have w1 := i_x_0.1; have w2 := i_x_0.2; have w3 := i_x_1.1; have w4 := i_x_1.2; have w5 := i_x_2.1; have w6 := i_x_2.2; have w7 := i_x2.1; have w8 := i_x2.2; have e0 : (0 : Int32).toInt = 0 := rfl; have e1 : (1 : Int32).toInt = 1 := rfl; have e12 : (12 : Int32).toInt = 12 := rfl; have u0 := mt Int32.toInt_inj.mp h; have u1 := hp3.1 h; omega, fun h h8 => by have w1 := i_x_0.1; have w2 := i_x_0.2; have w3 := i_x_1.1; have w4 := i_x_1.2; have w5 := i_x_2.1; have w6 := i_x_2.2; have w7 := i_x2.1; have w8 := i_x2.2; have e0 : (0 : Int32).toInt = 0 := rfl; have e1 : (1 : Int32).toInt = 1 := rfl; have e12 : (12 : Int32).toInt = 12 := rfl; have u0 := congrArg Int32.toInt h8; have u1 := hp3.2 h8; omega⟩)⟩ dX12_canSet_47
  skip
  by_cases w5 : x_0.toInt = 1
  · skip
    refine lv_tableIn (tgt := 48) hx hb dX12_canSet_1 (by omega) (by omega) (by rw [w5]; rfl) (by decide) ?_
    have w5i : iv_R 1 1 x_0 := iv_lit w5
    refine lv_iload_n hx hb dX12_canSet_48 rfl (lv_at hl 3 rfl) ?_
    refine lv_iconst (v := 0) hx hb dX12_canSet_49 (by decide) ?_
    refine lv_bipush (v := 9) hx hb dX12_canSet_50 (by decide) ?_
    refine iv_cSi X k_good k_mf_X12_isIn k_st_X12_isIn k_ml_X12_56 hB (As := [.int x_2, .int 0, .int 9]) (c_X12_isIn l D tys base G x_2 i_x_2 0 (q_0.wk (by decide)) 9 (q_9.wk (by decide))) ⟨rfl, rfl⟩ ⟨Nat.le_of_ble_eq_true rfl, Nat.le_of_ble_eq_true rfl⟩ ⟨Nat.le_of_ble_eq_true rfl, Nat.le_of_ble_eq_true rfl⟩ rfl rfl hl.1 (Nat.le_of_ble_eq_true rfl) dX12_canSet_52 (fun x6 G9 H locs hq hB => ?_)
    obtain ⟨rfl, i_x6, hp7⟩ := hq
    have k8 : ¬ x6 = 0 → iv_R 0 9 x_2 := fun h => ⟨iv_max i_x_2.1 (Int.le_trans q_0.1 (hp7.1 h).1) (by decide), iv_min i_x_2.2 (Int.le_trans (hp7.1 h).2 q_9.2) (by decide)⟩
    exact iv_zret X hr hlocks hB i_x6 ⟨rfl, i_x6, ⟨fun _ => (w5i.wk (by decide)), fun h => (k8 h).wk (by decide)⟩, fun _ h => absurd (Int.le_trans h w5i.2) (by decide), fun _ h => absurd (Int.le_trans h w5i.2) (by decide), (fun n hn => ⟨fun h => by have w1 := i_x_0.1; have w2 := i_x_0.2; have w3 := i_x_1.1; have w4 := i_x_1.2; have w5 := i_x_2.1; have w6 := i_x_2.2; have w7 := i_x6.1; have w8 := i_x6.2; have e0 : (0 : Int32).toInt = 0 := rfl; have e1 : (1 : Int32).toInt = 1 := rfl; have e9 : (9 : Int32).toInt = 9 := rfl; have e12 : (12 : Int32).toInt = 12 := rfl; have u0 := mt Int32.toInt_inj.mp h; have u1 := hp7.1 h; omega, fun h h8 => by have w1 := i_x_0.1; have w2 := i_x_0.2; have w3 := i_x_1.1; have w4 := i_x_1.2; have w5 := i_x_2.1; have w6 := i_x_2.2; have w7 := i_x6.1; have w8 := i_x6.2; have e0 : (0 : Int32).toInt = 0 := rfl; have e1 : (1 : Int32).toInt = 1 := rfl; have e9 : (9 : Int32).toInt = 9 := rfl; have e12 : (12 : Int32).toInt = 12 := rfl; have u0 := congrArg Int32.toInt h8; have u1 := hp7.2 h8; omega⟩)⟩ dX12_canSet_55
  skip
  by_cases w9 : x_0.toInt = 2
  · skip
    refine lv_tableIn (tgt := 56) hx hb dX12_canSet_1 (by omega) (by omega) (by rw [w9]; rfl) (by decide) ?_
    have w9i : iv_R 2 2 x_0 := iv_lit w9
    refine lv_iload_n hx hb dX12_canSet_56 rfl (lv_at hl 3 rfl) ?_
    refine lv_iconst (v := 0) hx hb dX12_canSet_57 (by decide) ?_
    refine lv_sipush (v := 1000) hx hb dX12_canSet_58 (by decide) ?_
    refine iv_cSi X k_good k_mf_X12_isIn k_st_X12_isIn k_ml_X12_56 hB (As := [.int x_2, .int 0, .int 1000]) (c_X12_isIn l D tys base G x_2 i_x_2 0 (q_0.wk (by decide)) 1000 (q_1000.wk (by decide))) ⟨rfl, rfl⟩ ⟨Nat.le_of_ble_eq_true rfl, Nat.le_of_ble_eq_true rfl⟩ ⟨Nat.le_of_ble_eq_true rfl, Nat.le_of_ble_eq_true rfl⟩ rfl rfl hl.1 (Nat.le_of_ble_eq_true rfl) dX12_canSet_61 (fun x10 G9 H locs hq hB => ?_)
    obtain ⟨rfl, i_x10, hp11⟩ := hq
    have k12 : ¬ x10 = 0 → iv_R 0 1000 x_2 := fun h => ⟨iv_max i_x_2.1 (Int.le_trans q_0.1 (hp11.1 h).1) (by decide), iv_min i_x_2.2 (Int.le_trans (hp11.1 h).2 q_1000.2) (by decide)⟩
    exact iv_zret X hr hlocks hB i_x10 ⟨rfl, i_x10, ⟨fun _ => (w9i.wk (by decide)), fun h => (k12 h).wk (by decide)⟩, fun _ h => absurd (Int.le_trans h w9i.2) (by decide), fun _ h => absurd (Int.le_trans h w9i.2) (by decide), (fun n hn => ⟨fun h => by have w1 := i_x_0.1; have w2 := i_x_0.2; have w3 := i_x_1.1; have w4 := i_x_1.2; have w5 := i_x_2.1; have w6 := i_x_2.2; have w7 := i_x10.1; have w8 := i_x10.2; have e0 : (0 : Int32).toInt = 0 := rfl; have e1 : (1 : Int32).toInt = 1 := rfl; have e9 : (9 : Int32).toInt = 9 := rfl; have e12 : (12 : Int32).toInt = 12 := rfl; have e1000 : (1000 : Int32).toInt = 1000 := rfl; have u0 := mt Int32.toInt_inj.mp h; have u1 := hp11.1 h; omega, fun h h8 => by have w1 := i_x_0.1; have w2 := i_x_0.2; have w3 := i_x_1.1; have w4 := i_x_1.2; have w5 := i_x_2.1; have w6 := i_x_2.2; have w7 := i_x10.1; have w8 := i_x10.2; have e0 : (0 : Int32).toInt = 0 := rfl; have e1 : (1 : Int32).toInt = 1 := rfl; have e9 : (9 : Int32).toInt = 9 := rfl; have e12 : (12 : Int32).toInt = 12 := rfl; have e1000 : (1000 : Int32).toInt = 1000 := rfl; have u0 := congrArg Int32.toInt h8; have u1 := hp11.2 h8; omega⟩)⟩ dX12_canSet_64
  skip
  by_cases w13 : x_0.toInt = 3
  · skip
    refine lv_tableIn (tgt := 65) hx hb dX12_canSet_1 (by omega) (by omega) (by rw [w13]; rfl) (by decide) ?_
    have w13i : iv_R 3 3 x_0 := iv_lit w13
    refine lv_aload_n hx hb dX12_canSet_65 rfl (lv_at hl 0 rfl) ?_
    refine lv_iload_n hx hb dX12_canSet_66 rfl (lv_at hl 2 rfl) ?_
    refine iv_cVi X k_good k_mf_X12_isBell k_im_X12_isBell k_sel_X12_isBell k_ml_X12_76 ft_X12 hB a_h0 sh_12 (As := [.int x_1]) (e_X12_isBell l D tys base G h0 g_h0 r_h0 a_h0 x_1 i_x_1) ⟨rfl, rfl⟩ ⟨Nat.le_of_ble_eq_true rfl, Nat.le_of_ble_eq_true rfl⟩ ⟨Nat.le_of_ble_eq_true rfl, Nat.le_of_ble_eq_true rfl⟩ rfl rfl hl.1 (Nat.le_of_ble_eq_true rfl) dX12_canSet_67 (fun x14 G9 H locs hq hB => ?_)
    obtain ⟨rfl, i_x14, hp15, ex_x14⟩ := hq
    refine lv_if_eq (tgt := 87) hx hb dX12_canSet_70 (by decide) (fun c16 => ?_) (fun c16 => ?_)
    · skip
      have i16_x14 : iv_R 0 0 x14 := (i_x14.cutHi (n := 0) (iv_eq_r c16 q_0).2)
      refine lv_iconst (v := 0) hx hb dX12_canSet_87 (by decide) ?_
      exact iv_zret X hr hlocks hB (q_0.wk (by decide)) ⟨rfl, (q_0.wk (by decide)), ⟨fun _ => (w13i.wk (by decide)), fun h => absurd (iv_z q_0) h⟩, fun h _ => absurd (iv_z q_0) h, fun h _ => absurd (iv_z q_0) h, (fun n hn => ⟨fun h => absurd rfl h, fun h => by have w1 := i_x_0.1; have w2 := i_x_0.2; have w3 := i_x_1.1; have w4 := i_x_1.2; have w5 := i_x_2.1; have w6 := i_x_2.2; have w7 := congrArg Int32.toInt c16; have w8 := (mt (ex_x14 n hn).mpr (fun q => q c16)); have w9 := i16_x14.1; have w10 := i16_x14.2; have e0 : (0 : Int32).toInt = 0 := rfl; have e1 : (1 : Int32).toInt = 1 := rfl; have e9 : (9 : Int32).toInt = 9 := rfl; have e12 : (12 : Int32).toInt = 12 := rfl; have e1000 : (1000 : Int32).toInt = 1000 := rfl; omega⟩)⟩ dX12_canSet_88
    · skip
      have i17_x14 : iv_R 1 1 x14 := iv_ne_lo c16 i_x14 q_0 (by decide)
      have i18_x_1 : iv_R 0 9 x_1 := ((i_x_1.cutLo (n := 0) (hp15 c16).1).cutHi (n := 9) (hp15 c16).2)
      refine lv_iload_n hx hb dX12_canSet_73 rfl (lv_at hl 3 rfl) ?_
      refine lv_iconst (v := 0) hx hb dX12_canSet_74 (by decide) ?_
      refine lv_bipush (v := 99) hx hb dX12_canSet_75 (by decide) ?_
      refine iv_cSi X k_good k_mf_X12_isIn k_st_X12_isIn k_ml_X12_56 hB (As := [.int x_2, .int 0, .int 99]) (c_X12_isIn l D tys base G x_2 i_x_2 0 (q_0.wk (by decide)) 99 (q_99.wk (by decide))) ⟨rfl, rfl⟩ ⟨Nat.le_of_ble_eq_true rfl, Nat.le_of_ble_eq_true rfl⟩ ⟨Nat.le_of_ble_eq_true rfl, Nat.le_of_ble_eq_true rfl⟩ rfl rfl hl.1 (Nat.le_of_ble_eq_true rfl) dX12_canSet_77 (fun x20 G9 H locs hq hB => ?_)
      obtain ⟨rfl, i_x20, hp21⟩ := hq
      have k22 : ¬ x20 = 0 → iv_R 0 99 x_2 := fun h => ⟨iv_max i_x_2.1 (Int.le_trans q_0.1 (hp21.1 h).1) (by decide), iv_min i_x_2.2 (Int.le_trans (hp21.1 h).2 q_99.2) (by decide)⟩
      refine lv_if_eq (tgt := 87) hx hb dX12_canSet_80 (by decide) (fun c23 => ?_) (fun c23 => ?_)
      · skip
        have i23_x20 : iv_R 0 0 x20 := (i_x20.cutHi (n := 0) (iv_eq_r c23 q_0).2)
        refine lv_iconst (v := 0) hx hb dX12_canSet_87 (by decide) ?_
        exact iv_zret X hr hlocks hB (q_0.wk (by decide)) ⟨rfl, (q_0.wk (by decide)), ⟨fun _ => (w13i.wk (by decide)), fun h => absurd (iv_z q_0) h⟩, fun h _ => absurd (iv_z q_0) h, fun h _ => absurd (iv_z q_0) h, (fun n hn => ⟨fun h => absurd rfl h, fun h => by have w1 := i_x_0.1; have w2 := i_x_0.2; have w3 := i_x_2.1; have w4 := i_x_2.2; have w5 := mt Int32.toInt_inj.mp c16; have w6 := (ex_x14 n hn).mp c16; have w7 := i17_x14.1; have w8 := i17_x14.2; have w9 := i18_x_1.1; have w10 := i18_x_1.2; have w11 := congrArg Int32.toInt c23; have w12 := hp21.2 c23; have w13 := i23_x20.1; have w14 := i23_x20.2; have e0 : (0 : Int32).toInt = 0 := rfl; have e1 : (1 : Int32).toInt = 1 := rfl; have e9 : (9 : Int32).toInt = 9 := rfl; have e12 : (12 : Int32).toInt = 12 := rfl; have e99 : (99 : Int32).toInt = 99 := rfl; have e1000 : (1000 : Int32).toInt = 1000 := rfl; omega⟩)⟩ dX12_canSet_88
      · skip
        have i24_x20 : iv_R 1 1 x20 := iv_ne_lo c23 i_x20 q_0 (by decide)
        have i25_x_2 : iv_R 0 99 x_2 := ((i_x_2.cutLo (n := 0) (k22 c23).1).cutHi (n := 99) (k22 c23).2)
        refine lv_iconst (v := 1) hx hb dX12_canSet_83 (by decide) ?_
        refine lv_goto (tgt := 88) hx hb dX12_canSet_84 (by decide) ?_
        exact iv_zret X hr hlocks hB (q_1.wk (by decide)) ⟨rfl, (q_1.wk (by decide)), ⟨fun _ => (w13i.wk (by decide)), fun _ => (i25_x_2.wk (by decide))⟩, fun _ _ => i18_x_1, fun _ h => absurd (Int.le_trans h w13i.2) (by decide), (fun n hn => ⟨fun _ => by have w1 := i_x_0.1; have w2 := i_x_0.2; have w3 := mt Int32.toInt_inj.mp c16; have w4 := (ex_x14 n hn).mp c16; have w5 := i17_x14.1; have w6 := i17_x14.2; have w7 := i18_x_1.1; have w8 := i18_x_1.2; have w9 := mt Int32.toInt_inj.mp c23; have w10 := hp21.1 c23; have w11 := i24_x20.1; have w12 := i24_x20.2; have w13 := i25_x_2.1; have w14 := i25_x_2.2; have e0 : (0 : Int32).toInt = 0 := rfl; have e1 : (1 : Int32).toInt = 1 := rfl; have e9 : (9 : Int32).toInt = 9 := rfl; have e12 : (12 : Int32).toInt = 12 := rfl; have e99 : (99 : Int32).toInt = 99 := rfl; have e1000 : (1000 : Int32).toInt = 1000 := rfl; omega, fun _ => by decide⟩)⟩ dX12_canSet_88
  skip
  by_cases w27 : x_0.toInt = 4
  · skip
    refine lv_tableIn (tgt := 89) hx hb dX12_canSet_1 (by omega) (by omega) (by rw [w27]; rfl) (by decide) ?_
    have w27i : iv_R 4 4 x_0 := iv_lit w27
    refine lv_aload_n hx hb dX12_canSet_89 rfl (lv_at hl 0 rfl) ?_
    refine lv_iload_n hx hb dX12_canSet_90 rfl (lv_at hl 2 rfl) ?_
    refine iv_cVi X k_good k_mf_X12_isBell k_im_X12_isBell k_sel_X12_isBell k_ml_X12_76 ft_X12 hB a_h0 sh_12 (As := [.int x_1]) (e_X12_isBell l D tys base G h0 g_h0 r_h0 a_h0 x_1 i_x_1) ⟨rfl, rfl⟩ ⟨Nat.le_of_ble_eq_true rfl, Nat.le_of_ble_eq_true rfl⟩ ⟨Nat.le_of_ble_eq_true rfl, Nat.le_of_ble_eq_true rfl⟩ rfl rfl hl.1 (Nat.le_of_ble_eq_true rfl) dX12_canSet_91 (fun x28 G9 H locs hq hB => ?_)
    obtain ⟨rfl, i_x28, hp29, ex_x28⟩ := hq
    refine lv_if_eq (tgt := 110) hx hb dX12_canSet_94 (by decide) (fun c30 => ?_) (fun c30 => ?_)
    · skip
      have i30_x28 : iv_R 0 0 x28 := (i_x28.cutHi (n := 0) (iv_eq_r c30 q_0).2)
      refine lv_iconst (v := 0) hx hb dX12_canSet_110 (by decide) ?_
      exact iv_zret X hr hlocks hB (q_0.wk (by decide)) ⟨rfl, (q_0.wk (by decide)), ⟨fun _ => (w27i.wk (by decide)), fun h => absurd (iv_z q_0) h⟩, fun h _ => absurd (iv_z q_0) h, fun h _ => absurd (iv_z q_0) h, (fun n hn => ⟨fun h => absurd rfl h, fun h => by have w1 := i_x_0.1; have w2 := i_x_0.2; have w3 := congrArg Int32.toInt c30; have w4 := (mt (ex_x28 n hn).mpr (fun q => q c30)); have w5 := i30_x28.1; have w6 := i30_x28.2; have e0 : (0 : Int32).toInt = 0 := rfl; have e1 : (1 : Int32).toInt = 1 := rfl; have e9 : (9 : Int32).toInt = 9 := rfl; have e12 : (12 : Int32).toInt = 12 := rfl; have e99 : (99 : Int32).toInt = 99 := rfl; have e1000 : (1000 : Int32).toInt = 1000 := rfl; omega⟩)⟩ dX12_canSet_111
    · skip
      have i31_x28 : iv_R 1 1 x28 := iv_ne_lo c30 i_x28 q_0 (by decide)
      have i32_x_1 : iv_R 0 9 x_1 := ((i_x_1.cutLo (n := 0) (hp29 c30).1).cutHi (n := 9) (hp29 c30).2)
      refine lv_iload_n hx hb dX12_canSet_97 rfl (lv_at hl 3 rfl) ?_
      refine lv_iconst (v := 0) hx hb dX12_canSet_98 (by decide) ?_
      refine lv_iconst (v := 1) hx hb dX12_canSet_99 (by decide) ?_
      refine iv_cSi X k_good k_mf_X12_isIn k_st_X12_isIn k_ml_X12_56 hB (As := [.int x_2, .int 0, .int 1]) (c_X12_isIn l D tys base G x_2 i_x_2 0 (q_0.wk (by decide)) 1 (q_1.wk (by decide))) ⟨rfl, rfl⟩ ⟨Nat.le_of_ble_eq_true rfl, Nat.le_of_ble_eq_true rfl⟩ ⟨Nat.le_of_ble_eq_true rfl, Nat.le_of_ble_eq_true rfl⟩ rfl rfl hl.1 (Nat.le_of_ble_eq_true rfl) dX12_canSet_100 (fun x34 G9 H locs hq hB => ?_)
      obtain ⟨rfl, i_x34, hp35⟩ := hq
      have k36 : ¬ x34 = 0 → iv_R 0 1 x_2 := fun h => ⟨iv_max i_x_2.1 (Int.le_trans q_0.1 (hp35.1 h).1) (by decide), iv_min i_x_2.2 (Int.le_trans (hp35.1 h).2 q_1.2) (by decide)⟩
      refine lv_if_eq (tgt := 110) hx hb dX12_canSet_103 (by decide) (fun c37 => ?_) (fun c37 => ?_)
      · skip
        have i37_x34 : iv_R 0 0 x34 := (i_x34.cutHi (n := 0) (iv_eq_r c37 q_0).2)
        refine lv_iconst (v := 0) hx hb dX12_canSet_110 (by decide) ?_
        exact iv_zret X hr hlocks hB (q_0.wk (by decide)) ⟨rfl, (q_0.wk (by decide)), ⟨fun _ => (w27i.wk (by decide)), fun h => absurd (iv_z q_0) h⟩, fun h _ => absurd (iv_z q_0) h, fun h _ => absurd (iv_z q_0) h, (fun n hn => ⟨fun h => absurd rfl h, fun h => by have w1 := i_x_0.1; have w2 := i_x_0.2; have w3 := mt Int32.toInt_inj.mp c30; have w4 := (ex_x28 n hn).mp c30; have w5 := i31_x28.1; have w6 := i31_x28.2; have w7 := i32_x_1.1; have w8 := i32_x_1.2; have w9 := congrArg Int32.toInt c37; have w10 := hp35.2 c37; have w11 := i37_x34.1; have w12 := i37_x34.2; have e0 : (0 : Int32).toInt = 0 := rfl; have e1 : (1 : Int32).toInt = 1 := rfl; have e9 : (9 : Int32).toInt = 9 := rfl; have e12 : (12 : Int32).toInt = 12 := rfl; have e99 : (99 : Int32).toInt = 99 := rfl; have e1000 : (1000 : Int32).toInt = 1000 := rfl; omega⟩)⟩ dX12_canSet_111
      · skip
        have i38_x34 : iv_R 1 1 x34 := iv_ne_lo c37 i_x34 q_0 (by decide)
        have i39_x_2 : iv_R 0 1 x_2 := ((i_x_2.cutLo (n := 0) (k36 c37).1).cutHi (n := 1) (k36 c37).2)
        refine lv_iconst (v := 1) hx hb dX12_canSet_106 (by decide) ?_
        refine lv_goto (tgt := 111) hx hb dX12_canSet_107 (by decide) ?_
        exact iv_zret X hr hlocks hB (q_1.wk (by decide)) ⟨rfl, (q_1.wk (by decide)), ⟨fun _ => (w27i.wk (by decide)), fun _ => (i39_x_2.wk (by decide))⟩, fun _ _ => i32_x_1, fun _ h => absurd (Int.le_trans h w27i.2) (by decide), (fun n hn => ⟨fun _ => by have w1 := i_x_0.1; have w2 := i_x_0.2; have w3 := mt Int32.toInt_inj.mp c30; have w4 := (ex_x28 n hn).mp c30; have w5 := i31_x28.1; have w6 := i31_x28.2; have w7 := i32_x_1.1; have w8 := i32_x_1.2; have w9 := mt Int32.toInt_inj.mp c37; have w10 := hp35.1 c37; have w11 := i38_x34.1; have w12 := i38_x34.2; have w13 := i39_x_2.1; have w14 := i39_x_2.2; have e0 : (0 : Int32).toInt = 0 := rfl; have e1 : (1 : Int32).toInt = 1 := rfl; have e9 : (9 : Int32).toInt = 9 := rfl; have e12 : (12 : Int32).toInt = 12 := rfl; have e99 : (99 : Int32).toInt = 99 := rfl; have e1000 : (1000 : Int32).toInt = 1000 := rfl; omega, fun _ => by decide⟩)⟩ dX12_canSet_111
  skip
  by_cases w41 : x_0.toInt = 5
  · skip
    refine lv_tableIn (tgt := 112) hx hb dX12_canSet_1 (by omega) (by omega) (by rw [w41]; rfl) (by decide) ?_
    have w41i : iv_R 5 5 x_0 := iv_lit w41
    refine lv_aload_n hx hb dX12_canSet_112 rfl (lv_at hl 0 rfl) ?_
    refine lv_iload_n hx hb dX12_canSet_113 rfl (lv_at hl 2 rfl) ?_
    refine iv_cVi X k_good k_mf_X12_isBell k_im_X12_isBell k_sel_X12_isBell k_ml_X12_76 ft_X12 hB a_h0 sh_12 (As := [.int x_1]) (e_X12_isBell l D tys base G h0 g_h0 r_h0 a_h0 x_1 i_x_1) ⟨rfl, rfl⟩ ⟨Nat.le_of_ble_eq_true rfl, Nat.le_of_ble_eq_true rfl⟩ ⟨Nat.le_of_ble_eq_true rfl, Nat.le_of_ble_eq_true rfl⟩ rfl rfl hl.1 (Nat.le_of_ble_eq_true rfl) dX12_canSet_114 (fun x42 G9 H locs hq hB => ?_)
    obtain ⟨rfl, i_x42, hp43, ex_x42⟩ := hq
    refine lv_if_eq (tgt := 134) hx hb dX12_canSet_117 (by decide) (fun c44 => ?_) (fun c44 => ?_)
    · skip
      have i44_x42 : iv_R 0 0 x42 := (i_x42.cutHi (n := 0) (iv_eq_r c44 q_0).2)
      refine lv_iconst (v := 0) hx hb dX12_canSet_134 (by decide) ?_
      exact iv_zret X hr hlocks hB (q_0.wk (by decide)) ⟨rfl, (q_0.wk (by decide)), ⟨fun _ => (w41i.wk (by decide)), fun h => absurd (iv_z q_0) h⟩, fun h _ => absurd (iv_z q_0) h, fun h _ => absurd (iv_z q_0) h, (fun n hn => ⟨fun h => absurd rfl h, fun h => by have w1 := i_x_0.1; have w2 := i_x_0.2; have w3 := congrArg Int32.toInt c44; have w4 := (mt (ex_x42 n hn).mpr (fun q => q c44)); have w5 := i44_x42.1; have w6 := i44_x42.2; have e0 : (0 : Int32).toInt = 0 := rfl; have e1 : (1 : Int32).toInt = 1 := rfl; have e9 : (9 : Int32).toInt = 9 := rfl; have e12 : (12 : Int32).toInt = 12 := rfl; have e99 : (99 : Int32).toInt = 99 := rfl; have e1000 : (1000 : Int32).toInt = 1000 := rfl; omega⟩)⟩ dX12_canSet_135
    · skip
      have i45_x42 : iv_R 1 1 x42 := iv_ne_lo c44 i_x42 q_0 (by decide)
      have i46_x_1 : iv_R 0 9 x_1 := ((i_x_1.cutLo (n := 0) (hp43 c44).1).cutHi (n := 9) (hp43 c44).2)
      refine lv_iload_n hx hb dX12_canSet_120 rfl (lv_at hl 3 rfl) ?_
      refine lv_iconst (v := 0) hx hb dX12_canSet_121 (by decide) ?_
      refine lv_bipush (v := 47) hx hb dX12_canSet_122 (by decide) ?_
      refine iv_cSi X k_good k_mf_X12_isIn k_st_X12_isIn k_ml_X12_56 hB (As := [.int x_2, .int 0, .int 47]) (c_X12_isIn l D tys base G x_2 i_x_2 0 (q_0.wk (by decide)) 47 (q_47.wk (by decide))) ⟨rfl, rfl⟩ ⟨Nat.le_of_ble_eq_true rfl, Nat.le_of_ble_eq_true rfl⟩ ⟨Nat.le_of_ble_eq_true rfl, Nat.le_of_ble_eq_true rfl⟩ rfl rfl hl.1 (Nat.le_of_ble_eq_true rfl) dX12_canSet_124 (fun x48 G9 H locs hq hB => ?_)
      obtain ⟨rfl, i_x48, hp49⟩ := hq
      have k50 : ¬ x48 = 0 → iv_R 0 47 x_2 := fun h => ⟨iv_max i_x_2.1 (Int.le_trans q_0.1 (hp49.1 h).1) (by decide), iv_min i_x_2.2 (Int.le_trans (hp49.1 h).2 q_47.2) (by decide)⟩
      refine lv_if_eq (tgt := 134) hx hb dX12_canSet_127 (by decide) (fun c51 => ?_) (fun c51 => ?_)
      · skip
        have i51_x48 : iv_R 0 0 x48 := (i_x48.cutHi (n := 0) (iv_eq_r c51 q_0).2)
        refine lv_iconst (v := 0) hx hb dX12_canSet_134 (by decide) ?_
        exact iv_zret X hr hlocks hB (q_0.wk (by decide)) ⟨rfl, (q_0.wk (by decide)), ⟨fun _ => (w41i.wk (by decide)), fun h => absurd (iv_z q_0) h⟩, fun h _ => absurd (iv_z q_0) h, fun h _ => absurd (iv_z q_0) h, (fun n hn => ⟨fun h => absurd rfl h, fun h => by have w1 := i_x_0.1; have w2 := i_x_0.2; have w3 := mt Int32.toInt_inj.mp c44; have w4 := (ex_x42 n hn).mp c44; have w5 := i45_x42.1; have w6 := i45_x42.2; have w7 := i46_x_1.1; have w8 := i46_x_1.2; have w9 := congrArg Int32.toInt c51; have w10 := hp49.2 c51; have w11 := i51_x48.1; have w12 := i51_x48.2; have e0 : (0 : Int32).toInt = 0 := rfl; have e1 : (1 : Int32).toInt = 1 := rfl; have e9 : (9 : Int32).toInt = 9 := rfl; have e12 : (12 : Int32).toInt = 12 := rfl; have e47 : (47 : Int32).toInt = 47 := rfl; have e99 : (99 : Int32).toInt = 99 := rfl; have e1000 : (1000 : Int32).toInt = 1000 := rfl; omega⟩)⟩ dX12_canSet_135
      · skip
        have i52_x48 : iv_R 1 1 x48 := iv_ne_lo c51 i_x48 q_0 (by decide)
        have i53_x_2 : iv_R 0 47 x_2 := ((i_x_2.cutLo (n := 0) (k50 c51).1).cutHi (n := 47) (k50 c51).2)
        refine lv_iconst (v := 1) hx hb dX12_canSet_130 (by decide) ?_
        refine lv_goto (tgt := 135) hx hb dX12_canSet_131 (by decide) ?_
        exact iv_zret X hr hlocks hB (q_1.wk (by decide)) ⟨rfl, (q_1.wk (by decide)), ⟨fun _ => (w41i.wk (by decide)), fun _ => (i53_x_2.wk (by decide))⟩, fun _ _ => i46_x_1, fun _ _ => i53_x_2, (fun n hn => ⟨fun _ => by have w1 := i_x_0.1; have w2 := i_x_0.2; have w3 := mt Int32.toInt_inj.mp c44; have w4 := (ex_x42 n hn).mp c44; have w5 := i45_x42.1; have w6 := i45_x42.2; have w7 := i46_x_1.1; have w8 := i46_x_1.2; have w9 := mt Int32.toInt_inj.mp c51; have w10 := hp49.1 c51; have w11 := i52_x48.1; have w12 := i52_x48.2; have w13 := i53_x_2.1; have w14 := i53_x_2.2; have e0 : (0 : Int32).toInt = 0 := rfl; have e1 : (1 : Int32).toInt = 1 := rfl; have e9 : (9 : Int32).toInt = 9 := rfl; have e12 : (12 : Int32).toInt = 12 := rfl; have e47 : (47 : Int32).toInt = 47 := rfl; have e99 : (99 : Int32).toInt = 99 := rfl; have e1000 : (1000 : Int32).toInt = 1000 := rfl; omega, fun _ => by decide⟩)⟩ dX12_canSet_135
  skip
  refine lv_tableOut (tgt := 136) hx hb dX12_canSet_1 (by have := i_x_0.1; have := i_x_0.2; omega) (by decide) ?_
  refine lv_iconst (v := 0) hx hb dX12_canSet_136 (by decide) ?_
  exact iv_zret X hr hlocks hB (q_0.wk (by decide)) ⟨rfl, (q_0.wk (by decide)), ⟨fun h => absurd (iv_z q_0) h, fun h => absurd (iv_z q_0) h⟩, fun h _ => absurd (iv_z q_0) h, fun h _ => absurd (iv_z q_0) h, (fun n hn => ⟨fun h => absurd rfl h, fun h => by have w1 := i_x_0.1; have w2 := i_x_0.2; have e0 : (0 : Int32).toInt = 0 := rfl; have e1 : (1 : Int32).toInt = 1 := rfl; have e9 : (9 : Int32).toInt = 9 := rfl; have e12 : (12 : Int32).toInt = 12 := rfl; have e47 : (47 : Int32).toInt = 47 := rfl; have e99 : (99 : Int32).toInt = 99 := rfl; have e1000 : (1000 : Int32).toInt = 1000 := rfl; omega⟩)⟩ dX12_canSet_137
set_option maxHeartbeats 4000000 in
set_option maxRecDepth 100000 in
theorem e_X12_set (l : Launch) (D : va_G) (tys : List (ClassId × FieldType)) (base : Nat) (G : iv_G) (h0 : Nat) (g_h0 : Nat → Int32) (r_h0 : Nat → Nat) (a_h0 : G h0 = some (12, g_h0, r_h0)) (x_0 : Int32) (i_x_0 : iv_R (-2147483648) 2147483647 x_0) (x_1 : Int32) (i_x_1 : iv_R (-2147483648) 2147483647 x_1) (x_2 : Int32) (i_x_2 : iv_R (-2147483648) 2147483647 x_2) : Met l yX12_set (Cond.code yX12_set cX12_set 4 (some .boolean) :: iv_W0) ({ frames := 3, cells := 0, slots := 0, locals := 66 }) (iv_Pc iv_sh D classes tys base G [.ref h0, .int x_0, .int x_1, .int x_2]) (iv_Qi iv_sh D classes tys base (fun v G' => iv_MdO [12, 60] G G' ∧ iv_R 0 1 v ∧ ((¬ v = 0 → iv_R 0 5 x_0) ∧ (¬ v = 0 → iv_R 0 1000 x_2)) ∧ hs_W v x_0 x_1 x_2 h0 (r_h0 0) G G' ∧ iv_kc 12 15 h0 (g_h0 15) G' ∧ (∀ n : Int32, iv_kc 60 146 (r_h0 0) n G → (¬ v = 0 ↔ (x_0.toInt = 0 ∧ 0 ≤ x_2.toInt ∧ x_2.toInt ≤ 12) ∨ (x_0.toInt = 1 ∧ 0 ≤ x_2.toInt ∧ x_2.toInt ≤ 9) ∨ (x_0.toInt = 2 ∧ 0 ≤ x_2.toInt ∧ x_2.toInt ≤ 1000) ∨ ((0 ≤ x_1.toInt ∧ x_1.toInt < n.toInt) ∧ ((x_0.toInt = 3 ∧ 0 ≤ x_2.toInt ∧ x_2.toInt ≤ 99) ∨ (x_0.toInt = 4 ∧ 0 ≤ x_2.toInt ∧ x_2.toInt ≤ 1) ∨ (x_0.toInt = 5 ∧ 0 ≤ x_2.toInt ∧ x_2.toInt ≤ 47))))))) 0 0 (iv_A base) := by
  refine iv_head (by decide) (Nat.le_of_ble_eq_true rfl) ?_
  intro p e s m args below meth c ls X hr hlocks hname hB hl
  have X := X
  have hx := X.1.1
  have hb := X.1.2.1
  have hM : iv_MdO [12, 60] G G := iv_MdO.rf
  have hQ : iv_kq iv_no G G := iv_kq.rf
  have hT : iv_kc 12 15 h0 (g_h0 15) G := ⟨_, _, a_h0, rfl⟩
  have hl : lv_has ls 4 [(0, .ref h0), (1, .int x_0), (2, .int x_1), (3, .int x_2)] := hl
  refine lv_aload_n hx hb dX12_set_0 rfl (lv_at hl 0 rfl) ?_
  refine lv_iload_n hx hb dX12_set_1 rfl (lv_at hl 1 rfl) ?_
  refine lv_iload_n hx hb dX12_set_2 rfl (lv_at hl 2 rfl) ?_
  refine lv_iload_n hx hb dX12_set_3 rfl (lv_at hl 3 rfl) ?_
  refine iv_cVi X k_good k_mf_X12_canSet k_im_X12_canSet k_sel_X12_canSet k_ml_X12_79 ft_X12 hB a_h0 sh_12 (As := [.int x_0, .int x_1, .int x_2]) (e_X12_canSet l D tys base G h0 g_h0 r_h0 a_h0 x_0 i_x_0 x_1 i_x_1 x_2 i_x_2) ⟨rfl, rfl⟩ ⟨Nat.le_of_ble_eq_true rfl, Nat.le_of_ble_eq_true rfl⟩ ⟨Nat.le_of_ble_eq_true rfl, Nat.le_of_ble_eq_true rfl⟩ rfl rfl hl.1 (Nat.le_of_ble_eq_true rfl) dX12_set_4 (fun x1 G9 H locs hq hB => ?_)
  obtain ⟨rfl, i_x1, hp2, ip3, ip4, ex_x1⟩ := hq
  refine lv_if_ne (tgt := 12) hx hb dX12_set_7 (by decide) (fun c5 => ?_) (fun c5 => ?_)
  · skip
    have i5_x1 : iv_R 1 1 x1 := iv_ne_lo c5 i_x1 q_0 (by decide)
    have i6_x_0 : iv_R 0 5 x_0 := ((i_x_0.cutLo (n := 0) (hp2.1 c5).1).cutHi (n := 5) (hp2.1 c5).2)
    have i7_x_2 : iv_R 0 1000 x_2 := ((i_x_2.cutLo (n := 0) (hp2.2 c5).1).cutHi (n := 1000) (hp2.2 c5).2)
    refine lv_iload_n hx hb dX12_set_12 rfl (lv_at hl 1 rfl) ?_
    refine lv_iconst (v := 3) hx hb dX12_set_13 (by decide) ?_
    refine lv_icmp_ge (tgt := 48) hx hb dX12_set_14 (by decide) (fun c9 => ?_) (fun c9 => ?_)
    · skip
      have i9_x_0 : iv_R 3 5 x_0 := (i6_x_0.cutLo (n := 3) (iv_le_l c9 q_3))
      have i10_x_1 : iv_R 0 9 x_1 := ((i_x_1.cutLo (n := 0) ((ip3 c5) (Int.le_trans (by decide) i9_x_0.1)).1).cutHi (n := 9) ((ip3 c5) (Int.le_trans (by decide) i9_x_0.1)).2)
      refine lv_aload_n hx hb dX12_set_48 rfl (lv_at hl 0 rfl) ?_
      refine lv_iload_n hx hb dX12_set_49 rfl (lv_at hl 2 rfl) ?_
      refine lv_iload_n hx hb dX12_set_50 rfl (lv_at hl 1 rfl) ?_
      refine lv_iconst (v := 3) hx hb dX12_set_51 (by decide) ?_
      refine lv_icmp_ne (tgt := 59) hx hb dX12_set_52 (by decide) (fun c12 => ?_) (fun c12 => ?_)
      · skip
        have i12_x_0 : iv_R 4 5 x_0 := iv_ne_lo c12 i9_x_0 q_3 (by decide)
        refine lv_iload_n hx hb dX12_set_59 rfl (lv_at hl 1 rfl) ?_
        refine lv_iconst (v := 4) hx hb dX12_set_60 (by decide) ?_
        refine lv_icmp_ne (tgt := 68) hx hb dX12_set_61 (by decide) (fun c14 => ?_) (fun c14 => ?_)
        · skip
          have i14_x_0 : iv_R 5 5 x_0 := iv_ne_lo c14 i12_x_0 q_4 (by decide)
          have i15_x_2 : iv_R 0 47 x_2 := (i7_x_2.cutHi (n := 47) ((ip4 c5) (Int.le_trans (by decide) i14_x_0.1)).2)
          refine lv_iconst (v := 1) hx hb dX12_set_68 (by decide) ?_
          refine lv_iload_n hx hb dX12_set_69 rfl (lv_at hl 3 rfl) ?_
          refine iv_cVv X k_good k_mf_X12_bells k_im_X12_bells k_sel_X12_bells k_ml_X12_72 ft_X12 hB a_h0 sh_12 (As := [.int x_1, .int 1, .int x_2]) (x_X12_bells l D tys base G h0 g_h0 r_h0 a_h0 x_1 i10_x_1 1 (q_1.wk (by decide)) x_2 (i15_x_2.wk (by decide)) (fun h => absurd h (by decide)) (fun _ => i15_x_2)) ⟨rfl, rfl⟩ ⟨Nat.le_of_ble_eq_true rfl, Nat.le_of_ble_eq_true rfl⟩ ⟨Nat.le_of_ble_eq_true rfl, Nat.le_of_ble_eq_true rfl⟩ rfl rfl hl.1 (Nat.le_of_ble_eq_true rfl) dX12_set_70 (fun G9 H locs hq hB => ?_)
          have hw1 := i10_x_1.1
          have hw2 := i10_x_1.2
          have hj9 : 66 + 8 * x_1.toInt.toNat + (1 : Int32).toInt.toNat = 67 + 8 * x_1.toInt.toNat := by have e1 : (1 : Int32).toInt.toNat = 1 := rfl; omega
          have hq8 := hq.2.1
          have hv8 := hj9 ▸ hq.2.2
          have hm := hq.1
          obtain ⟨G17, hG9⟩ : ∃ g, g = G9 := ⟨_, rfl⟩
          rw [← hG9] at hm hB hq8 hv8
          have hM := hM.stp hm (by decide)
          have hQ : iv_kq (fun c j a => c = 60 ∧ j = 67 + 8 * x_1.toInt.toNat ∧ a = r_h0 0) _ _ := (hQ.sub (fun c j a q => by first | exact False.elim q | exact q)).tr (hq8.sub (fun c j a q => ⟨q.1, q.2.2.trans hj9, q.2.1⟩))
          have hV1 := hv8
          have hT := hT.at hm (by decide)
          have a_h0 := hm.at a_h0 (by decide)
          refine lv_aload_n hx hb dX12_set_73 rfl (lv_at hl 0 rfl) ?_
          refine iv_cVv X k_good k_mf_X12_forgets k_im_X12_forgets k_sel_X12_forgets k_ml_X12_63 ft_X12 hB a_h0 sh_12 (As := []) (e_X12_forgets l D tys base G17 h0 g_h0 r_h0 a_h0) ⟨rfl, rfl⟩ ⟨Nat.le_of_ble_eq_true rfl, Nat.le_of_ble_eq_true rfl⟩ ⟨Nat.le_of_ble_eq_true rfl, Nat.le_of_ble_eq_true rfl⟩ rfl rfl hl.1 (Nat.le_of_ble_eq_true rfl) dX12_set_74 (fun G9 H locs hq hB => ?_)
          have hz := hq.2
          have hm := hq.1
          obtain ⟨G18, hG9⟩ : ∃ g, g = G9 := ⟨_, rfl⟩
          rw [← hG9] at hm hB hz
          have hT := hT.M hm (by decide)
          have hM := hM.stp (iv_MdO.ofM hm) (by decide)
          have hQ := hQ.tr (iv_kq.T (iv_MdT.of hm))
          have hV1 := hV1.T (iv_MdT.of hm) (by first | decide | exact iv_pitk (by omega))
          obtain ⟨g19, r20, a_h0, f_g19⟩ := hm.ex a_h0
          refine lv_iconst (v := 1) hx hb dX12_set_77 (by decide) ?_
          exact iv_zret X hr hlocks hB (q_1.wk (by decide)) ⟨hM, (q_1.wk (by decide)), ⟨fun _ => (i14_x_0.wk (by decide)), fun _ => (i15_x_2.wk (by decide))⟩, (⟨fun _ h => absurd h (by have w1 := i14_x_0.1; have w2 := i14_x_0.2; omega), fun _ _ => ⟨hQ, hV1⟩, fun h => absurd h (fun u => by rcases u with u | u; exact absurd u (by decide); exact u.2 (by have w1 := i14_x_0.1; have w2 := i14_x_0.2; omega)), fun _ => hz⟩), hT, (fun n hn => ⟨fun _ => by have w1 := mt Int32.toInt_inj.mp c5; have w2 := (ex_x1 n hn).mp c5; have w3 := i5_x1.1; have w4 := i5_x1.2; have w5 := Int32.le_iff_toInt_le.mp c9; have w6 := i10_x_1.1; have w7 := i10_x_1.2; have w8 := mt Int32.toInt_inj.mp c12; have w9 := mt Int32.toInt_inj.mp c14; have w10 := i14_x_0.1; have w11 := i14_x_0.2; have w12 := i15_x_2.1; have w13 := i15_x_2.2; have e0 : (0 : Int32).toInt = 0 := rfl; have e1 : (1 : Int32).toInt = 1 := rfl; have e3 : (3 : Int32).toInt = 3 := rfl; have e4 : (4 : Int32).toInt = 4 := rfl; omega, fun _ => by decide⟩)⟩ dX12_set_78
        · skip
          have i20_x_0 : iv_R 4 4 x_0 := (i12_x_0.cutHi (n := 4) (iv_eq_r c14 q_4).2)
          refine lv_iconst (v := 4) hx hb dX12_set_64 (by decide) ?_
          refine lv_goto (tgt := 69) hx hb dX12_set_65 (by decide) ?_
          refine lv_iload_n hx hb dX12_set_69 rfl (lv_at hl 3 rfl) ?_
          refine iv_cVv X k_good k_mf_X12_bells k_im_X12_bells k_sel_X12_bells k_ml_X12_72 ft_X12 hB a_h0 sh_12 (As := [.int x_1, .int 4, .int x_2]) (c_X12_bells l D tys base G h0 g_h0 r_h0 a_h0 x_1 i10_x_1 4 (q_4.wk (by decide)) x_2 (i7_x_2.wk (by decide)) (fun h => absurd h (by decide)) (fun h => absurd h (by decide)) (by decide)) ⟨rfl, rfl⟩ ⟨Nat.le_of_ble_eq_true rfl, Nat.le_of_ble_eq_true rfl⟩ ⟨Nat.le_of_ble_eq_true rfl, Nat.le_of_ble_eq_true rfl⟩ rfl rfl hl.1 (Nat.le_of_ble_eq_true rfl) dX12_set_70 (fun G9 H locs hq hB => ?_)
          have hm := hq
          obtain ⟨G22, hG9⟩ : ∃ g, g = G9 := ⟨_, rfl⟩
          rw [← hG9] at hm hB
          have hT := hT.M hm (by decide)
          have hM := hM.stp (iv_MdO.ofM hm) (by decide)
          have hQ := hQ.tr (iv_kq.T (iv_MdT.of hm))
          have a_h0 := hm.at a_h0 (by decide)
          refine lv_aload_n hx hb dX12_set_73 rfl (lv_at hl 0 rfl) ?_
          refine iv_cVv X k_good k_mf_X12_forgets k_im_X12_forgets k_sel_X12_forgets k_ml_X12_63 ft_X12 hB a_h0 sh_12 (As := []) (e_X12_forgets l D tys base G22 h0 g_h0 r_h0 a_h0) ⟨rfl, rfl⟩ ⟨Nat.le_of_ble_eq_true rfl, Nat.le_of_ble_eq_true rfl⟩ ⟨Nat.le_of_ble_eq_true rfl, Nat.le_of_ble_eq_true rfl⟩ rfl rfl hl.1 (Nat.le_of_ble_eq_true rfl) dX12_set_74 (fun G9 H locs hq hB => ?_)
          have hz := hq.2
          have hm := hq.1
          obtain ⟨G23, hG9⟩ : ∃ g, g = G9 := ⟨_, rfl⟩
          rw [← hG9] at hm hB hz
          have hT := hT.M hm (by decide)
          have hM := hM.stp (iv_MdO.ofM hm) (by decide)
          have hQ := hQ.tr (iv_kq.T (iv_MdT.of hm))
          obtain ⟨g24, r25, a_h0, f_g24⟩ := hm.ex a_h0
          refine lv_iconst (v := 1) hx hb dX12_set_77 (by decide) ?_
          exact iv_zret X hr hlocks hB (q_1.wk (by decide)) ⟨hM, (q_1.wk (by decide)), ⟨fun _ => (i20_x_0.wk (by decide)), fun _ => i7_x_2⟩, (⟨fun _ h => absurd h (by have w1 := i20_x_0.1; have w2 := i20_x_0.2; omega), fun _ h => absurd h (by have w1 := i20_x_0.1; have w2 := i20_x_0.2; omega), fun _ => hQ, fun _ => hz⟩), hT, (fun n hn => ⟨fun _ => by have w1 := mt Int32.toInt_inj.mp c5; have w2 := (ex_x1 n hn).mp c5; have w3 := i5_x1.1; have w4 := i5_x1.2; have w5 := Int32.le_iff_toInt_le.mp c9; have w6 := i10_x_1.1; have w7 := i10_x_1.2; have w8 := mt Int32.toInt_inj.mp c12; have w9 := congrArg Int32.toInt c14; have w10 := i20_x_0.1; have w11 := i20_x_0.2; have e0 : (0 : Int32).toInt = 0 := rfl; have e1 : (1 : Int32).toInt = 1 := rfl; have e3 : (3 : Int32).toInt = 3 := rfl; have e4 : (4 : Int32).toInt = 4 := rfl; omega, fun _ => by decide⟩)⟩ dX12_set_78
      · skip
        have i25_x_0 : iv_R 3 3 x_0 := (i9_x_0.cutHi (n := 3) (iv_eq_r c12 q_3).2)
        refine lv_iconst (v := 3) hx hb dX12_set_55 (by decide) ?_
        refine lv_goto (tgt := 69) hx hb dX12_set_56 (by decide) ?_
        refine lv_iload_n hx hb dX12_set_69 rfl (lv_at hl 3 rfl) ?_
        refine iv_cVv X k_good k_mf_X12_bells k_im_X12_bells k_sel_X12_bells k_ml_X12_72 ft_X12 hB a_h0 sh_12 (As := [.int x_1, .int 3, .int x_2]) (c_X12_bells l D tys base G h0 g_h0 r_h0 a_h0 x_1 i10_x_1 3 (q_3.wk (by decide)) x_2 (i7_x_2.wk (by decide)) (fun h => absurd h (by decide)) (fun h => absurd h (by decide)) (by decide)) ⟨rfl, rfl⟩ ⟨Nat.le_of_ble_eq_true rfl, Nat.le_of_ble_eq_true rfl⟩ ⟨Nat.le_of_ble_eq_true rfl, Nat.le_of_ble_eq_true rfl⟩ rfl rfl hl.1 (Nat.le_of_ble_eq_true rfl) dX12_set_70 (fun G9 H locs hq hB => ?_)
        have hm := hq
        obtain ⟨G27, hG9⟩ : ∃ g, g = G9 := ⟨_, rfl⟩
        rw [← hG9] at hm hB
        have hT := hT.M hm (by decide)
        have hM := hM.stp (iv_MdO.ofM hm) (by decide)
        have hQ := hQ.tr (iv_kq.T (iv_MdT.of hm))
        have a_h0 := hm.at a_h0 (by decide)
        refine lv_aload_n hx hb dX12_set_73 rfl (lv_at hl 0 rfl) ?_
        refine iv_cVv X k_good k_mf_X12_forgets k_im_X12_forgets k_sel_X12_forgets k_ml_X12_63 ft_X12 hB a_h0 sh_12 (As := []) (e_X12_forgets l D tys base G27 h0 g_h0 r_h0 a_h0) ⟨rfl, rfl⟩ ⟨Nat.le_of_ble_eq_true rfl, Nat.le_of_ble_eq_true rfl⟩ ⟨Nat.le_of_ble_eq_true rfl, Nat.le_of_ble_eq_true rfl⟩ rfl rfl hl.1 (Nat.le_of_ble_eq_true rfl) dX12_set_74 (fun G9 H locs hq hB => ?_)
        have hz := hq.2
        have hm := hq.1
        obtain ⟨G28, hG9⟩ : ∃ g, g = G9 := ⟨_, rfl⟩
        rw [← hG9] at hm hB hz
        have hT := hT.M hm (by decide)
        have hM := hM.stp (iv_MdO.ofM hm) (by decide)
        have hQ := hQ.tr (iv_kq.T (iv_MdT.of hm))
        obtain ⟨g29, r30, a_h0, f_g29⟩ := hm.ex a_h0
        refine lv_iconst (v := 1) hx hb dX12_set_77 (by decide) ?_
        exact iv_zret X hr hlocks hB (q_1.wk (by decide)) ⟨hM, (q_1.wk (by decide)), ⟨fun _ => (i25_x_0.wk (by decide)), fun _ => i7_x_2⟩, (⟨fun _ h => absurd h (by have w1 := i25_x_0.1; have w2 := i25_x_0.2; omega), fun _ h => absurd h (by have w1 := i25_x_0.1; have w2 := i25_x_0.2; omega), fun _ => hQ, fun _ => hz⟩), hT, (fun n hn => ⟨fun _ => by have w1 := mt Int32.toInt_inj.mp c5; have w2 := (ex_x1 n hn).mp c5; have w3 := i5_x1.1; have w4 := i5_x1.2; have w5 := Int32.le_iff_toInt_le.mp c9; have w6 := i10_x_1.1; have w7 := i10_x_1.2; have w8 := congrArg Int32.toInt c12; have w9 := i25_x_0.1; have w10 := i25_x_0.2; have e0 : (0 : Int32).toInt = 0 := rfl; have e1 : (1 : Int32).toInt = 1 := rfl; have e3 : (3 : Int32).toInt = 3 := rfl; have e4 : (4 : Int32).toInt = 4 := rfl; omega, fun _ => by decide⟩)⟩ dX12_set_78
    · skip
      have i30_x_0 : iv_R 0 2 x_0 := (i6_x_0.cutHi (n := 2) (iv_lt_r (iv_nle c9) q_3 (by decide)))
      refine lv_aload_n hx hb dX12_set_17 rfl (lv_at hl 0 rfl) ?_
      refine iv_getr X ft_X12 hB a_h0 sh_12 0 (by decide) rfl k_fl_X12_7 dX12_set_18 (fun b32 g_b32 r_b32 e_b32 a_b32 => ?_)
      have e_b32o := e_b32
      refine lv_iload_n hx hb dX12_set_21 rfl (lv_at hl 1 rfl) ?_
      refine lv_if_ne (tgt := 31) hx hb dX12_set_22 (by decide) (fun c33 => ?_) (fun c33 => ?_)
      · skip
        have i33_x_0 : iv_R 1 2 x_0 := iv_ne_lo c33 i30_x_0 q_0 (by decide)
        refine lv_iload_n hx hb dX12_set_31 rfl (lv_at hl 1 rfl) ?_
        refine lv_iconst (v := 1) hx hb dX12_set_32 (by decide) ?_
        refine lv_icmp_ne (tgt := 40) hx hb dX12_set_33 (by decide) (fun c35 => ?_) (fun c35 => ?_)
        · skip
          have i35_x_0 : iv_R 2 2 x_0 := iv_ne_lo c35 i33_x_0 q_1 (by decide)
          refine lv_sipush (v := 148) hx hb dX12_set_40 (by decide) ?_
          refine lv_iload_n hx hb dX12_set_43 rfl (lv_at hl 3 rfl) ?_
          refine iv_wast_c X hB a_b32 q_148 (by decide) (lo := (-2147483648)) (hi' := 2147483647) (by decide) (i7_x_2.wk (by decide)) dX12_set_44 (fun H locs hB => ?_)
          have hB : iv_B iv_sh D classes tys base (iv_up G b32 (60, upd g_b32 148 x_2, r_b32)) s.heap H locs := hB
          have hm := iv_Md.put (x := x_2) a_b32 (j := 148) (by decide) ⟨fun h => absurd h (by decide), fun h => absurd h (by decide)⟩
          have h9 := iv_up_eq (G := G) (a := b32) (k := (60, upd g_b32 148 x_2, r_b32))
          generalize iv_up G b32 _ = G37 at hB hm h9
          have hT := hT.M hm (by decide)
          have hM := hM.stp (iv_MdO.ofM hm) (by decide)
          have hQ := hQ.tr (iv_kq.T (iv_MdT.of hm))
          generalize hgn_g38 : upd g_b32 _ _ = g38 at h9
          have a_h0 := hm.at a_h0 (by decide)
          have a_b32 := h9
          have e39 : x_2 = g38 148 := by rw [← hgn_g38]; simp [upd]
          refine lv_goto (tgt := 73) hx hb dX12_set_45 (by decide) ?_
          refine lv_aload_n hx hb dX12_set_73 rfl (lv_at hl 0 rfl) ?_
          refine iv_cVv X k_good k_mf_X12_forgets k_im_X12_forgets k_sel_X12_forgets k_ml_X12_63 ft_X12 hB a_h0 sh_12 (As := []) (e_X12_forgets l D tys base G37 h0 g_h0 r_h0 a_h0) ⟨rfl, rfl⟩ ⟨Nat.le_of_ble_eq_true rfl, Nat.le_of_ble_eq_true rfl⟩ ⟨Nat.le_of_ble_eq_true rfl, Nat.le_of_ble_eq_true rfl⟩ rfl rfl hl.1 (Nat.le_of_ble_eq_true rfl) dX12_set_74 (fun G9 H locs hq hB => ?_)
          have hz := hq.2
          have hm := hq.1
          obtain ⟨G40, hG9⟩ : ∃ g, g = G9 := ⟨_, rfl⟩
          rw [← hG9] at hm hB hz
          have hT := hT.M hm (by decide)
          have hM := hM.stp (iv_MdO.ofM hm) (by decide)
          have hQ := hQ.tr (iv_kq.T (iv_MdT.of hm))
          obtain ⟨g41, r42, a_h0, f_g41⟩ := hm.ex a_h0
          have e43 : b32 = r42 0 := e_b32.trans (f_g41.1 0 (fun h => absurd (show (12 : Nat) = 5 from h) (by decide))).symm
          have a_b32 := hm.at a_b32 (by decide)
          refine lv_iconst (v := 1) hx hb dX12_set_77 (by decide) ?_
          exact iv_zret X hr hlocks hB (q_1.wk (by decide)) ⟨hM, (q_1.wk (by decide)), ⟨fun _ => (i35_x_0.wk (by decide)), fun _ => i7_x_2⟩, (⟨fun _ h => absurd h (by have w1 := i35_x_0.1; have w2 := i35_x_0.2; omega), fun _ h => absurd h (by have w1 := i35_x_0.1; have w2 := i35_x_0.2; omega), fun _ => hQ, fun _ => hz⟩), hT, (fun n hn => ⟨fun _ => by have w1 := mt Int32.toInt_inj.mp c5; have w2 := (ex_x1 n hn).mp c5; have w3 := i5_x1.1; have w4 := i5_x1.2; have w5 := mt Int32.le_iff_toInt_le.mpr c9; have w6 := mt Int32.toInt_inj.mp c33; have w7 := mt Int32.toInt_inj.mp c35; have w8 := i35_x_0.1; have w9 := i35_x_0.2; have e0 : (0 : Int32).toInt = 0 := rfl; have e1 : (1 : Int32).toInt = 1 := rfl; have e3 : (3 : Int32).toInt = 3 := rfl; have e4 : (4 : Int32).toInt = 4 := rfl; have e148 : (148 : Int32).toInt = 148 := rfl; omega, fun _ => by decide⟩)⟩ dX12_set_78
        · skip
          have i43_x_0 : iv_R 1 1 x_0 := (i33_x_0.cutHi (n := 1) (iv_eq_r c35 q_1).2)
          refine lv_iconst (v := 1) hx hb dX12_set_36 (by decide) ?_
          refine lv_goto (tgt := 43) hx hb dX12_set_37 (by decide) ?_
          refine lv_iload_n hx hb dX12_set_43 rfl (lv_at hl 3 rfl) ?_
          refine iv_wast_c X hB a_b32 q_1 (by decide) (lo := (-2147483648)) (hi' := 2147483647) (by decide) (i7_x_2.wk (by decide)) dX12_set_44 (fun H locs hB => ?_)
          have hB : iv_B iv_sh D classes tys base (iv_up G b32 (60, upd g_b32 1 x_2, r_b32)) s.heap H locs := hB
          have hm := iv_Md.put (x := x_2) a_b32 (j := 1) (by decide) ⟨fun h => absurd h (by decide), fun h => absurd h (by decide)⟩
          have h9 := iv_up_eq (G := G) (a := b32) (k := (60, upd g_b32 1 x_2, r_b32))
          generalize iv_up G b32 _ = G45 at hB hm h9
          have hT := hT.M hm (by decide)
          have hM := hM.stp (iv_MdO.ofM hm) (by decide)
          have hQ := hQ.tr (iv_kq.T (iv_MdT.of hm))
          generalize hgn_g46 : upd g_b32 _ _ = g46 at h9
          have a_h0 := hm.at a_h0 (by decide)
          have a_b32 := h9
          have e47 : x_2 = g46 1 := by rw [← hgn_g46]; simp [upd]
          refine lv_goto (tgt := 73) hx hb dX12_set_45 (by decide) ?_
          refine lv_aload_n hx hb dX12_set_73 rfl (lv_at hl 0 rfl) ?_
          refine iv_cVv X k_good k_mf_X12_forgets k_im_X12_forgets k_sel_X12_forgets k_ml_X12_63 ft_X12 hB a_h0 sh_12 (As := []) (e_X12_forgets l D tys base G45 h0 g_h0 r_h0 a_h0) ⟨rfl, rfl⟩ ⟨Nat.le_of_ble_eq_true rfl, Nat.le_of_ble_eq_true rfl⟩ ⟨Nat.le_of_ble_eq_true rfl, Nat.le_of_ble_eq_true rfl⟩ rfl rfl hl.1 (Nat.le_of_ble_eq_true rfl) dX12_set_74 (fun G9 H locs hq hB => ?_)
          have hz := hq.2
          have hm := hq.1
          obtain ⟨G48, hG9⟩ : ∃ g, g = G9 := ⟨_, rfl⟩
          rw [← hG9] at hm hB hz
          have hT := hT.M hm (by decide)
          have hM := hM.stp (iv_MdO.ofM hm) (by decide)
          have hQ := hQ.tr (iv_kq.T (iv_MdT.of hm))
          obtain ⟨g49, r50, a_h0, f_g49⟩ := hm.ex a_h0
          have e51 : b32 = r50 0 := e_b32.trans (f_g49.1 0 (fun h => absurd (show (12 : Nat) = 5 from h) (by decide))).symm
          have a_b32 := hm.at a_b32 (by decide)
          refine lv_iconst (v := 1) hx hb dX12_set_77 (by decide) ?_
          exact iv_zret X hr hlocks hB (q_1.wk (by decide)) ⟨hM, (q_1.wk (by decide)), ⟨fun _ => (i43_x_0.wk (by decide)), fun _ => i7_x_2⟩, (⟨fun _ h => absurd h (by have w1 := i43_x_0.1; have w2 := i43_x_0.2; omega), fun _ h => absurd h (by have w1 := i43_x_0.1; have w2 := i43_x_0.2; omega), fun _ => hQ, fun _ => hz⟩), hT, (fun n hn => ⟨fun _ => by have w1 := mt Int32.toInt_inj.mp c5; have w2 := (ex_x1 n hn).mp c5; have w3 := i5_x1.1; have w4 := i5_x1.2; have w5 := mt Int32.le_iff_toInt_le.mpr c9; have w6 := mt Int32.toInt_inj.mp c33; have w7 := congrArg Int32.toInt c35; have w8 := i43_x_0.1; have w9 := i43_x_0.2; have e0 : (0 : Int32).toInt = 0 := rfl; have e1 : (1 : Int32).toInt = 1 := rfl; have e3 : (3 : Int32).toInt = 3 := rfl; have e4 : (4 : Int32).toInt = 4 := rfl; have e148 : (148 : Int32).toInt = 148 := rfl; omega, fun _ => by decide⟩)⟩ dX12_set_78
      · skip
        have i51_x_0 : iv_R 0 0 x_0 := (i30_x_0.cutHi (n := 0) (iv_eq_r c33 q_0).2)
        refine lv_sipush (v := 147) hx hb dX12_set_25 (by decide) ?_
        refine lv_goto (tgt := 43) hx hb dX12_set_28 (by decide) ?_
        refine lv_iload_n hx hb dX12_set_43 rfl (lv_at hl 3 rfl) ?_
        refine iv_wast_c X hB a_b32 q_147 (by decide) (lo := (-2147483648)) (hi' := 2147483647) (by decide) (i7_x_2.wk (by decide)) dX12_set_44 (fun H locs hB => ?_)
        have hB : iv_B iv_sh D classes tys base (iv_up G b32 (60, upd g_b32 147 x_2, r_b32)) s.heap H locs := hB
        have hm := iv_MdO.put (x := x_2) a_b32 (j := 147) List.not_mem_nil (fun h => absurd h (by decide))
        have h9 := iv_up_eq (G := G) (a := b32) (k := (60, upd g_b32 147 x_2, r_b32))
        have hq8 : iv_kq (fun c j a => c = 60 ∧ j = 147 ∧ a = b32) G (iv_up G b32 (60, upd g_b32 147 x_2, r_b32)) := iv_kq.put a_b32 ⟨rfl, rfl, rfl⟩
        have hv8 : iv_kc 60 (147) b32 x_2 (iv_up G b32 (60, upd g_b32 147 x_2, r_b32)) := iv_kc.up
        generalize iv_up G b32 _ = G53 at hB hm h9 hq8 hv8
        have hM := hM.stp hm (by decide)
        have hQ : iv_kq (fun c j a => c = 60 ∧ j = 147 ∧ a = r_h0 0) _ _ := (hQ.sub (fun c j a q => by first | exact False.elim q | exact q)).tr (hq8.sub (fun c j a q => by obtain ⟨rfl, rfl, rfl⟩ := q; exact ⟨rfl, rfl, e_b32⟩))
        have hV1 := hv8
        have hT := hT.at hm (by decide)
        generalize hgn_g54 : upd g_b32 _ _ = g54 at h9
        have a_h0 := hm.at a_h0 (by decide)
        have a_b32 := h9
        have e55 : x_2 = g54 147 := by rw [← hgn_g54]; simp [upd]
        refine lv_goto (tgt := 73) hx hb dX12_set_45 (by decide) ?_
        refine lv_aload_n hx hb dX12_set_73 rfl (lv_at hl 0 rfl) ?_
        refine iv_cVv X k_good k_mf_X12_forgets k_im_X12_forgets k_sel_X12_forgets k_ml_X12_63 ft_X12 hB a_h0 sh_12 (As := []) (e_X12_forgets l D tys base G53 h0 g_h0 r_h0 a_h0) ⟨rfl, rfl⟩ ⟨Nat.le_of_ble_eq_true rfl, Nat.le_of_ble_eq_true rfl⟩ ⟨Nat.le_of_ble_eq_true rfl, Nat.le_of_ble_eq_true rfl⟩ rfl rfl hl.1 (Nat.le_of_ble_eq_true rfl) dX12_set_74 (fun G9 H locs hq hB => ?_)
        have hz := hq.2
        have hm := hq.1
        obtain ⟨G56, hG9⟩ : ∃ g, g = G9 := ⟨_, rfl⟩
        rw [← hG9] at hm hB hz
        have hT := hT.M hm (by decide)
        have hM := hM.stp (iv_MdO.ofM hm) (by decide)
        have hQ := hQ.tr (iv_kq.T (iv_MdT.of hm))
        have hV1 := hV1.T (iv_MdT.of hm) (by first | decide | exact iv_pitk (by omega))
        obtain ⟨g57, r58, a_h0, f_g57⟩ := hm.ex a_h0
        have e59 : b32 = r58 0 := e_b32.trans (f_g57.1 0 (fun h => absurd (show (12 : Nat) = 5 from h) (by decide))).symm
        have a_b32 := hm.at a_b32 (by decide)
        refine lv_iconst (v := 1) hx hb dX12_set_77 (by decide) ?_
        exact iv_zret X hr hlocks hB (q_1.wk (by decide)) ⟨hM, (q_1.wk (by decide)), ⟨fun _ => (i51_x_0.wk (by decide)), fun _ => i7_x_2⟩, (⟨fun _ _ => ⟨hQ, e_b32o ▸ hV1⟩, fun _ h => absurd h (by have w1 := i51_x_0.1; have w2 := i51_x_0.2; omega), fun h => absurd h (fun u => by rcases u with u | u; exact absurd u (by decide); exact u.1 (by have w1 := i51_x_0.1; have w2 := i51_x_0.2; omega)), fun _ => hz⟩), hT, (fun n hn => ⟨fun _ => by have w1 := mt Int32.toInt_inj.mp c5; have w2 := (ex_x1 n hn).mp c5; have w3 := i5_x1.1; have w4 := i5_x1.2; have w5 := mt Int32.le_iff_toInt_le.mpr c9; have w6 := congrArg Int32.toInt c33; have w7 := i51_x_0.1; have w8 := i51_x_0.2; have e0 : (0 : Int32).toInt = 0 := rfl; have e1 : (1 : Int32).toInt = 1 := rfl; have e3 : (3 : Int32).toInt = 3 := rfl; have e4 : (4 : Int32).toInt = 4 := rfl; have e147 : (147 : Int32).toInt = 147 := rfl; have e148 : (148 : Int32).toInt = 148 := rfl; omega, fun _ => by decide⟩)⟩ dX12_set_78
  · skip
    have i59_x1 : iv_R 0 0 x1 := (i_x1.cutHi (n := 0) (iv_eq_r c5 q_0).2)
    refine lv_iconst (v := 0) hx hb dX12_set_10 (by decide) ?_
    exact iv_zret X hr hlocks hB (q_0.wk (by decide)) ⟨hM, (q_0.wk (by decide)), ⟨fun h => absurd (iv_z q_0) h, fun h => absurd (iv_z q_0) h⟩, (⟨fun h => absurd rfl h, fun h => absurd rfl h, fun _ => hQ, fun h => absurd rfl h⟩), hT, (fun n hn => ⟨fun h => absurd rfl h, fun h => by have w1 := congrArg Int32.toInt c5; have w2 := (mt (ex_x1 n hn).mpr (fun q => q c5)); have w3 := i59_x1.1; have w4 := i59_x1.2; have e0 : (0 : Int32).toInt = 0 := rfl; have e1 : (1 : Int32).toInt = 1 := rfl; have e3 : (3 : Int32).toInt = 3 := rfl; have e4 : (4 : Int32).toInt = 4 := rfl; have e147 : (147 : Int32).toInt = 147 := rfl; have e148 : (148 : Int32).toInt = 148 := rfl; omega⟩)⟩ dX12_set_11
