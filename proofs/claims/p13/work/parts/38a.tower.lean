set_option maxHeartbeats 4000000 in
set_option maxRecDepth 100000 in
theorem e_X11_isTower (l : Launch) (D : va_G) (tys : List (ClassId × FieldType)) (base : Nat) (G : iv_G) (x_0 : Int32) (i_x_0 : iv_R (-2147483648) 2147483647 x_0) : Met l yX11_isTower (Cond.code yX11_isTower cX11_isTower 1 (some .boolean) :: iv_W0) ({ frames := 1, cells := 0, slots := 0, locals := 22 }) (iv_Pc iv_sh D classes tys base G [.int x_0]) (iv_Qi iv_sh D classes tys base (fun v G' => G = G' ∧ iv_R 0 1 v ∧ (¬ v = 0 → iv_R 0 3 x_0) ∧ (v = 0 → ¬ iv_R 0 3 x_0))) 0 0 (iv_A base) := by
  refine iv_head (by decide) (Nat.le_of_ble_eq_true rfl) ?_
  intro p e s m args below meth c ls X hr hlocks hname hB hl
  have X := X
  have hx := X.1.1
  have hb := X.1.2.1
  have hl : lv_has ls 1 [(0, .int x_0)] := hl
  refine lv_iload_n hx hb dX11_isTower_0 rfl (lv_at hl 0 rfl) ?_
  refine lv_iconst (v := 0) hx hb dX11_isTower_1 (by decide) ?_
  refine lv_iconst (v := 3) hx hb dX11_isTower_2 (by decide) ?_
  refine iv_cSi X k_good k_mf_X11_isWithin k_st_X11_isWithin k_ml_X11_83 hB (As := [.int x_0, .int 0, .int 3]) (c_X11_isWithin l D tys base G x_0 i_x_0 0 (q_0.wk (by decide)) 3 (q_3.wk (by decide))) ⟨rfl, rfl⟩ ⟨Nat.le_of_ble_eq_true rfl, Nat.le_of_ble_eq_true rfl⟩ ⟨Nat.le_of_ble_eq_true rfl, Nat.le_of_ble_eq_true rfl⟩ rfl rfl hl.1 (Nat.le_of_ble_eq_true rfl) dX11_isTower_3 (fun x1 G9 H locs hq hB => ?_)
  obtain ⟨rfl, i_x1, hp2⟩ := hq
  have k3 : ¬ x1 = 0 → iv_R 0 3 x_0 := fun h => ⟨iv_max i_x_0.1 (Int.le_trans q_0.1 (hp2.1 h).1) (by decide), iv_min i_x_0.2 (Int.le_trans (hp2.1 h).2 q_3.2) (by decide)⟩
  exact iv_zret X hr hlocks hB i_x1 ⟨rfl, i_x1, fun h => (k3 h).wk (by decide), fun h h9 => by have w1 := hp2.2 h; have e0 : (0 : Int32).toInt = 0 := rfl; have e3 : (3 : Int32).toInt = 3 := rfl; have w2 := h9.1; have w3 := h9.2; omega⟩ dX11_isTower_6
set_option maxHeartbeats 4000000 in
set_option maxRecDepth 100000 in
theorem e_X12_isTower (l : Launch) (D : va_G) (tys : List (ClassId × FieldType)) (base : Nat) (G : iv_G) (x_0 : Int32) (i_x_0 : iv_R (-2147483648) 2147483647 x_0) : Met l yX12_isTower (Cond.code yX12_isTower cX12_isTower 1 (some .boolean) :: iv_W0) ({ frames := 1, cells := 0, slots := 0, locals := 22 }) (iv_Pc iv_sh D classes tys base G [.int x_0]) (iv_Qi iv_sh D classes tys base (fun v G' => G = G' ∧ iv_R 0 1 v ∧ (¬ v = 0 → iv_R 0 3 x_0) ∧ (v = 0 → ¬ iv_R 0 3 x_0))) 0 0 (iv_A base) := by
  refine iv_head (by decide) (Nat.le_of_ble_eq_true rfl) ?_
  intro p e s m args below meth c ls X hr hlocks hname hB hl
  have X := X
  have hx := X.1.1
  have hb := X.1.2.1
  have hl : lv_has ls 1 [(0, .int x_0)] := hl
  refine lv_iload_n hx hb dX12_isTower_0 rfl (lv_at hl 0 rfl) ?_
  refine lv_iconst (v := 0) hx hb dX12_isTower_1 (by decide) ?_
  refine lv_iconst (v := 3) hx hb dX12_isTower_2 (by decide) ?_
  refine iv_cSi X k_good k_mf_X12_isIn k_st_X12_isIn k_ml_X12_56 hB (As := [.int x_0, .int 0, .int 3]) (c_X12_isIn l D tys base G x_0 i_x_0 0 (q_0.wk (by decide)) 3 (q_3.wk (by decide))) ⟨rfl, rfl⟩ ⟨Nat.le_of_ble_eq_true rfl, Nat.le_of_ble_eq_true rfl⟩ ⟨Nat.le_of_ble_eq_true rfl, Nat.le_of_ble_eq_true rfl⟩ rfl rfl hl.1 (Nat.le_of_ble_eq_true rfl) dX12_isTower_3 (fun x1 G9 H locs hq hB => ?_)
  obtain ⟨rfl, i_x1, hp2⟩ := hq
  have k3 : ¬ x1 = 0 → iv_R 0 3 x_0 := fun h => ⟨iv_max i_x_0.1 (Int.le_trans q_0.1 (hp2.1 h).1) (by decide), iv_min i_x_0.2 (Int.le_trans (hp2.1 h).2 q_3.2) (by decide)⟩
  exact iv_zret X hr hlocks hB i_x1 ⟨rfl, i_x1, fun h => (k3 h).wk (by decide), fun h h9 => by have w1 := hp2.2 h; have e0 : (0 : Int32).toInt = 0 := rfl; have e3 : (3 : Int32).toInt = 3 := rfl; have w2 := h9.1; have w3 := h9.2; omega⟩ dX12_isTower_6
