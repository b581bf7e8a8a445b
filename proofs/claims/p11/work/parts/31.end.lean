def iv_relT (_ _ : iv_K) : Prop := True
abbrev iv_MdT (S : List Nat) (G G' : iv_G) : Prop := iv_mod iv_relT S G G'
theorem iv_MdT.rf {S : List Nat} {G : iv_G} : iv_MdT S G G := iv_mod.rf (fun _ => trivial)
theorem iv_MdT.stp {S S2 : List Nat} {G G1 G2 : iv_G} (h1 : iv_MdT S G G1) (h2 : iv_MdT S2 G1 G2) (s2 : ∀ x, x ∈ S2 → x ∈ S) : iv_MdT S G G2 := iv_mod.tr (fun _ _ _ _ _ _ => trivial) h1 h2 (fun _ h => h) s2
theorem iv_MdT.put {G : iv_G} {a cd : Nat} {g : Nat → Int32} {r : Nat → Nat} {j : Nat} {x : Int32} (ha : G a = some (cd, g, r)) : iv_MdT [cd] G (iv_up G a (cd, upd g j x, r)) := iv_mod.up (fun _ => trivial) ha rfl List.mem_cons_self trivial
theorem dX12_end_0 : decode cX12_end 0 = .ok (.iload_n 1, 1) := by decide +kernel
theorem dX12_end_1 : decode cX12_end 1 = .ok (.iconst 0, 1) := by decide +kernel
theorem dX12_end_2 : decode cX12_end 2 = .ok (.aload_n 0, 1) := by decide +kernel
theorem dX12_end_3 : decode cX12_end 3 = .ok (.getfield 82, 3) := by decide +kernel
theorem dX12_end_6 : decode cX12_end 6 = .ok (.invokestatic 56, 3) := by decide +kernel
theorem dX12_end_9 : decode cX12_end 9 = .ok (.ifCond .ne 5, 3) := by decide +kernel
theorem dX12_end_12 : decode cX12_end 12 = .ok (.iconst 0, 1) := by decide +kernel
theorem dX12_end_13 : decode cX12_end 13 = .ok (.ireturn, 1) := by decide +kernel
theorem dX12_end_14 : decode cX12_end 14 = .ok (.aload_n 0, 1) := by decide +kernel
theorem dX12_end_15 : decode cX12_end 15 = .ok (.iload_n 1, 1) := by decide +kernel
theorem dX12_end_16 : decode cX12_end 16 = .ok (.putfield 82, 3) := by decide +kernel
theorem dX12_end_19 : decode cX12_end 19 = .ok (.iconst 1, 1) := by decide +kernel
theorem dX12_end_20 : decode cX12_end 20 = .ok (.ireturn, 1) := by decide +kernel
set_option maxHeartbeats 4000000 in
set_option maxRecDepth 100000 in
theorem c_X12_end (l : Launch) (D : va_G) (tys : List (ClassId × FieldType)) (base : Nat) (G : iv_G) (h0 : Nat) (g_h0 : Nat → Int32) (r_h0 : Nat → Nat) (a_h0 : G h0 = some (12, g_h0, r_h0)) (x_0 : Int32) (i_x_0 : iv_R (-2147483648) 2147483647 x_0) : Met l yX12_end (Cond.code yX12_end cX12_end 2 (some .boolean) :: iv_W0) ({ frames := 1, cells := 0, slots := 0, locals := 22 }) (iv_Pc iv_sh D classes tys base G [.ref h0, .int x_0]) (iv_Qi iv_sh D classes tys base (fun v G' => iv_MdT [12] G G' ∧ iv_R 0 1 v ∧ (¬ v = 0 → iv_R 0 400 x_0))) 0 0 (iv_A base) := by
  refine iv_head (by decide) (Nat.le_of_ble_eq_true rfl) ?_
  intro p e s m args below meth c ls X hr hlocks hname hB hl
  have X := X
  have hx := X.1.1
  have hb := X.1.2.1
  have hM : iv_MdT [12] G G := iv_MdT.rf
  have hl : lv_has ls 2 [(0, .ref h0), (1, .int x_0)] := hl
  refine lv_iload_n hx hb dX12_end_0 rfl (lv_at hl 1 rfl) ?_
  refine lv_iconst (v := 0) hx hb dX12_end_1 (by decide) ?_
  refine lv_aload_n hx hb dX12_end_2 rfl (lv_at hl 0 rfl) ?_
  refine iv_geti X ft_X12 hB a_h0 sh_12 15 (by decide) rfl k_fl_X12_82 dX12_end_3 (fun x1 e_x1 i_x1 => ?_)
  refine iv_cSi X k_good k_mf_X12_isIn k_st_X12_isIn k_ml_X12_56 hB (As := [.int x_0, .int 0, .int x1]) (c_X12_isIn l D tys base G x_0 i_x_0 0 (q_0.wk (by decide)) x1 (i_x1.wk (by decide))) ⟨rfl, rfl⟩ ⟨Nat.le_of_ble_eq_true rfl, Nat.le_of_ble_eq_true rfl⟩ ⟨Nat.le_of_ble_eq_true rfl, Nat.le_of_ble_eq_true rfl⟩ rfl rfl hl.1 (Nat.le_of_ble_eq_true rfl) dX12_end_6 (fun x2 G9 H locs hq hB => ?_)
  obtain ⟨rfl, i_x2, hp3⟩ := hq
  have k4 : ¬ x2 = 0 → iv_R 0 400 x_0 := fun h => ⟨iv_max i_x_0.1 (Int.le_trans q_0.1 (hp3.1 h).1) (by decide), iv_min i_x_0.2 (Int.le_trans (hp3.1 h).2 i_x1.2) (by decide)⟩
  refine lv_if_ne (tgt := 14) hx hb dX12_end_9 (by decide) (fun c5 => ?_) (fun c5 => ?_)
  · skip
    have i5_x2 : iv_R 1 1 x2 := iv_ne_lo c5 i_x2 q_0 (by decide)
    have i6_x_0 : iv_R 0 400 x_0 := ((i_x_0.cutLo (n := 0) (k4 c5).1).cutHi (n := 400) (k4 c5).2)
    refine lv_aload_n hx hb dX12_end_14 rfl (lv_at hl 0 rfl) ?_
    refine lv_iload_n hx hb dX12_end_15 rfl (lv_at hl 1 rfl) ?_
    refine iv_puti X ft_X12 hB a_h0 sh_12 15 (by decide) rfl rfl k_fl_X12_82 rfl i6_x_0 rfl rfl dX12_end_16 (fun H locs hB => ?_)
    have hm := iv_MdT.put (x := x_0) a_h0 (j := 15)
    have h9 := iv_up_eq (G := G) (a := h0) (k := (12, upd g_h0 15 x_0, r_h0))
    generalize iv_up G h0 _ = G8 at hB hm h9
    have hM := hM.stp hm (by decide)
    generalize hgn_g9 : upd g_h0 _ _ = g9 at h9
    have a_h0 := h9
    have e9_g9 : x_0 = g9 15 := by rw [← hgn_g9]; simp [upd]
    refine lv_iconst (v := 1) hx hb dX12_end_19 (by decide) ?_
    exact iv_zret X hr hlocks hB (q_1.wk (by decide)) ⟨hM, (q_1.wk (by decide)), fun _ => i6_x_0⟩ dX12_end_20
  · skip
    have i9_x2 : iv_R 0 0 x2 := (i_x2.cutHi (n := 0) (iv_eq_r c5 q_0).2)
    refine lv_iconst (v := 0) hx hb dX12_end_12 (by decide) ?_
    exact iv_zret X hr hlocks hB (q_0.wk (by decide)) ⟨hM, (q_0.wk (by decide)), fun h => absurd (iv_z q_0) h⟩ dX12_end_13
