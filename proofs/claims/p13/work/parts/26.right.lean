def iv_own (gw : Nat → Int32) (i : Nat) : Int32 := gw (5 + 3 * i)
def iv_tk (gw gc : Nat → Int32) (i j : Nat) : Prop := j ≠ i ∧ gc j ≠ iv_own gw j ∧ gc j = iv_own gw i
def iv_ct (gw gc : Nat → Int32) : Nat → Nat
  | 0 => 0
  | n + 1 => iv_ct gw gc n + if gc n = iv_own gw n then 0 else 1
theorem iv_ct_le (gw gc : Nat → Int32) (n : Nat) : iv_ct gw gc n ≤ n := by
  induction n with
  | zero => exact Nat.le_refl _
  | succ n ih => show iv_ct gw gc n + _ ≤ n + 1; split <;> omega
theorem iv_ct_sw {gw gc : Nat → Int32} {i j : Nat} (h : iv_tk gw gc i j) (hi : gc i ≠ iv_own gw i) (n : Nat) :
    iv_ct gw (upd (upd gc i (gc j)) j (gc i)) n + (if i < n then 1 else 0) ≤ iv_ct gw gc n := by
  induction n with
  | zero => exact Nat.le_refl _
  | succ n ih =>
    show iv_ct gw _ n + (if upd (upd gc i (gc j)) j (gc i) n = iv_own gw n then 0 else 1) + _ ≤ iv_ct gw gc n + (if gc n = iv_own gw n then 0 else 1)
    obtain ⟨h1, h2, h3⟩ := h
    by_cases e1 : n = j
    · subst e1
      rw [if_neg h2]
      have : (if i < n + 1 then 1 else 0) = (if i < n then 1 else 0) := by
        by_cases e2 : i < n
        · rw [if_pos e2, if_pos (by omega)]
        · rw [if_neg e2, if_neg (by omega)]
      rw [this]
      split <;> omega
    · by_cases e2 : n = i
      · subst e2
        have e3 : upd (upd gc n (gc j)) j (gc n) n = gc j := by simp [upd, e1]
        rw [e3, if_pos h3, if_neg hi, if_pos (Nat.lt_succ_self _)]
        rw [if_neg (Nat.lt_irrefl _)] at ih
        omega
      · have e3 : upd (upd gc i (gc j)) j (gc i) n = gc n := by simp only [upd]; rw [if_neg e1, if_neg e2]
        rw [e3]
        have : (if i < n + 1 then 1 else 0) = (if i < n then 1 else 0) := by
          by_cases e2 : i < n
          · rw [if_pos e2, if_pos (by omega)]
          · rw [if_neg e2, if_neg (by omega)]
        rw [this]
        split <;> omega
set_option maxHeartbeats 4000000 in
set_option maxRecDepth 100000 in
theorem e_X12_ofChild (l : Launch) (D : va_G) (tys : List (ClassId × FieldType)) (base : Nat) (G : iv_G) (h0 : Nat) (g_h0 : Nat → Int32) (r_h0 : Nat → Nat) (a_h0 : G h0 = some (12, g_h0, r_h0)) (x_0 : Int32) (i_x_0 : iv_R 0 19 x_0) (x_1 : Int32) (i_x_1 : iv_R 0 2 x_1) (gw : Nat → Int32) (rw : Nat → Nat) (hw : G (r_h0 0) = some (60, gw, rw)) : Met l yX12_ofChild (Cond.code yX12_ofChild cX12_ofChild 3 (some .int) :: iv_W0) ({ frames := 0, cells := 0, slots := 0, locals := 0 }) (iv_Pc iv_sh D classes tys base G [.ref h0, .int x_0, .int x_1]) (iv_Qi iv_sh D classes tys base (fun v G' => G = G' ∧ iv_R (-2147483648) 2147483647 v ∧ v = gw (5 + 3 * x_0.toInt.toNat + x_1.toInt.toNat))) 0 0 (iv_A base) := by
  refine iv_head (by decide) (Nat.le_of_ble_eq_true rfl) ?_
  intro p e s m args below meth c ls X hr hlocks hname hB hl
  have X := X
  have hx := X.1.1
  have hb := X.1.2.1
  have hl : lv_has ls 3 [(0, .ref h0), (1, .int x_0), (2, .int x_1)] := hl
  refine lv_aload_n hx hb dX12_ofChild_0 rfl (lv_at hl 0 rfl) ?_
  refine iv_getr X ft_X12 hB a_h0 sh_12 0 (by decide) rfl k_fl_X12_7 dX12_ofChild_1 (fun b1 g_b1 r_b1 e_b1 a_b1 => ?_)
  refine lv_iconst (v := 5) hx hb dX12_ofChild_4 (by decide) ?_
  refine lv_iconst (v := 3) hx hb dX12_ofChild_5 (by decide) ?_
  refine lv_iload_n hx hb dX12_ofChild_6 rfl (lv_at hl 1 rfl) ?_
  refine iv_imul hx hb q_3 i_x_0 (lo := 0) (hi := 57) (by decide) dX12_ofChild_7 (fun x2 e_x2 i_x2 => ?_)
  refine iv_iadd hx hb q_5 i_x2 (lo := 5) (hi := 62) (by decide) dX12_ofChild_8 (fun x3 e_x3 i_x3 => ?_)
  refine lv_iload_n hx hb dX12_ofChild_9 rfl (lv_at hl 2 rfl) ?_
  refine iv_iadd hx hb i_x3 i_x_1 (lo := 5) (hi := 64) (by decide) dX12_ofChild_10 (fun x4 e_x4 i_x4 => ?_)
  refine iv_wald_f X hB a_b1 i_x4 (by decide) dX12_ofChild_11 (fun x5 e_x5 i_x5 => ?_)
  exact iv_iret X hr hlocks hB ⟨rfl, i_x5, by have w1 : x2.toInt = 3 * x_0.toInt := e_x2; have w2 : x3.toInt = 5 + x2.toInt := e_x3; have w3 : x4.toInt = x3.toInt + x_1.toInt := e_x4; have w4 := i_x_0.1; have w5 := i_x_1.1; rw [e_x5, iv_samew hw e_b1 a_b1]; congr 1; show x4.toInt.toNat = _; omega⟩ dX12_ofChild_12
theorem dX12_isWrong_0 : decode cX12_isWrong 0 = .ok (.aload_n 0, 1) := by decide +kernel
theorem dX12_isWrong_1 : decode cX12_isWrong 1 = .ok (.getfield 47, 3) := by decide +kernel
theorem dX12_isWrong_4 : decode cX12_isWrong 4 = .ok (.iload_n 1, 1) := by decide +kernel
theorem dX12_isWrong_5 : decode cX12_isWrong 5 = .ok (.iaload, 1) := by decide +kernel
theorem dX12_isWrong_6 : decode cX12_isWrong 6 = .ok (.aload_n 0, 1) := by decide +kernel
theorem dX12_isWrong_7 : decode cX12_isWrong 7 = .ok (.iload_n 1, 1) := by decide +kernel
theorem dX12_isWrong_8 : decode cX12_isWrong 8 = .ok (.iconst 0, 1) := by decide +kernel
theorem dX12_isWrong_9 : decode cX12_isWrong 9 = .ok (.invokevirtual 335, 3) := by decide +kernel
theorem dX12_isWrong_12 : decode cX12_isWrong 12 = .ok (.if_icmp .eq 7, 3) := by decide +kernel
theorem dX12_isWrong_15 : decode cX12_isWrong 15 = .ok (.iconst 1, 1) := by decide +kernel
theorem dX12_isWrong_16 : decode cX12_isWrong 16 = .ok (.goto 4, 3) := by decide +kernel
theorem dX12_isWrong_19 : decode cX12_isWrong 19 = .ok (.iconst 0, 1) := by decide +kernel
theorem dX12_isWrong_20 : decode cX12_isWrong 20 = .ok (.ireturn, 1) := by decide +kernel
set_option maxHeartbeats 4000000 in
set_option maxRecDepth 100000 in
theorem c_X12_isWrong (l : Launch) (D : va_G) (tys : List (ClassId × FieldType)) (base : Nat) (G : iv_G) (h0 : Nat) (g_h0 : Nat → Int32) (r_h0 : Nat → Nat) (a_h0 : G h0 = some (12, g_h0, r_h0)) (x_0 : Int32) (i_x_0 : iv_R 0 19 x_0) (gw : Nat → Int32) (rw : Nat → Nat) (hw : G (r_h0 0) = some (60, gw, rw)) (gc : Nat → Int32) (rc : Nat → Nat) (hc : G (r_h0 28) = some (71, gc, rc)) : Met l yX12_isWrong (Cond.code yX12_isWrong cX12_isWrong 2 (some .boolean) :: iv_W0) ({ frames := 1, cells := 0, slots := 0, locals := 22 }) (iv_Pc iv_sh D classes tys base G [.ref h0, .int x_0]) (iv_Qi iv_sh D classes tys base (fun v G' => G = G' ∧ iv_R 0 1 v ∧ (v = 0 ↔ gc x_0.toInt.toNat = iv_own gw x_0.toInt.toNat))) 0 0 (iv_A base) := by
  refine iv_head (by decide) (Nat.le_of_ble_eq_true rfl) ?_
  intro p e s m args below meth c ls X hr hlocks hname hB hl
  have X := X
  have hx := X.1.1
  have hb := X.1.2.1
  have hl : lv_has ls 2 [(0, .ref h0), (1, .int x_0)] := hl
  refine lv_aload_n hx hb dX12_isWrong_0 rfl (lv_at hl 0 rfl) ?_
  refine iv_getr X ft_X12 hB a_h0 sh_12 28 (by decide) rfl k_fl_X12_47 dX12_isWrong_1 (fun b1 g_b1 r_b1 e_b1 a_b1 => ?_)
  refine lv_iload_n hx hb dX12_isWrong_4 rfl (lv_at hl 1 rfl) ?_
  refine iv_ald X hB a_b1 sh_71 (iv_in i_x_0 (by decide)) dX12_isWrong_5 (fun x2 e_x2 i_x2 => ?_)
  refine lv_aload_n hx hb dX12_isWrong_6 rfl (lv_at hl 0 rfl) ?_
  refine lv_iload_n hx hb dX12_isWrong_7 rfl (lv_at hl 1 rfl) ?_
  refine lv_iconst (v := 0) hx hb dX12_isWrong_8 (by decide) ?_
  refine iv_cVi X k_good k_mf_X12_ofChild k_im_X12_ofChild k_sel_X12_ofChild k_ml_X12_335 ft_X12 hB a_h0 sh_12 (As := [.int x_0, .int 0]) (e_X12_ofChild l D tys base G h0 g_h0 r_h0 a_h0 x_0 i_x_0 0 (q_0.wk (by decide)) gw rw hw) ⟨rfl, rfl⟩ ⟨Nat.le_of_ble_eq_true rfl, Nat.le_of_ble_eq_true rfl⟩ ⟨Nat.le_of_ble_eq_true rfl, Nat.le_of_ble_eq_true rfl⟩ rfl rfl hl.1 (Nat.le_of_ble_eq_true rfl) dX12_isWrong_9 (fun x3 G9 H locs hq hB => ?_)
  obtain ⟨rfl, i_x3, eq3⟩ := hq
  have hx2 : x2 = gc x_0.toInt.toNat := by rw [e_x2, iv_samew hc e_b1 a_b1]; rfl
  have hx3 : x3 = iv_own gw x_0.toInt.toNat := eq3
  refine lv_icmp_eq (tgt := 19) hx hb dX12_isWrong_12 (by decide) (fun c4 => ?_) (fun c4 => ?_)
  · skip
    refine lv_iconst (v := 0) hx hb dX12_isWrong_19 (by decide) ?_
    exact iv_zret X hr hlocks hB (q_0.wk (by decide)) ⟨rfl, (q_0.wk (by decide)), fun _ => hx2.symm.trans (c4.trans hx3), fun _ => rfl⟩ dX12_isWrong_20
  · skip
    refine lv_iconst (v := 1) hx hb dX12_isWrong_15 (by decide) ?_
    refine lv_goto (tgt := 20) hx hb dX12_isWrong_16 (by decide) ?_
    exact iv_zret X hr hlocks hB (q_1.wk (by decide)) ⟨rfl, (q_1.wk (by decide)), fun h => absurd h (by decide), fun h => absurd (hx2.trans (h.trans hx3.symm)) c4⟩ dX12_isWrong_20
theorem dX12_canTakeFrom_0 : decode cX12_canTakeFrom 0 = .ok (.iload_n 2, 1) := by decide +kernel
theorem dX12_canTakeFrom_1 : decode cX12_canTakeFrom 1 = .ok (.iload_n 1, 1) := by decide +kernel
theorem dX12_canTakeFrom_2 : decode cX12_canTakeFrom 2 = .ok (.if_icmp .eq 30, 3) := by decide +kernel
theorem dX12_canTakeFrom_5 : decode cX12_canTakeFrom 5 = .ok (.aload_n 0, 1) := by decide +kernel
theorem dX12_canTakeFrom_6 : decode cX12_canTakeFrom 6 = .ok (.iload_n 2, 1) := by decide +kernel
theorem dX12_canTakeFrom_7 : decode cX12_canTakeFrom 7 = .ok (.invokevirtual 417, 3) := by decide +kernel
theorem dX12_canTakeFrom_10 : decode cX12_canTakeFrom 10 = .ok (.ifCond .eq 22, 3) := by decide +kernel
theorem dX12_canTakeFrom_13 : decode cX12_canTakeFrom 13 = .ok (.aload_n 0, 1) := by decide +kernel
theorem dX12_canTakeFrom_14 : decode cX12_canTakeFrom 14 = .ok (.getfield 47, 3) := by decide +kernel
theorem dX12_canTakeFrom_17 : decode cX12_canTakeFrom 17 = .ok (.iload_n 2, 1) := by decide +kernel
theorem dX12_canTakeFrom_18 : decode cX12_canTakeFrom 18 = .ok (.iaload, 1) := by decide +kernel
theorem dX12_canTakeFrom_19 : decode cX12_canTakeFrom 19 = .ok (.aload_n 0, 1) := by decide +kernel
theorem dX12_canTakeFrom_20 : decode cX12_canTakeFrom 20 = .ok (.iload_n 1, 1) := by decide +kernel
theorem dX12_canTakeFrom_21 : decode cX12_canTakeFrom 21 = .ok (.iconst 0, 1) := by decide +kernel
theorem dX12_canTakeFrom_22 : decode cX12_canTakeFrom 22 = .ok (.invokevirtual 335, 3) := by decide +kernel
theorem dX12_canTakeFrom_25 : decode cX12_canTakeFrom 25 = .ok (.if_icmp .ne 7, 3) := by decide +kernel
theorem dX12_canTakeFrom_28 : decode cX12_canTakeFrom 28 = .ok (.iconst 1, 1) := by decide +kernel
theorem dX12_canTakeFrom_29 : decode cX12_canTakeFrom 29 = .ok (.goto 4, 3) := by decide +kernel
theorem dX12_canTakeFrom_32 : decode cX12_canTakeFrom 32 = .ok (.iconst 0, 1) := by decide +kernel
theorem dX12_canTakeFrom_33 : decode cX12_canTakeFrom 33 = .ok (.ireturn, 1) := by decide +kernel
set_option maxHeartbeats 4000000 in
set_option maxRecDepth 100000 in
theorem c_X12_canTakeFrom (l : Launch) (D : va_G) (tys : List (ClassId × FieldType)) (base : Nat) (G : iv_G) (h0 : Nat) (g_h0 : Nat → Int32) (r_h0 : Nat → Nat) (a_h0 : G h0 = some (12, g_h0, r_h0)) (x_0 : Int32) (i_x_0 : iv_R 0 19 x_0) (x_1 : Int32) (i_x_1 : iv_R 0 19 x_1) (gw : Nat → Int32) (rw : Nat → Nat) (hw : G (r_h0 0) = some (60, gw, rw)) (gc : Nat → Int32) (rc : Nat → Nat) (hc : G (r_h0 28) = some (71, gc, rc)) : Met l yX12_canTakeFrom (Cond.code yX12_canTakeFrom cX12_canTakeFrom 3 (some .boolean) :: iv_W0) ({ frames := 2, cells := 0, slots := 0, locals := 43 }) (iv_Pc iv_sh D classes tys base G [.ref h0, .int x_0, .int x_1]) (iv_Qi iv_sh D classes tys base (fun v G' => G = G' ∧ iv_R 0 1 v ∧ (v = 0 ↔ ¬ iv_tk gw gc x_0.toInt.toNat x_1.toInt.toNat))) 0 0 (iv_A base) := by
  refine iv_head (by decide) (Nat.le_of_ble_eq_true rfl) ?_
  intro p e s m args below meth c ls X hr hlocks hname hB hl
  have X := X
  have hx := X.1.1
  have hb := X.1.2.1
  have hl : lv_has ls 3 [(0, .ref h0), (1, .int x_0), (2, .int x_1)] := hl
  refine lv_iload_n hx hb dX12_canTakeFrom_0 rfl (lv_at hl 2 rfl) ?_
  refine lv_iload_n hx hb dX12_canTakeFrom_1 rfl (lv_at hl 1 rfl) ?_
  refine lv_icmp_eq (tgt := 32) hx hb dX12_canTakeFrom_2 (by decide) (fun c1 => ?_) (fun c1 => ?_)
  · skip
    refine lv_iconst (v := 0) hx hb dX12_canTakeFrom_32 (by decide) ?_
    exact iv_zret X hr hlocks hB (q_0.wk (by decide)) ⟨rfl, (q_0.wk (by decide)), fun _ h => h.1 (by rw [c1]), fun _ => rfl⟩ dX12_canTakeFrom_33
  · skip
    refine lv_aload_n hx hb dX12_canTakeFrom_5 rfl (lv_at hl 0 rfl) ?_
    refine lv_iload_n hx hb dX12_canTakeFrom_6 rfl (lv_at hl 2 rfl) ?_
    refine iv_cVi X k_good k_mf_X12_isWrong k_im_X12_isWrong k_sel_X12_isWrong k_ml_X12_417 ft_X12 hB a_h0 sh_12 (As := [.int x_1]) (c_X12_isWrong l D tys base G h0 g_h0 r_h0 a_h0 x_1 i_x_1 gw rw hw gc rc hc) ⟨rfl, rfl⟩ ⟨Nat.le_of_ble_eq_true rfl, Nat.le_of_ble_eq_true rfl⟩ ⟨Nat.le_of_ble_eq_true rfl, Nat.le_of_ble_eq_true rfl⟩ rfl rfl hl.1 (Nat.le_of_ble_eq_true rfl) dX12_canTakeFrom_7 (fun x2 G9 H locs hq hB => ?_)
    obtain ⟨rfl, i_x2, eq2⟩ := hq
    refine lv_if_eq (tgt := 32) hx hb dX12_canTakeFrom_10 (by decide) (fun c3 => ?_) (fun c3 => ?_)
    · skip
      have i3_x2 : iv_R 0 0 x2 := (i_x2.cutHi (n := 0) (iv_eq_r c3 q_0).2)
      refine lv_iconst (v := 0) hx hb dX12_canTakeFrom_32 (by decide) ?_
      exact iv_zret X hr hlocks hB (q_0.wk (by decide)) ⟨rfl, (q_0.wk (by decide)), fun _ h => h.2.1 (eq2.mp c3), fun _ => rfl⟩ dX12_canTakeFrom_33
    · skip
      have i4_x2 : iv_R 1 1 x2 := iv_ne_lo c3 i_x2 q_0 (by decide)
      refine lv_aload_n hx hb dX12_canTakeFrom_13 rfl (lv_at hl 0 rfl) ?_
      refine iv_getr X ft_X12 hB a_h0 sh_12 28 (by decide) rfl k_fl_X12_47 dX12_canTakeFrom_14 (fun b6 g_b6 r_b6 e_b6 a_b6 => ?_)
      refine lv_iload_n hx hb dX12_canTakeFrom_17 rfl (lv_at hl 2 rfl) ?_
      refine iv_ald X hB a_b6 sh_71 (iv_in i_x_1 (by decide)) dX12_canTakeFrom_18 (fun x7 e_x7 i_x7 => ?_)
      refine lv_aload_n hx hb dX12_canTakeFrom_19 rfl (lv_at hl 0 rfl) ?_
      refine lv_iload_n hx hb dX12_canTakeFrom_20 rfl (lv_at hl 1 rfl) ?_
      refine lv_iconst (v := 0) hx hb dX12_canTakeFrom_21 (by decide) ?_
      refine iv_cVi X k_good k_mf_X12_ofChild k_im_X12_ofChild k_sel_X12_ofChild k_ml_X12_335 ft_X12 hB a_h0 sh_12 (As := [.int x_0, .int 0]) (e_X12_ofChild l D tys base G h0 g_h0 r_h0 a_h0 x_0 i_x_0 0 (q_0.wk (by decide)) gw rw hw) ⟨rfl, rfl⟩ ⟨Nat.le_of_ble_eq_true rfl, Nat.le_of_ble_eq_true rfl⟩ ⟨Nat.le_of_ble_eq_true rfl, Nat.le_of_ble_eq_true rfl⟩ rfl rfl hl.1 (Nat.le_of_ble_eq_true rfl) dX12_canTakeFrom_22 (fun x8 G9 H locs hq hB => ?_)
      obtain ⟨rfl, i_x8, eq8⟩ := hq
      have hx7 : x7 = gc x_1.toInt.toNat := by rw [e_x7, iv_samew hc e_b6 a_b6]; rfl
      have hx8 : x8 = iv_own gw x_0.toInt.toNat := eq8
      have hne : x_1.toInt.toNat ≠ x_0.toInt.toNat := fun q => c1 (Int32.toInt_inj.mp (by have := i_x_0.1; have := i_x_1.1; omega))
      refine lv_icmp_ne (tgt := 32) hx hb dX12_canTakeFrom_25 (by decide) (fun c9 => ?_) (fun c9 => ?_)
      · skip
        refine lv_iconst (v := 0) hx hb dX12_canTakeFrom_32 (by decide) ?_
        exact iv_zret X hr hlocks hB (q_0.wk (by decide)) ⟨rfl, (q_0.wk (by decide)), fun _ h => c9 (hx7.trans (h.2.2.trans hx8.symm)), fun _ => rfl⟩ dX12_canTakeFrom_33
      · skip
        refine lv_iconst (v := 1) hx hb dX12_canTakeFrom_28 (by decide) ?_
        refine lv_goto (tgt := 33) hx hb dX12_canTakeFrom_29 (by decide) ?_
        exact iv_zret X hr hlocks hB (q_1.wk (by decide)) ⟨rfl, (q_1.wk (by decide)), fun h => absurd h (by decide), fun h => absurd ⟨hne, fun q => c3 (eq2.mpr q), hx7.symm.trans (c9.trans hx8)⟩ h⟩ dX12_canTakeFrom_33
theorem dX12_swapsWith_0 : decode cX12_swapsWith 0 = .ok (.iconst 0, 1) := by decide +kernel
theorem dX12_swapsWith_1 : decode cX12_swapsWith 1 = .ok (.istore_n 2, 1) := by decide +kernel
theorem dX12_swapsWith_2 : decode cX12_swapsWith 2 = .ok (.iload_n 2, 1) := by decide +kernel
theorem dX12_swapsWith_3 : decode cX12_swapsWith 3 = .ok (.aload_n 0, 1) := by decide +kernel
theorem dX12_swapsWith_4 : decode cX12_swapsWith 4 = .ok (.getfield 7, 3) := by decide +kernel
theorem dX12_swapsWith_7 : decode cX12_swapsWith 7 = .ok (.iconst 4, 1) := by decide +kernel
theorem dX12_swapsWith_8 : decode cX12_swapsWith 8 = .ok (.iaload, 1) := by decide +kernel
theorem dX12_swapsWith_9 : decode cX12_swapsWith 9 = .ok (.if_icmp .ge 35, 3) := by decide +kernel
theorem dX12_swapsWith_12 : decode cX12_swapsWith 12 = .ok (.aload_n 0, 1) := by decide +kernel
theorem dX12_swapsWith_13 : decode cX12_swapsWith 13 = .ok (.iload_n 1, 1) := by decide +kernel
theorem dX12_swapsWith_14 : decode cX12_swapsWith 14 = .ok (.iload_n 2, 1) := by decide +kernel
theorem dX12_swapsWith_15 : decode cX12_swapsWith 15 = .ok (.invokevirtual 420, 3) := by decide +kernel
theorem dX12_swapsWith_18 : decode cX12_swapsWith 18 = .ok (.ifCond .eq 20, 3) := by decide +kernel
theorem dX12_swapsWith_21 : decode cX12_swapsWith 21 = .ok (.aload_n 0, 1) := by decide +kernel
theorem dX12_swapsWith_22 : decode cX12_swapsWith 22 = .ok (.iload_n 2, 1) := by decide +kernel
theorem dX12_swapsWith_23 : decode cX12_swapsWith 23 = .ok (.iconst 0, 1) := by decide +kernel
theorem dX12_swapsWith_24 : decode cX12_swapsWith 24 = .ok (.invokevirtual 335, 3) := by decide +kernel
theorem dX12_swapsWith_27 : decode cX12_swapsWith 27 = .ok (.aload_n 0, 1) := by decide +kernel
theorem dX12_swapsWith_28 : decode cX12_swapsWith 28 = .ok (.getfield 47, 3) := by decide +kernel
theorem dX12_swapsWith_31 : decode cX12_swapsWith 31 = .ok (.iload_n 1, 1) := by decide +kernel
theorem dX12_swapsWith_32 : decode cX12_swapsWith 32 = .ok (.iaload, 1) := by decide +kernel
theorem dX12_swapsWith_33 : decode cX12_swapsWith 33 = .ok (.if_icmp .ne 5, 3) := by decide +kernel
theorem dX12_swapsWith_36 : decode cX12_swapsWith 36 = .ok (.iload_n 2, 1) := by decide +kernel
theorem dX12_swapsWith_37 : decode cX12_swapsWith 37 = .ok (.ireturn, 1) := by decide +kernel
theorem dX12_swapsWith_38 : decode cX12_swapsWith 38 = .ok (.iinc 2 1, 3) := by decide +kernel
theorem dX12_swapsWith_41 : decode cX12_swapsWith 41 = .ok (.goto (-39), 3) := by decide +kernel
theorem dX12_swapsWith_44 : decode cX12_swapsWith 44 = .ok (.iconst 0, 1) := by decide +kernel
theorem dX12_swapsWith_45 : decode cX12_swapsWith 45 = .ok (.istore_n 2, 1) := by decide +kernel
theorem dX12_swapsWith_46 : decode cX12_swapsWith 46 = .ok (.iload_n 2, 1) := by decide +kernel
theorem dX12_swapsWith_47 : decode cX12_swapsWith 47 = .ok (.aload_n 0, 1) := by decide +kernel
theorem dX12_swapsWith_48 : decode cX12_swapsWith 48 = .ok (.getfield 7, 3) := by decide +kernel
theorem dX12_swapsWith_51 : decode cX12_swapsWith 51 = .ok (.iconst 4, 1) := by decide +kernel
theorem dX12_swapsWith_52 : decode cX12_swapsWith 52 = .ok (.iaload, 1) := by decide +kernel
theorem dX12_swapsWith_53 : decode cX12_swapsWith 53 = .ok (.if_icmp .ge 20, 3) := by decide +kernel
theorem dX12_swapsWith_56 : decode cX12_swapsWith 56 = .ok (.aload_n 0, 1) := by decide +kernel
theorem dX12_swapsWith_57 : decode cX12_swapsWith 57 = .ok (.iload_n 1, 1) := by decide +kernel
theorem dX12_swapsWith_58 : decode cX12_swapsWith 58 = .ok (.iload_n 2, 1) := by decide +kernel
theorem dX12_swapsWith_59 : decode cX12_swapsWith 59 = .ok (.invokevirtual 420, 3) := by decide +kernel
theorem dX12_swapsWith_62 : decode cX12_swapsWith 62 = .ok (.ifCond .eq 5, 3) := by decide +kernel
theorem dX12_swapsWith_65 : decode cX12_swapsWith 65 = .ok (.iload_n 2, 1) := by decide +kernel
theorem dX12_swapsWith_66 : decode cX12_swapsWith 66 = .ok (.ireturn, 1) := by decide +kernel
theorem dX12_swapsWith_67 : decode cX12_swapsWith 67 = .ok (.iinc 2 1, 3) := by decide +kernel
theorem dX12_swapsWith_70 : decode cX12_swapsWith 70 = .ok (.goto (-24), 3) := by decide +kernel
theorem dX12_swapsWith_73 : decode cX12_swapsWith 73 = .ok (.iconst (-1), 1) := by decide +kernel
theorem dX12_swapsWith_74 : decode cX12_swapsWith 74 = .ok (.ireturn, 1) := by decide +kernel
set_option maxHeartbeats 4000000 in
set_option maxRecDepth 100000 in
theorem c_X12_swapsWith (l : Launch) (D : va_G) (tys : List (ClassId × FieldType)) (base : Nat) (G : iv_G) (h0 : Nat) (g_h0 : Nat → Int32) (r_h0 : Nat → Nat) (a_h0 : G h0 = some (12, g_h0, r_h0)) (x_0 : Int32) (i_x_0 : iv_R 0 19 x_0) (gw : Nat → Int32) (rw : Nat → Nat) (hw : G (r_h0 0) = some (60, gw, rw)) (gc : Nat → Int32) (rc : Nat → Nat) (hc : G (r_h0 28) = some (71, gc, rc)) : Met l yX12_swapsWith (Cond.code yX12_swapsWith cX12_swapsWith 3 (some .int) :: iv_W0) ({ frames := 3, cells := 0, slots := 0, locals := 65 }) (iv_Pc iv_sh D classes tys base G [.ref h0, .int x_0]) (iv_Qi iv_sh D classes tys base (fun v G' => G = G' ∧ iv_R (-1) 19 v ∧ (0 ≤ v.toInt → iv_tk gw gc x_0.toInt.toNat v.toInt.toNat ∧ v.toInt < (gw 4).toInt) ∧ (v.toInt < 0 → ∀ j : Nat, (j : Int) < (gw 4).toInt → ¬ iv_tk gw gc x_0.toInt.toNat j))) 0 0 (iv_A base) := by
  refine iv_head (by decide) (Nat.le_of_ble_eq_true rfl) ?_
  intro p e s m args below meth c ls X hr hlocks hname hB hl
  have X := X
  have hx := X.1.1
  have hb := X.1.2.1
  have hl : lv_has ls 3 [(0, .ref h0), (1, .int x_0)] := hl
  refine lv_iconst (v := 0) hx hb dX12_swapsWith_0 (by decide) ?_
  refine lv_istore_n (lv' := [(2, .int 0), (0, .ref h0), (1, .int x_0)]) hx hb dX12_swapsWith_1 rfl hl (by decide) rfl (fun ls hl => ?_)
  have L_2 : ∀ (n_2 : Nat) (H : Heap) (locs : List Loc) (hB : iv_B iv_sh D classes tys base G s.heap H locs) (x1 : Int32) (i_x1 : iv_R 0 20 x1) (hn_2 : (21 - x1.toInt).toNat < n_2) (ls : Array Slot) (hl : lv_has ls 3 [(2, .int x1), (0, .ref h0), (1, .int x_0)]), W p l e ({ frames := 3, cells := 0, slots := 0, locals := 65 } : Room) s m args below meth c H locs 0 0 (MQ below (iv_Qi iv_sh D classes tys base (fun v G' => G = G' ∧ iv_R (-1) 19 v ∧ (0 ≤ v.toInt → iv_tk gw gc x_0.toInt.toNat v.toInt.toNat ∧ v.toInt < (gw 4).toInt) ∧ (v.toInt < 0 → ∀ j : Nat, (j : Int) < (gw 4).toInt → ¬ iv_tk gw gc x_0.toInt.toNat j))) args s 0 0 (iv_A base)) (F0 m 2 ls []) := by
    intro n_2
    induction n_2 with
    | zero => intro H locs hB x1 i_x1 hn_2 ls hl; exact absurd hn_2 (Nat.not_lt_zero _)
    | succ n_2 ih_2 =>
      intro H locs hB x1 i_x1 hn_2 ls hl
      refine lv_iload_n hx hb dX12_swapsWith_2 rfl (lv_at hl 0 rfl) ?_
      refine lv_aload_n hx hb dX12_swapsWith_3 rfl (lv_at hl 1 rfl) ?_
      refine iv_getr X ft_X12 hB a_h0 sh_12 0 (by decide) rfl k_fl_X12_7 dX12_swapsWith_4 (fun b2 g_b2 r_b2 e_b2 a_b2 => ?_)
      refine lv_iconst (v := 4) hx hb dX12_swapsWith_7 (by decide) ?_
      refine iv_wald_c X hB a_b2 q_4 (by decide) (lo := 0) (hi' := 20) (by decide) dX12_swapsWith_8 (fun x3 e_x3 i_x3 => ?_)
      refine lv_icmp_ge (tgt := 44) hx hb dX12_swapsWith_9 (by decide) (fun c4 => ?_) (fun c4 => ?_)
      · skip
        refine lv_iconst (v := 0) hx hb dX12_swapsWith_44 (by decide) ?_
        refine lv_istore_n (lv' := [(2, .int 0), (0, .ref h0), (1, .int x_0)]) hx hb dX12_swapsWith_45 rfl hl (by decide) rfl (fun ls hl => ?_)
        have L_46 : ∀ (n_46 : Nat) (H : Heap) (locs : List Loc) (hB : iv_B iv_sh D classes tys base G s.heap H locs) (x5 : Int32) (i_x5 : iv_R 0 20 x5) (inv : ∀ j : Nat, (j : Int) < x5.toInt → ¬ iv_tk gw gc x_0.toInt.toNat j) (hn_46 : (21 - x5.toInt).toNat < n_46) (ls : Array Slot) (hl : lv_has ls 3 [(2, .int x5), (0, .ref h0), (1, .int x_0)]), W p l e ({ frames := 3, cells := 0, slots := 0, locals := 65 } : Room) s m args below meth c H locs 0 0 (MQ below (iv_Qi iv_sh D classes tys base (fun v G' => G = G' ∧ iv_R (-1) 19 v ∧ (0 ≤ v.toInt → iv_tk gw gc x_0.toInt.toNat v.toInt.toNat ∧ v.toInt < (gw 4).toInt) ∧ (v.toInt < 0 → ∀ j : Nat, (j : Int) < (gw 4).toInt → ¬ iv_tk gw gc x_0.toInt.toNat j))) args s 0 0 (iv_A base)) (F0 m 46 ls []) := by
          intro n_46
          induction n_46 with
          | zero => intro H locs hB x5 i_x5 inv hn_46 ls hl; exact absurd hn_46 (Nat.not_lt_zero _)
          | succ n_46 ih_46 =>
            intro H locs hB x5 i_x5 inv hn_46 ls hl
            refine lv_iload_n hx hb dX12_swapsWith_46 rfl (lv_at hl 0 rfl) ?_
            refine lv_aload_n hx hb dX12_swapsWith_47 rfl (lv_at hl 1 rfl) ?_
            refine iv_getr0 X ft_X12 hB a_h0 sh_12 0 (by decide) rfl k_fl_X12_7 dX12_swapsWith_48 e_b2 ?_
            refine lv_iconst (v := 4) hx hb dX12_swapsWith_51 (by decide) ?_
            refine iv_wald_c X hB a_b2 q_4 (by decide) (lo := 0) (hi' := 20) (by decide) dX12_swapsWith_52 (fun x6 e_x6 k_x6 => ?_)
            obtain rfl : x3 = x6 := e_x3.trans e_x6.symm
            refine lv_icmp_ge (tgt := 73) hx hb dX12_swapsWith_53 (by decide) (fun c7 => ?_) (fun c7 => ?_)
            · skip
              refine lv_iconst (v := (-1)) hx hb dX12_swapsWith_73 (by decide) ?_
              exact iv_iret X hr hlocks hB ⟨rfl, (q_n1.wk (by decide)), fun h => absurd h (by decide), fun _ j hj => inv j (by have w1 := Int32.le_iff_toInt_le.mp c7; have w2 : x3 = gw 4 := (by rw [e_x3, iv_samew hw e_b2 a_b2]; rfl); rw [w2] at w1; omega)⟩ dX12_swapsWith_74
            · skip
              have i7_x5 : iv_R 0 19 x5 := (i_x5.cutHi (n := 19) (iv_lt_r (iv_nle c7) i_x3 (by decide)))
              have i8_x3 : iv_R 1 20 x3 := (i_x3.cutLo (n := 1) (iv_lt_l (iv_nle c7) i_x5 (by decide)))
              refine lv_aload_n hx hb dX12_swapsWith_56 rfl (lv_at hl 1 rfl) ?_
              refine lv_iload_n hx hb dX12_swapsWith_57 rfl (lv_at hl 2 rfl) ?_
              refine lv_iload_n hx hb dX12_swapsWith_58 rfl (lv_at hl 0 rfl) ?_
              refine iv_cVi X k_good k_mf_X12_canTakeFrom k_im_X12_canTakeFrom k_sel_X12_canTakeFrom k_ml_X12_420 ft_X12 hB a_h0 sh_12 (As := [.int x_0, .int x5]) (c_X12_canTakeFrom l D tys base G h0 g_h0 r_h0 a_h0 x_0 i_x_0 x5 i7_x5 gw rw hw gc rc hc) ⟨rfl, rfl⟩ ⟨Nat.le_of_ble_eq_true rfl, Nat.le_of_ble_eq_true rfl⟩ ⟨Nat.le_of_ble_eq_true rfl, Nat.le_of_ble_eq_true rfl⟩ rfl rfl hl.1 (Nat.le_of_ble_eq_true rfl) dX12_swapsWith_59 (fun x10 G9 H locs hq hB => ?_)
              obtain ⟨rfl, i_x10, eq10⟩ := hq
              refine lv_if_eq (tgt := 67) hx hb dX12_swapsWith_62 (by decide) (fun c11 => ?_) (fun c11 => ?_)
              · skip
                have i11_x10 : iv_R 0 0 x10 := (i_x10.cutHi (n := 0) (iv_eq_r c11 q_0).2)
                refine iv_iinc hx hb i7_x5 (lo := 1) (hi := 20) (by decide) dX12_swapsWith_67 hl (k := 0) rfl (by decide) (fun x13 ls e_x13 i_x13 hl => ?_)
                have hl : lv_has ls 3 [(2, .int x13), (0, .ref h0), (1, .int x_0)] := hl
                refine lv_goto (tgt := 46) hx hb dX12_swapsWith_70 (by decide) ?_
                exact ih_46 _ _ hB x13 (i_x13.wk (by decide)) (fun j hj => (by have w1 : x13.toInt = x5.toInt + 1 := e_x13; exact (Decidable.em ((j : Int) < x5.toInt)).elim (fun hq => inv j hq) (fun hq => (show x5.toInt.toNat = j from (by omega)) ▸ eq10.mp c11))) (iv_mup (c := 1) i_x5 (by decide) (by decide) (by omega) hn_46) _ (lv_sub hl [0, 1, 2] rfl)
              · skip
                have i13_x10 : iv_R 1 1 x10 := iv_ne_lo c11 i_x10 q_0 (by decide)
                refine lv_iload_n hx hb dX12_swapsWith_65 rfl (lv_at hl 0 rfl) ?_
                exact iv_iret X hr hlocks hB ⟨rfl, (i7_x5.wk (by decide)), fun _ => ⟨Classical.byContradiction (fun h => c11 (eq10.mpr h)), (by have w1 : ¬ x3.toInt ≤ x5.toInt := fun h => c7 (Int32.le_iff_toInt_le.mpr h); have w2 : x3 = gw 4 := (by rw [e_x3, iv_samew hw e_b2 a_b2]; rfl); rw [w2] at w1; omega)⟩, fun h => absurd h (by have := i7_x5.1; omega)⟩ dX12_swapsWith_66
        exact L_46 _ _ _ hB 0 (q_0.wk (by decide)) (fun j hj => absurd hj (by have w1 : (0 : Int32).toInt = 0 := rfl; omega)) (Nat.lt_succ_self _) _ (lv_sub hl [0, 1, 2] rfl)
      · skip
        have i14_x1 : iv_R 0 19 x1 := (i_x1.cutHi (n := 19) (iv_lt_r (iv_nle c4) i_x3 (by decide)))
        have i15_x3 : iv_R 1 20 x3 := (i_x3.cutLo (n := 1) (iv_lt_l (iv_nle c4) i_x1 (by decide)))
        refine lv_aload_n hx hb dX12_swapsWith_12 rfl (lv_at hl 1 rfl) ?_
        refine lv_iload_n hx hb dX12_swapsWith_13 rfl (lv_at hl 2 rfl) ?_
        refine lv_iload_n hx hb dX12_swapsWith_14 rfl (lv_at hl 0 rfl) ?_
        refine iv_cVi X k_good k_mf_X12_canTakeFrom k_im_X12_canTakeFrom k_sel_X12_canTakeFrom k_ml_X12_420 ft_X12 hB a_h0 sh_12 (As := [.int x_0, .int x1]) (c_X12_canTakeFrom l D tys base G h0 g_h0 r_h0 a_h0 x_0 i_x_0 x1 i14_x1 gw rw hw gc rc hc) ⟨rfl, rfl⟩ ⟨Nat.le_of_ble_eq_true rfl, Nat.le_of_ble_eq_true rfl⟩ ⟨Nat.le_of_ble_eq_true rfl, Nat.le_of_ble_eq_true rfl⟩ rfl rfl hl.1 (Nat.le_of_ble_eq_true rfl) dX12_swapsWith_15 (fun x17 G9 H locs hq hB => ?_)
        obtain ⟨rfl, i_x17, eq17⟩ := hq
        refine lv_if_eq (tgt := 38) hx hb dX12_swapsWith_18 (by decide) (fun c18 => ?_) (fun c18 => ?_)
        · skip
          have i18_x17 : iv_R 0 0 x17 := (i_x17.cutHi (n := 0) (iv_eq_r c18 q_0).2)
          refine iv_iinc hx hb i14_x1 (lo := 1) (hi := 20) (by decide) dX12_swapsWith_38 hl (k := 0) rfl (by decide) (fun x20 ls e_x20 i_x20 hl => ?_)
          have hl : lv_has ls 3 [(2, .int x20), (0, .ref h0), (1, .int x_0)] := hl
          refine lv_goto (tgt := 2) hx hb dX12_swapsWith_41 (by decide) ?_
          exact ih_2 _ _ hB x20 (i_x20.wk (by decide)) (iv_mup (c := 1) i_x1 (by decide) (by decide) (by omega) hn_2) _ (lv_sub hl [0, 1, 2] rfl)
        · skip
          have i20_x17 : iv_R 1 1 x17 := iv_ne_lo c18 i_x17 q_0 (by decide)
          refine lv_aload_n hx hb dX12_swapsWith_21 rfl (lv_at hl 1 rfl) ?_
          refine lv_iload_n hx hb dX12_swapsWith_22 rfl (lv_at hl 0 rfl) ?_
          refine lv_iconst (v := 0) hx hb dX12_swapsWith_23 (by decide) ?_
          refine iv_cVi X k_good k_mf_X12_ofChild k_im_X12_ofChild k_sel_X12_ofChild k_ml_X12_335 ft_X12 hB a_h0 sh_12 (As := [.int x1, .int 0]) (c_X12_ofChild l D tys base G h0 g_h0 r_h0 a_h0 x1 i14_x1 0 (q_0.wk (by decide))) ⟨rfl, rfl⟩ ⟨Nat.le_of_ble_eq_true rfl, Nat.le_of_ble_eq_true rfl⟩ ⟨Nat.le_of_ble_eq_true rfl, Nat.le_of_ble_eq_true rfl⟩ rfl rfl hl.1 (Nat.le_of_ble_eq_true rfl) dX12_swapsWith_24 (fun x22 G9 H locs hq hB => ?_)
          obtain ⟨rfl, i_x22⟩ := hq
          refine lv_aload_n hx hb dX12_swapsWith_27 rfl (lv_at hl 1 rfl) ?_
          refine iv_getr X ft_X12 hB a_h0 sh_12 28 (by decide) rfl k_fl_X12_47 dX12_swapsWith_28 (fun b23 g_b23 r_b23 e_b23 a_b23 => ?_)
          refine lv_iload_n hx hb dX12_swapsWith_31 rfl (lv_at hl 2 rfl) ?_
          refine iv_ald X hB a_b23 sh_71 (iv_in i_x_0 (by decide)) dX12_swapsWith_32 (fun x24 e_x24 i_x24 => ?_)
          refine lv_icmp_ne (tgt := 38) hx hb dX12_swapsWith_33 (by decide) (fun c25 => ?_) (fun c25 => ?_)
          · skip
            refine iv_iinc hx hb i14_x1 (lo := 1) (hi := 20) (by decide) dX12_swapsWith_38 hl (k := 0) rfl (by decide) (fun x26 ls e_x26 i_x26 hl => ?_)
            have hl : lv_has ls 3 [(2, .int x26), (0, .ref h0), (1, .int x_0)] := hl
            refine lv_goto (tgt := 2) hx hb dX12_swapsWith_41 (by decide) ?_
            exact ih_2 _ _ hB x26 (i_x26.wk (by decide)) (iv_mup (c := 1) i_x1 (by decide) (by decide) (by omega) hn_2) _ (lv_sub hl [0, 1, 2] rfl)
          · skip
            refine lv_iload_n hx hb dX12_swapsWith_36 rfl (lv_at hl 0 rfl) ?_
            exact iv_iret X hr hlocks hB ⟨rfl, (i14_x1.wk (by decide)), fun _ => ⟨Classical.byContradiction (fun h => c18 (eq17.mpr h)), (by have w1 : ¬ x3.toInt ≤ x1.toInt := fun h => c4 (Int32.le_iff_toInt_le.mpr h); have w2 : x3 = gw 4 := (by rw [e_x3, iv_samew hw e_b2 a_b2]; rfl); rw [w2] at w1; omega)⟩, fun h => absurd h (by have := i14_x1.1; omega)⟩ dX12_swapsWith_37
  exact L_2 _ _ _ hB 0 (q_0.wk (by decide)) (Nat.lt_succ_self _) _ (lv_sub hl [0, 1, 2] rfl)
theorem dX12_nextSwap_0 : decode cX12_nextSwap 0 = .ok (.iconst 0, 1) := by decide +kernel
theorem dX12_nextSwap_1 : decode cX12_nextSwap 1 = .ok (.istore_n 1, 1) := by decide +kernel
theorem dX12_nextSwap_2 : decode cX12_nextSwap 2 = .ok (.iload_n 1, 1) := by decide +kernel
theorem dX12_nextSwap_3 : decode cX12_nextSwap 3 = .ok (.aload_n 0, 1) := by decide +kernel
theorem dX12_nextSwap_4 : decode cX12_nextSwap 4 = .ok (.getfield 7, 3) := by decide +kernel
theorem dX12_nextSwap_7 : decode cX12_nextSwap 7 = .ok (.iconst 4, 1) := by decide +kernel
theorem dX12_nextSwap_8 : decode cX12_nextSwap 8 = .ok (.iaload, 1) := by decide +kernel
theorem dX12_nextSwap_9 : decode cX12_nextSwap 9 = .ok (.if_icmp .ge 37, 3) := by decide +kernel
theorem dX12_nextSwap_12 : decode cX12_nextSwap 12 = .ok (.aload_n 0, 1) := by decide +kernel
theorem dX12_nextSwap_13 : decode cX12_nextSwap 13 = .ok (.iload_n 1, 1) := by decide +kernel
theorem dX12_nextSwap_14 : decode cX12_nextSwap 14 = .ok (.invokevirtual 417, 3) := by decide +kernel
theorem dX12_nextSwap_17 : decode cX12_nextSwap 17 = .ok (.ifCond .eq 23, 3) := by decide +kernel
theorem dX12_nextSwap_20 : decode cX12_nextSwap 20 = .ok (.aload_n 0, 1) := by decide +kernel
theorem dX12_nextSwap_21 : decode cX12_nextSwap 21 = .ok (.iload_n 1, 1) := by decide +kernel
theorem dX12_nextSwap_22 : decode cX12_nextSwap 22 = .ok (.invokevirtual 423, 3) := by decide +kernel
theorem dX12_nextSwap_25 : decode cX12_nextSwap 25 = .ok (.iconst (-1), 1) := by decide +kernel
theorem dX12_nextSwap_26 : decode cX12_nextSwap 26 = .ok (.if_icmp .eq 14, 3) := by decide +kernel
theorem dX12_nextSwap_29 : decode cX12_nextSwap 29 = .ok (.bipush 20, 2) := by decide +kernel
theorem dX12_nextSwap_31 : decode cX12_nextSwap 31 = .ok (.iload_n 1, 1) := by decide +kernel
theorem dX12_nextSwap_32 : decode cX12_nextSwap 32 = .ok (.imul, 1) := by decide +kernel
theorem dX12_nextSwap_33 : decode cX12_nextSwap 33 = .ok (.aload_n 0, 1) := by decide +kernel
theorem dX12_nextSwap_34 : decode cX12_nextSwap 34 = .ok (.iload_n 1, 1) := by decide +kernel
theorem dX12_nextSwap_35 : decode cX12_nextSwap 35 = .ok (.invokevirtual 423, 3) := by decide +kernel
theorem dX12_nextSwap_38 : decode cX12_nextSwap 38 = .ok (.iadd, 1) := by decide +kernel
theorem dX12_nextSwap_39 : decode cX12_nextSwap 39 = .ok (.ireturn, 1) := by decide +kernel
theorem dX12_nextSwap_40 : decode cX12_nextSwap 40 = .ok (.iinc 1 1, 3) := by decide +kernel
theorem dX12_nextSwap_43 : decode cX12_nextSwap 43 = .ok (.goto (-41), 3) := by decide +kernel
theorem dX12_nextSwap_46 : decode cX12_nextSwap 46 = .ok (.iconst (-1), 1) := by decide +kernel
theorem dX12_nextSwap_47 : decode cX12_nextSwap 47 = .ok (.ireturn, 1) := by decide +kernel
set_option maxHeartbeats 4000000 in
set_option maxRecDepth 100000 in
theorem c_X12_nextSwap (l : Launch) (D : va_G) (tys : List (ClassId × FieldType)) (base : Nat) (G : iv_G) (h0 : Nat) (g_h0 : Nat → Int32) (r_h0 : Nat → Nat) (a_h0 : G h0 = some (12, g_h0, r_h0)) (gw : Nat → Int32) (rw : Nat → Nat) (hw : G (r_h0 0) = some (60, gw, rw)) (gc : Nat → Int32) (rc : Nat → Nat) (hc : G (r_h0 28) = some (71, gc, rc)) : Met l yX12_nextSwap (Cond.code yX12_nextSwap cX12_nextSwap 2 (some .int) :: iv_W0) ({ frames := 4, cells := 0, slots := 0, locals := 87 }) (iv_Pc iv_sh D classes tys base G [.ref h0]) (iv_Qi iv_sh D classes tys base (fun v G' => G = G' ∧ iv_R (-1) 399 v ∧ (v = -1 ∨ ∃ i j : Nat, i < 20 ∧ j < 20 ∧ v.toInt = 20 * (i : Int) + j ∧ iv_tk gw gc i j ∧ gc i ≠ iv_own gw i))) 0 0 (iv_A base) := by
  refine iv_head (by decide) (Nat.le_of_ble_eq_true rfl) ?_
  intro p e s m args below meth c ls X hr hlocks hname hB hl
  have X := X
  have hx := X.1.1
  have hb := X.1.2.1
  have hl : lv_has ls 2 [(0, .ref h0)] := hl
  refine lv_iconst (v := 0) hx hb dX12_nextSwap_0 (by decide) ?_
  refine lv_istore_n (lv' := [(1, .int 0), (0, .ref h0)]) hx hb dX12_nextSwap_1 rfl hl (by decide) rfl (fun ls hl => ?_)
  have L_2 : ∀ (n_2 : Nat) (H : Heap) (locs : List Loc) (hB : iv_B iv_sh D classes tys base G s.heap H locs) (x1 : Int32) (i_x1 : iv_R 0 20 x1) (hn_2 : (21 - x1.toInt).toNat < n_2) (ls : Array Slot) (hl : lv_has ls 2 [(1, .int x1), (0, .ref h0)]), W p l e ({ frames := 4, cells := 0, slots := 0, locals := 87 } : Room) s m args below meth c H locs 0 0 (MQ below (iv_Qi iv_sh D classes tys base (fun v G' => G = G' ∧ iv_R (-1) 399 v ∧ (v = -1 ∨ ∃ i j : Nat, i < 20 ∧ j < 20 ∧ v.toInt = 20 * (i : Int) + j ∧ iv_tk gw gc i j ∧ gc i ≠ iv_own gw i))) args s 0 0 (iv_A base)) (F0 m 2 ls []) := by
    intro n_2
    induction n_2 with
    | zero => intro H locs hB x1 i_x1 hn_2 ls hl; exact absurd hn_2 (Nat.not_lt_zero _)
    | succ n_2 ih_2 =>
      intro H locs hB x1 i_x1 hn_2 ls hl
      refine lv_iload_n hx hb dX12_nextSwap_2 rfl (lv_at hl 0 rfl) ?_
      refine lv_aload_n hx hb dX12_nextSwap_3 rfl (lv_at hl 1 rfl) ?_
      refine iv_getr X ft_X12 hB a_h0 sh_12 0 (by decide) rfl k_fl_X12_7 dX12_nextSwap_4 (fun b2 g_b2 r_b2 e_b2 a_b2 => ?_)
      refine lv_iconst (v := 4) hx hb dX12_nextSwap_7 (by decide) ?_
      refine iv_wald_c X hB a_b2 q_4 (by decide) (lo := 0) (hi' := 20) (by decide) dX12_nextSwap_8 (fun x3 e_x3 i_x3 => ?_)
      refine lv_icmp_ge (tgt := 46) hx hb dX12_nextSwap_9 (by decide) (fun c4 => ?_) (fun c4 => ?_)
      · skip
        refine lv_iconst (v := (-1)) hx hb dX12_nextSwap_46 (by decide) ?_
        exact iv_iret X hr hlocks hB ⟨rfl, (q_n1.wk (by decide)), Or.inl rfl⟩ dX12_nextSwap_47
      · skip
        have i4_x1 : iv_R 0 19 x1 := (i_x1.cutHi (n := 19) (iv_lt_r (iv_nle c4) i_x3 (by decide)))
        have i5_x3 : iv_R 1 20 x3 := (i_x3.cutLo (n := 1) (iv_lt_l (iv_nle c4) i_x1 (by decide)))
        refine lv_aload_n hx hb dX12_nextSwap_12 rfl (lv_at hl 1 rfl) ?_
        refine lv_iload_n hx hb dX12_nextSwap_13 rfl (lv_at hl 0 rfl) ?_
        refine iv_cVi X k_good k_mf_X12_isWrong k_im_X12_isWrong k_sel_X12_isWrong k_ml_X12_417 ft_X12 hB a_h0 sh_12 (As := [.int x1]) (c_X12_isWrong l D tys base G h0 g_h0 r_h0 a_h0 x1 i4_x1 gw rw hw gc rc hc) ⟨rfl, rfl⟩ ⟨Nat.le_of_ble_eq_true rfl, Nat.le_of_ble_eq_true rfl⟩ ⟨Nat.le_of_ble_eq_true rfl, Nat.le_of_ble_eq_true rfl⟩ rfl rfl hl.1 (Nat.le_of_ble_eq_true rfl) dX12_nextSwap_14 (fun x7 G9 H locs hq hB => ?_)
        obtain ⟨rfl, i_x7, eq7⟩ := hq
        refine lv_if_eq (tgt := 40) hx hb dX12_nextSwap_17 (by decide) (fun c8 => ?_) (fun c8 => ?_)
        · skip
          have i8_x7 : iv_R 0 0 x7 := (i_x7.cutHi (n := 0) (iv_eq_r c8 q_0).2)
          refine iv_iinc hx hb i4_x1 (lo := 1) (hi := 20) (by decide) dX12_nextSwap_40 hl (k := 0) rfl (by decide) (fun x10 ls e_x10 i_x10 hl => ?_)
          have hl : lv_has ls 2 [(1, .int x10), (0, .ref h0)] := hl
          refine lv_goto (tgt := 2) hx hb dX12_nextSwap_43 (by decide) ?_
          exact ih_2 _ _ hB x10 (i_x10.wk (by decide)) (iv_mup (c := 1) i_x1 (by decide) (by decide) (by omega) hn_2) _ (lv_sub hl [0, 1] rfl)
        · skip
          have i10_x7 : iv_R 1 1 x7 := iv_ne_lo c8 i_x7 q_0 (by decide)
          refine lv_aload_n hx hb dX12_nextSwap_20 rfl (lv_at hl 1 rfl) ?_
          refine lv_iload_n hx hb dX12_nextSwap_21 rfl (lv_at hl 0 rfl) ?_
          refine iv_cVi X k_good k_mf_X12_swapsWith k_im_X12_swapsWith k_sel_X12_swapsWith k_ml_X12_423 ft_X12 hB a_h0 sh_12 (As := [.int x1]) (c_X12_swapsWith l D tys base G h0 g_h0 r_h0 a_h0 x1 i4_x1 gw rw hw gc rc hc) ⟨rfl, rfl⟩ ⟨Nat.le_of_ble_eq_true rfl, Nat.le_of_ble_eq_true rfl⟩ ⟨Nat.le_of_ble_eq_true rfl, Nat.le_of_ble_eq_true rfl⟩ rfl rfl hl.1 (Nat.le_of_ble_eq_true rfl) dX12_nextSwap_22 (fun x12 G9 H locs hq hB => ?_)
          obtain ⟨rfl, i_x12, eq12⟩ := hq
          refine lv_iconst (v := (-1)) hx hb dX12_nextSwap_25 (by decide) ?_
          refine lv_icmp_eq (tgt := 40) hx hb dX12_nextSwap_26 (by decide) (fun c13 => ?_) (fun c13 => ?_)
          · skip
            have i13_x12 : iv_R (-1) (-1) x12 := (i_x12.cutHi (n := (-1)) (iv_eq_r c13 q_n1).2)
            refine iv_iinc hx hb i4_x1 (lo := 1) (hi := 20) (by decide) dX12_nextSwap_40 hl (k := 0) rfl (by decide) (fun x15 ls e_x15 i_x15 hl => ?_)
            have hl : lv_has ls 2 [(1, .int x15), (0, .ref h0)] := hl
            refine lv_goto (tgt := 2) hx hb dX12_nextSwap_43 (by decide) ?_
            exact ih_2 _ _ hB x15 (i_x15.wk (by decide)) (iv_mup (c := 1) i_x1 (by decide) (by decide) (by omega) hn_2) _ (lv_sub hl [0, 1] rfl)
          · skip
            have i15_x12 : iv_R 0 19 x12 := iv_ne_lo c13 i_x12 q_n1 (by decide)
            refine lv_bipush (v := 20) hx hb dX12_nextSwap_29 (by decide) ?_
            refine lv_iload_n hx hb dX12_nextSwap_31 rfl (lv_at hl 0 rfl) ?_
            refine iv_imul hx hb q_20 i4_x1 (lo := 0) (hi := 380) (by decide) dX12_nextSwap_32 (fun x17 e_x17 i_x17 => ?_)
            refine lv_aload_n hx hb dX12_nextSwap_33 rfl (lv_at hl 1 rfl) ?_
            refine lv_iload_n hx hb dX12_nextSwap_34 rfl (lv_at hl 0 rfl) ?_
            refine iv_cVi X k_good k_mf_X12_swapsWith k_im_X12_swapsWith k_sel_X12_swapsWith k_ml_X12_423 ft_X12 hB a_h0 sh_12 (As := [.int x1]) (c_X12_swapsWith l D tys base G h0 g_h0 r_h0 a_h0 x1 i4_x1 gw rw hw gc rc hc) ⟨rfl, rfl⟩ ⟨Nat.le_of_ble_eq_true rfl, Nat.le_of_ble_eq_true rfl⟩ ⟨Nat.le_of_ble_eq_true rfl, Nat.le_of_ble_eq_true rfl⟩ rfl rfl hl.1 (Nat.le_of_ble_eq_true rfl) dX12_nextSwap_35 (fun x18 G9 H locs hq hB => ?_)
            obtain ⟨rfl, i_x18, eq18⟩ := hq
            have hx18 : 0 ≤ x18.toInt := Decidable.byContradiction (fun h => absurd (eq12.1 i15_x12.1).1 (eq18.2 (by omega) x12.toInt.toNat (by have := i15_x12.1; have w1 := (eq12.1 this).2; omega)))
            refine iv_iadd hx hb i_x17 i_x18 (lo := (-1)) (hi := 399) (by decide) dX12_nextSwap_38 (fun x19 e_x19 i_x19 => ?_)
            exact iv_iret X hr hlocks hB ⟨rfl, i_x19, Or.inr ⟨x1.toInt.toNat, x18.toInt.toNat, (by have := i4_x1.2; omega), (by have := i_x18.2; omega), (by have w1 : x17.toInt = 20 * x1.toInt := e_x17; have w2 : x19.toInt = x17.toInt + x18.toInt := e_x19; have w3 := i4_x1.1; omega), (eq18.1 hx18).1, fun h => c8 (eq7.mpr h)⟩⟩ dX12_nextSwap_39
  exact L_2 _ _ _ hB 0 (q_0.wk (by decide)) (Nat.lt_succ_self _) _ (lv_sub hl [0, 1] rfl)
theorem dX12_setsRight_0 : decode cX12_setsRight 0 = .ok (.iconst 0, 1) := by decide +kernel
theorem dX12_setsRight_1 : decode cX12_setsRight 1 = .ok (.istore_n 1, 1) := by decide +kernel
theorem dX12_setsRight_2 : decode cX12_setsRight 2 = .ok (.aload_n 0, 1) := by decide +kernel
theorem dX12_setsRight_3 : decode cX12_setsRight 3 = .ok (.invokevirtual 426, 3) := by decide +kernel
theorem dX12_setsRight_6 : decode cX12_setsRight 6 = .ok (.istore_n 2, 1) := by decide +kernel
theorem dX12_setsRight_7 : decode cX12_setsRight 7 = .ok (.iload_n 2, 1) := by decide +kernel
theorem dX12_setsRight_8 : decode cX12_setsRight 8 = .ok (.iconst (-1), 1) := by decide +kernel
theorem dX12_setsRight_9 : decode cX12_setsRight 9 = .ok (.if_icmp .eq 55, 3) := by decide +kernel
theorem dX12_setsRight_12 : decode cX12_setsRight 12 = .ok (.iload_n 2, 1) := by decide +kernel
theorem dX12_setsRight_13 : decode cX12_setsRight 13 = .ok (.bipush 20, 2) := by decide +kernel
theorem dX12_setsRight_15 : decode cX12_setsRight 15 = .ok (.idiv, 1) := by decide +kernel
theorem dX12_setsRight_16 : decode cX12_setsRight 16 = .ok (.istore_n 3, 1) := by decide +kernel
theorem dX12_setsRight_17 : decode cX12_setsRight 17 = .ok (.iload_n 2, 1) := by decide +kernel
theorem dX12_setsRight_18 : decode cX12_setsRight 18 = .ok (.bipush 20, 2) := by decide +kernel
theorem dX12_setsRight_20 : decode cX12_setsRight 20 = .ok (.irem, 1) := by decide +kernel
theorem dX12_setsRight_21 : decode cX12_setsRight 21 = .ok (.istore 4, 2) := by decide +kernel
theorem dX12_setsRight_23 : decode cX12_setsRight 23 = .ok (.aload_n 0, 1) := by decide +kernel
theorem dX12_setsRight_24 : decode cX12_setsRight 24 = .ok (.getfield 47, 3) := by decide +kernel
theorem dX12_setsRight_27 : decode cX12_setsRight 27 = .ok (.iload_n 3, 1) := by decide +kernel
theorem dX12_setsRight_28 : decode cX12_setsRight 28 = .ok (.iaload, 1) := by decide +kernel
theorem dX12_setsRight_29 : decode cX12_setsRight 29 = .ok (.istore 5, 2) := by decide +kernel
theorem dX12_setsRight_31 : decode cX12_setsRight 31 = .ok (.aload_n 0, 1) := by decide +kernel
theorem dX12_setsRight_32 : decode cX12_setsRight 32 = .ok (.getfield 47, 3) := by decide +kernel
theorem dX12_setsRight_35 : decode cX12_setsRight 35 = .ok (.iload_n 3, 1) := by decide +kernel
theorem dX12_setsRight_36 : decode cX12_setsRight 36 = .ok (.aload_n 0, 1) := by decide +kernel
theorem dX12_setsRight_37 : decode cX12_setsRight 37 = .ok (.getfield 47, 3) := by decide +kernel
theorem dX12_setsRight_40 : decode cX12_setsRight 40 = .ok (.iload 4, 2) := by decide +kernel
theorem dX12_setsRight_42 : decode cX12_setsRight 42 = .ok (.iaload, 1) := by decide +kernel
theorem dX12_setsRight_43 : decode cX12_setsRight 43 = .ok (.iastore, 1) := by decide +kernel
theorem dX12_setsRight_44 : decode cX12_setsRight 44 = .ok (.aload_n 0, 1) := by decide +kernel
theorem dX12_setsRight_45 : decode cX12_setsRight 45 = .ok (.getfield 47, 3) := by decide +kernel
theorem dX12_setsRight_48 : decode cX12_setsRight 48 = .ok (.iload 4, 2) := by decide +kernel
theorem dX12_setsRight_50 : decode cX12_setsRight 50 = .ok (.iload 5, 2) := by decide +kernel
theorem dX12_setsRight_52 : decode cX12_setsRight 52 = .ok (.iastore, 1) := by decide +kernel
theorem dX12_setsRight_53 : decode cX12_setsRight 53 = .ok (.iinc 1 1, 3) := by decide +kernel
theorem dX12_setsRight_56 : decode cX12_setsRight 56 = .ok (.aload_n 0, 1) := by decide +kernel
theorem dX12_setsRight_57 : decode cX12_setsRight 57 = .ok (.invokevirtual 426, 3) := by decide +kernel
theorem dX12_setsRight_60 : decode cX12_setsRight 60 = .ok (.istore_n 2, 1) := by decide +kernel
theorem dX12_setsRight_61 : decode cX12_setsRight 61 = .ok (.goto (-54), 3) := by decide +kernel
theorem dX12_setsRight_64 : decode cX12_setsRight 64 = .ok (.iload_n 1, 1) := by decide +kernel
theorem dX12_setsRight_65 : decode cX12_setsRight 65 = .ok (.ireturn, 1) := by decide +kernel
set_option maxHeartbeats 4000000 in
set_option maxRecDepth 100000 in
theorem c_X12_setsRight (l : Launch) (D : va_G) (tys : List (ClassId × FieldType)) (base : Nat) (G : iv_G) (h0 : Nat) (g_h0 : Nat → Int32) (r_h0 : Nat → Nat) (a_h0 : G h0 = some (12, g_h0, r_h0)) (gw : Nat → Int32) (rw : Nat → Nat) (hw : G (r_h0 0) = some (60, gw, rw)) (gc : Nat → Int32) (rc : Nat → Nat) (hc : G (r_h0 28) = some (71, gc, rc)) : Met l yX12_setsRight (Cond.code yX12_setsRight cX12_setsRight 6 (some .int) :: iv_W0) ({ frames := 5, cells := 0, slots := 0, locals := 108 }) (iv_Pc iv_sh D classes tys base G [.ref h0]) (iv_Qi iv_sh D classes tys base (fun v G' => iv_Md [71] G G' ∧ iv_R 0 20 v)) 0 0 (iv_A base) := by
  refine iv_head (by decide) (Nat.le_of_ble_eq_true rfl) ?_
  intro p e s m args below meth c ls X hr hlocks hname hB hl
  have X := X
  have hx := X.1.1
  have hb := X.1.2.1
  have hM : iv_Md [71] G G := iv_Md.rf
  have hl : lv_has ls 6 [(0, .ref h0)] := hl
  refine lv_iconst (v := 0) hx hb dX12_setsRight_0 (by decide) ?_
  refine lv_istore_n (lv' := [(1, .int 0), (0, .ref h0)]) hx hb dX12_setsRight_1 rfl hl (by decide) rfl (fun ls hl => ?_)
  refine lv_aload_n hx hb dX12_setsRight_2 rfl (lv_at hl 1 rfl) ?_
  refine iv_cVi X k_good k_mf_X12_nextSwap k_im_X12_nextSwap k_sel_X12_nextSwap k_ml_X12_426 ft_X12 hB a_h0 sh_12 (As := []) (c_X12_nextSwap l D tys base G h0 g_h0 r_h0 a_h0 gw rw hw gc rc hc) ⟨rfl, rfl⟩ ⟨Nat.le_of_ble_eq_true rfl, Nat.le_of_ble_eq_true rfl⟩ ⟨Nat.le_of_ble_eq_true rfl, Nat.le_of_ble_eq_true rfl⟩ rfl rfl hl.1 (Nat.le_of_ble_eq_true rfl) dX12_setsRight_3 (fun x2 G9 H locs hq hB => ?_)
  obtain ⟨rfl, i_x2, eq2⟩ := hq
  refine lv_istore_n (lv' := [(2, .int x2), (1, .int 0), (0, .ref h0)]) hx hb dX12_setsRight_6 rfl hl (by decide) rfl (fun ls hl => ?_)
  have L_7 : ∀ (n_7 : Nat) (G1 : iv_G) (hM : iv_Md [71] G G1) (H : Heap) (locs : List Loc) (hB : iv_B iv_sh D classes tys base G1 s.heap H locs) (a_h0 : G1 h0 = some (12, g_h0, r_h0)) (hw : G1 (r_h0 0) = some (60, gw, rw)) (gc : Nat → Int32) (rc : Nat → Nat) (hc : G1 (r_h0 28) = some (71, gc, rc)) (x1 : Int32) (i_x1 : iv_R 0 20 x1) (hn : x1.toInt + iv_ct gw gc 20 ≤ 20) (x3 : Int32) (i_x3 : iv_R (-1) 399 x3) (eq3 : x3 = -1 ∨ ∃ i j : Nat, i < 20 ∧ j < 20 ∧ x3.toInt = 20 * (i : Int) + j ∧ iv_tk gw gc i j ∧ gc i ≠ iv_own gw i) (hn_7 : iv_ct gw gc 20 < n_7) (ls : Array Slot) (hl : lv_has ls 6 [(2, .int x3), (1, .int x1), (0, .ref h0)]), W p l e ({ frames := 5, cells := 0, slots := 0, locals := 108 } : Room) s m args below meth c H locs 0 0 (MQ below (iv_Qi iv_sh D classes tys base (fun v G' => iv_Md [71] G G' ∧ iv_R 0 20 v)) args s 0 0 (iv_A base)) (F0 m 7 ls []) := by
    intro n_7
    induction n_7 with
    | zero => intro G1 hM H locs hB a_h0 hw gc rc hc x1 i_x1 hn x3 i_x3 eq3 hn_7; exact absurd hn_7 (Nat.not_lt_zero _)
    | succ n_7 ih_7 =>
      intro G1 hM H locs hB a_h0 hw gc rc hc x1 i_x1 hn x3 i_x3 eq3 hn_7 ls hl
      refine lv_iload_n hx hb dX12_setsRight_7 rfl (lv_at hl 0 rfl) ?_
      refine lv_iconst (v := (-1)) hx hb dX12_setsRight_8 (by decide) ?_
      refine lv_icmp_eq (tgt := 64) hx hb dX12_setsRight_9 (by decide) (fun c4 => ?_) (fun c4 => ?_)
      · refine lv_iload_n hx hb dX12_setsRight_64 rfl (lv_at hl 1 rfl) ?_
        exact iv_iret X hr hlocks hB ⟨hM, i_x1⟩ dX12_setsRight_65
      · obtain ⟨i, j, hi, hj, hv, tk, hne⟩ := eq3.resolve_left c4
        have i3 : iv_R 0 399 x3 := ⟨by omega, i_x3.2⟩
        refine lv_iload_n hx hb dX12_setsRight_12 rfl (lv_at hl 0 rfl) ?_
        refine lv_bipush (v := 20) hx hb dX12_setsRight_13 (by decide) ?_
        refine iv_idivp hx hb i3 q_20 (lo := 0) (hi := 19) (by decide) dX12_setsRight_15 (fun x5 e_x5 i_x5 => ?_)
        have hi5 : x5.toInt = i := by
          have w1 : x5.toInt = x3.toInt.tdiv 20 := e_x5
          rw [Int.tdiv_eq_ediv_of_nonneg i3.1] at w1
          omega
        refine lv_istore_n (lv' := [(3, .int x5), (2, .int x3), (1, .int x1), (0, .ref h0)]) hx hb dX12_setsRight_16 rfl hl (by decide) rfl (fun ls hl => ?_)
        refine lv_iload_n hx hb dX12_setsRight_17 rfl (lv_at hl 1 rfl) ?_
        refine lv_bipush (v := 20) hx hb dX12_setsRight_18 (by decide) ?_
        refine iv_iremp hx hb i3 q_20 (lo := 0) (hi := 19) (by decide) dX12_setsRight_20 (fun x6 e_x6 i_x6 => ?_)
        have hj6 : x6.toInt = j := by
          have w1 : x6.toInt = x3.toInt.tmod 20 := e_x6
          rw [Int.tmod_eq_emod_of_nonneg i3.1] at w1
          omega
        refine lv_istore (lv' := [(4, .int x6), (3, .int x5), (2, .int x3), (1, .int x1), (0, .ref h0)]) hx hb dX12_setsRight_21 hl (by decide) rfl (fun ls hl => ?_)
        refine lv_aload_n hx hb dX12_setsRight_23 rfl (lv_at hl 4 rfl) ?_
        refine iv_getr X ft_X12 hB a_h0 sh_12 28 (by decide) rfl k_fl_X12_47 dX12_setsRight_24 (fun b7 g_b7 r_b7 e_b7 a_b7 => ?_)
        refine lv_iload_n hx hb dX12_setsRight_27 rfl (lv_at hl 1 rfl) ?_
        refine iv_ald X hB a_b7 sh_71 (iv_in i_x5 (by decide)) dX12_setsRight_28 (fun x8 e_x8 i_x8 => ?_)
        refine lv_istore (lv' := [(5, .int x8), (4, .int x6), (3, .int x5), (2, .int x3), (1, .int x1), (0, .ref h0)]) hx hb dX12_setsRight_29 hl (by decide) rfl (fun ls hl => ?_)
        refine lv_aload_n hx hb dX12_setsRight_31 rfl (lv_at hl 5 rfl) ?_
        refine iv_getr0 X ft_X12 hB a_h0 sh_12 28 (by decide) rfl k_fl_X12_47 dX12_setsRight_32 e_b7 ?_
        refine lv_iload_n hx hb dX12_setsRight_35 rfl (lv_at hl 2 rfl) ?_
        refine lv_aload_n hx hb dX12_setsRight_36 rfl (lv_at hl 5 rfl) ?_
        refine iv_getr0 X ft_X12 hB a_h0 sh_12 28 (by decide) rfl k_fl_X12_47 dX12_setsRight_37 e_b7 ?_
        refine lv_iload hx hb dX12_setsRight_40 (lv_at hl 1 rfl) ?_
        refine iv_ald X hB a_b7 sh_71 (iv_in i_x6 (by decide)) dX12_setsRight_42 (fun x9 e_x9 i_x9 => ?_)
        refine iv_ast X hB a_b7 sh_71 (iv_in i_x5 (by decide)) i_x9 dX12_setsRight_43 (fun H locs hB => ?_)
        have hm := iv_Md.ast (j := x5.toNatClampNeg) (x := x9) a_b7 rfl (by decide)
        have h9 := iv_up_eq (G := G1) (a := b7) (k := (71, upd g_b7 x5.toNatClampNeg x9, r_b7))
        generalize iv_up G1 b7 _ = G5 at hB hm h9
        have hM := hM.stp hm (by decide)
        have a_h0 := hm.at a_h0 (by decide)
        have hw := hm.at hw (by decide)
        refine lv_aload_n hx hb dX12_setsRight_44 rfl (lv_at hl 5 rfl) ?_
        refine iv_getr0 X ft_X12 hB a_h0 sh_12 28 (by decide) rfl k_fl_X12_47 dX12_setsRight_45 e_b7 ?_
        refine lv_iload hx hb dX12_setsRight_48 (lv_at hl 1 rfl) ?_
        refine lv_iload hx hb dX12_setsRight_50 (lv_at hl 0 rfl) ?_
        refine iv_ast X hB h9 sh_71 (iv_in i_x6 (by decide)) i_x8 dX12_setsRight_52 (fun H locs hB => ?_)
        have hm := iv_Md.ast (j := x6.toNatClampNeg) (x := x8) h9 rfl (by decide)
        have h9 := iv_up_eq (G := G5) (a := b7) (k := (71, upd (upd g_b7 x5.toNatClampNeg x9) x6.toNatClampNeg x8, r_b7))
        generalize iv_up G5 b7 _ = G6 at hB hm h9
        have hM := hM.stp hm (by decide)
        have a_h0 := hm.at a_h0 (by decide)
        have hw := hm.at hw (by decide)
        have hg : g_b7 = gc := iv_samew hc e_b7 a_b7
        have h5 : x5.toNatClampNeg = i := by show x5.toInt.toNat = i; omega
        have h6 : x6.toNatClampNeg = j := by show x6.toInt.toNat = j; omega
        have h8x : x8 = gc i := by rw [e_x8, hg, h5]
        have h9x : x9 = gc j := by rw [e_x9, hg, h6]
        have hct := iv_ct_sw tk hne 20
        rw [if_pos hi] at hct
        have hc : G6 (r_h0 28) = some (71, upd (upd gc i (gc j)) j (gc i), r_b7) := by
          rw [← e_b7, h9, hg, h5, h6, h8x, h9x]
        have i1 : iv_R 0 19 x1 := ⟨i_x1.1, by omega⟩
        refine iv_iinc hx hb i1 (lo := 1) (hi := 20) (by decide) dX12_setsRight_53 hl (k := 4) rfl (by decide) (fun x10 ls e_x10 i_x10 hl => ?_)
        have hl : lv_has ls 6 [(1, .int x10), (5, .int x8), (4, .int x6), (3, .int x5), (2, .int x3), (0, .ref h0)] := hl
        have w10 : x10.toInt = x1.toInt + 1 := e_x10
        refine lv_aload_n hx hb dX12_setsRight_56 rfl (lv_at hl 5 rfl) ?_
        refine iv_cVi X k_good k_mf_X12_nextSwap k_im_X12_nextSwap k_sel_X12_nextSwap k_ml_X12_426 ft_X12 hB a_h0 sh_12 (As := []) (c_X12_nextSwap l D tys base G6 h0 g_h0 r_h0 a_h0 gw rw hw _ r_b7 hc) ⟨rfl, rfl⟩ ⟨Nat.le_of_ble_eq_true rfl, Nat.le_of_ble_eq_true rfl⟩ ⟨Nat.le_of_ble_eq_true rfl, Nat.le_of_ble_eq_true rfl⟩ rfl rfl hl.1 (Nat.le_of_ble_eq_true rfl) dX12_setsRight_57 (fun x11 G9 H locs hq hB => ?_)
        obtain ⟨rfl, i_x11, eq11⟩ := hq
        refine lv_istore_n (lv' := [(2, .int x11), (1, .int x10), (5, .int x8), (4, .int x6), (3, .int x5), (0, .ref h0)]) hx hb dX12_setsRight_60 rfl hl (by decide) rfl (fun ls hl => ?_)
        refine lv_goto (tgt := 7) hx hb dX12_setsRight_61 (by decide) ?_
        exact ih_7 _ hM _ _ hB a_h0 hw _ _ hc x10 (i_x10.wk (by decide)) (by omega) x11 i_x11 eq11 (by omega) _ (lv_sub hl [0, 1, 5] rfl)
  exact L_7 _ _ hM _ _ hB a_h0 hw _ _ hc 0 (q_0.wk (by decide)) (by have := iv_ct_le gw gc 20; have w1 : (0 : Int32).toInt = 0 := rfl; omega) x2 i_x2 eq2 (Nat.lt_succ_self _) _ (lv_sub hl [0, 1, 2] rfl)
theorem iv_getc {D : va_G} {tys : List (ClassId × FieldType)} {base : Nat} {G : iv_G} {H0 H : Heap} {locs : List Loc} {a : Nat} {g : Nat → Int32} {r : Nat → Nat} (hB : iv_B iv_sh D classes tys base G H0 H locs) (ha : G a = some (12, g, r)) : ∃ (gw : Nat → Int32) (rw : Nat → Nat) (_ : G (r 0) = some (60, gw, rw)) (gc : Nat → Int32) (rc : Nat → Nat), G (r 28) = some (71, gc, rc) := by
  obtain ⟨q, h1, h2, h3⟩ := (hB.got ha).obj sh_12
  have hq : q = (RX12, TX12, 32) := Option.some.inj (h1.symm.trans ft_X12.1)
  subst hq
  obtain ⟨⟨c, g', r'⟩, h5, h6⟩ := h3 0 (by decide)
  have h6 : c = 60 := h6
  subst h6
  obtain ⟨⟨c, g2, r2⟩, h7, h8⟩ := h3 28 (by decide)
  have h8 : c = 71 := h8
  subst h8
  exact ⟨g', r', h5, g2, r2, h7⟩
theorem dX12_wrongs_0 : decode cX12_wrongs 0 = .ok (.iconst 0, 1) := by decide +kernel
theorem dX12_wrongs_1 : decode cX12_wrongs 1 = .ok (.istore_n 1, 1) := by decide +kernel
theorem dX12_wrongs_2 : decode cX12_wrongs 2 = .ok (.iconst 0, 1) := by decide +kernel
theorem dX12_wrongs_3 : decode cX12_wrongs 3 = .ok (.istore_n 2, 1) := by decide +kernel
theorem dX12_wrongs_4 : decode cX12_wrongs 4 = .ok (.iload_n 2, 1) := by decide +kernel
theorem dX12_wrongs_5 : decode cX12_wrongs 5 = .ok (.aload_n 0, 1) := by decide +kernel
theorem dX12_wrongs_6 : decode cX12_wrongs 6 = .ok (.getfield 7, 3) := by decide +kernel
theorem dX12_wrongs_9 : decode cX12_wrongs 9 = .ok (.iconst 4, 1) := by decide +kernel
theorem dX12_wrongs_10 : decode cX12_wrongs 10 = .ok (.iaload, 1) := by decide +kernel
theorem dX12_wrongs_11 : decode cX12_wrongs 11 = .ok (.if_icmp .ge 27, 3) := by decide +kernel
theorem dX12_wrongs_14 : decode cX12_wrongs 14 = .ok (.iload_n 1, 1) := by decide +kernel
theorem dX12_wrongs_15 : decode cX12_wrongs 15 = .ok (.aload_n 0, 1) := by decide +kernel
theorem dX12_wrongs_16 : decode cX12_wrongs 16 = .ok (.iload_n 2, 1) := by decide +kernel
theorem dX12_wrongs_17 : decode cX12_wrongs 17 = .ok (.invokevirtual 417, 3) := by decide +kernel
theorem dX12_wrongs_20 : decode cX12_wrongs 20 = .ok (.ifCond .eq 9, 3) := by decide +kernel
theorem dX12_wrongs_23 : decode cX12_wrongs 23 = .ok (.iconst 1, 1) := by decide +kernel
theorem dX12_wrongs_24 : decode cX12_wrongs 24 = .ok (.iload_n 2, 1) := by decide +kernel
theorem dX12_wrongs_25 : decode cX12_wrongs 25 = .ok (.ishl, 1) := by decide +kernel
theorem dX12_wrongs_26 : decode cX12_wrongs 26 = .ok (.goto 4, 3) := by decide +kernel
theorem dX12_wrongs_29 : decode cX12_wrongs 29 = .ok (.iconst 0, 1) := by decide +kernel
theorem dX12_wrongs_30 : decode cX12_wrongs 30 = .ok (.ior, 1) := by decide +kernel
theorem dX12_wrongs_31 : decode cX12_wrongs 31 = .ok (.istore_n 1, 1) := by decide +kernel
theorem dX12_wrongs_32 : decode cX12_wrongs 32 = .ok (.iinc 2 1, 3) := by decide +kernel
theorem dX12_wrongs_35 : decode cX12_wrongs 35 = .ok (.goto (-31), 3) := by decide +kernel
theorem dX12_wrongs_38 : decode cX12_wrongs 38 = .ok (.iload_n 1, 1) := by decide +kernel
theorem dX12_wrongs_39 : decode cX12_wrongs 39 = .ok (.ireturn, 1) := by decide +kernel
set_option maxHeartbeats 4000000 in
set_option maxRecDepth 100000 in
theorem c_X12_wrongs (l : Launch) (D : va_G) (tys : List (ClassId × FieldType)) (base : Nat) (G : iv_G) (h0 : Nat) (g_h0 : Nat → Int32) (r_h0 : Nat → Nat) (a_h0 : G h0 = some (12, g_h0, r_h0)) : Met l yX12_wrongs (Cond.code yX12_wrongs cX12_wrongs 3 (some .int) :: iv_W0) ({ frames := 2, cells := 0, slots := 0, locals := 43 }) (iv_Pc iv_sh D classes tys base G [.ref h0]) (iv_Qi iv_sh D classes tys base (fun v G' => G = G' ∧ iv_R 0 1048575 v)) 0 0 (iv_A base) := by
  refine iv_head (by decide) (Nat.le_of_ble_eq_true rfl) ?_
  intro p e s m args below meth c ls X hr hlocks hname hB hl
  have X := X
  have hx := X.1.1
  have hb := X.1.2.1
  have hl : lv_has ls 3 [(0, .ref h0)] := hl
  refine lv_iconst (v := 0) hx hb dX12_wrongs_0 (by decide) ?_
  refine lv_istore_n (lv' := [(1, .int 0), (0, .ref h0)]) hx hb dX12_wrongs_1 rfl hl (by decide) rfl (fun ls hl => ?_)
  refine lv_iconst (v := 0) hx hb dX12_wrongs_2 (by decide) ?_
  refine lv_istore_n (lv' := [(2, .int 0), (1, .int 0), (0, .ref h0)]) hx hb dX12_wrongs_3 rfl hl (by decide) rfl (fun ls hl => ?_)
  have L_4 : ∀ (n_4 : Nat) (H : Heap) (locs : List Loc) (hB : iv_B iv_sh D classes tys base G s.heap H locs) (x1 : Int32) (i_x1 : iv_R 0 1048575 x1) (x2 : Int32) (i_x2 : iv_R 0 20 x2) (hn_4 : (21 - x2.toInt).toNat < n_4) (ls : Array Slot) (hl : lv_has ls 3 [(2, .int x2), (1, .int x1), (0, .ref h0)]), W p l e ({ frames := 2, cells := 0, slots := 0, locals := 43 } : Room) s m args below meth c H locs 0 0 (MQ below (iv_Qi iv_sh D classes tys base (fun v G' => G = G' ∧ iv_R 0 1048575 v)) args s 0 0 (iv_A base)) (F0 m 4 ls []) := by
    intro n_4
    induction n_4 with
    | zero => intro H locs hB x1 i_x1 x2 i_x2 hn_4 ls hl; exact absurd hn_4 (Nat.not_lt_zero _)
    | succ n_4 ih_4 =>
      intro H locs hB x1 i_x1 x2 i_x2 hn_4 ls hl
      refine lv_iload_n hx hb dX12_wrongs_4 rfl (lv_at hl 0 rfl) ?_
      refine lv_aload_n hx hb dX12_wrongs_5 rfl (lv_at hl 2 rfl) ?_
      refine iv_getr X ft_X12 hB a_h0 sh_12 0 (by decide) rfl k_fl_X12_7 dX12_wrongs_6 (fun b3 g_b3 r_b3 e_b3 a_b3 => ?_)
      refine lv_iconst (v := 4) hx hb dX12_wrongs_9 (by decide) ?_
      refine iv_wald_c X hB a_b3 q_4 (by decide) (lo := 0) (hi' := 20) (by decide) dX12_wrongs_10 (fun x4 e_x4 i_x4 => ?_)
      refine lv_icmp_ge (tgt := 38) hx hb dX12_wrongs_11 (by decide) (fun c5 => ?_) (fun c5 => ?_)
      · skip
        refine lv_iload_n hx hb dX12_wrongs_38 rfl (lv_at hl 1 rfl) ?_
        exact iv_iret X hr hlocks hB ⟨rfl, i_x1⟩ dX12_wrongs_39
      · skip
        have i5_x2 : iv_R 0 19 x2 := (i_x2.cutHi (n := 19) (iv_lt_r (iv_nle c5) i_x4 (by decide)))
        have i6_x4 : iv_R 1 20 x4 := (i_x4.cutLo (n := 1) (iv_lt_l (iv_nle c5) i_x2 (by decide)))
        refine lv_iload_n hx hb dX12_wrongs_14 rfl (lv_at hl 1 rfl) ?_
        refine lv_aload_n hx hb dX12_wrongs_15 rfl (lv_at hl 2 rfl) ?_
        refine lv_iload_n hx hb dX12_wrongs_16 rfl (lv_at hl 0 rfl) ?_
        obtain ⟨gv1, rv1, hv1, gk1, rk1, hk1⟩ := iv_getc hB a_h0
        refine iv_cVi X k_good k_mf_X12_isWrong k_im_X12_isWrong k_sel_X12_isWrong k_ml_X12_417 ft_X12 hB a_h0 sh_12 (As := [.int x2]) (c_X12_isWrong l D tys base G h0 g_h0 r_h0 a_h0 x2 i5_x2 gv1 rv1 hv1 gk1 rk1 hk1) ⟨rfl, rfl⟩ ⟨Nat.le_of_ble_eq_true rfl, Nat.le_of_ble_eq_true rfl⟩ ⟨Nat.le_of_ble_eq_true rfl, Nat.le_of_ble_eq_true rfl⟩ rfl rfl hl.1 (Nat.le_of_ble_eq_true rfl) dX12_wrongs_17 (fun x8 G9 H locs hq hB => ?_)
        obtain ⟨rfl, i_x8, _⟩ := hq
        refine lv_if_eq (tgt := 29) hx hb dX12_wrongs_20 (by decide) (fun c9 => ?_) (fun c9 => ?_)
        · skip
          have i9_x8 : iv_R 0 0 x8 := (i_x8.cutHi (n := 0) (iv_eq_r c9 q_0).2)
          refine lv_iconst (v := 0) hx hb dX12_wrongs_29 (by decide) ?_
          refine iv_ior hx hb i_x1 q_0 (k := 20) (hi := 1048575) (by decide) dX12_wrongs_30 (fun x11 e_x11 i_x11 => ?_)
          refine lv_istore_n (lv' := [(1, .int x11), (2, .int x2), (0, .ref h0)]) hx hb dX12_wrongs_31 rfl hl (by decide) rfl (fun ls hl => ?_)
          refine iv_iinc hx hb i5_x2 (lo := 1) (hi := 20) (by decide) dX12_wrongs_32 hl (k := 1) rfl (by decide) (fun x12 ls e_x12 i_x12 hl => ?_)
          have hl : lv_has ls 3 [(2, .int x12), (1, .int x11), (0, .ref h0)] := hl
          refine lv_goto (tgt := 4) hx hb dX12_wrongs_35 (by decide) ?_
          exact ih_4 _ _ hB x11 i_x11 x12 (i_x12.wk (by decide)) (iv_mup (c := 1) i_x2 (by decide) (by decide) (by omega) hn_4) _ (lv_sub hl [0, 1, 2] rfl)
        · skip
          have i12_x8 : iv_R 1 1 x8 := iv_ne_lo c9 i_x8 q_0 (by decide)
          refine lv_iconst (v := 1) hx hb dX12_wrongs_23 (by decide) ?_
          refine lv_iload_n hx hb dX12_wrongs_24 rfl (lv_at hl 0 rfl) ?_
          refine iv_shl1 hx hb i5_x2 (lo := 1) (hi := 524288) (by decide) dX12_wrongs_25 (fun x14 e_x14 i_x14 => ?_)
          refine lv_goto (tgt := 30) hx hb dX12_wrongs_26 (by decide) ?_
          refine iv_ior hx hb i_x1 i_x14 (k := 20) (hi := 1048575) (by decide) dX12_wrongs_30 (fun x15 e_x15 i_x15 => ?_)
          refine lv_istore_n (lv' := [(1, .int x15), (2, .int x2), (0, .ref h0)]) hx hb dX12_wrongs_31 rfl hl (by decide) rfl (fun ls hl => ?_)
          refine iv_iinc hx hb i5_x2 (lo := 1) (hi := 20) (by decide) dX12_wrongs_32 hl (k := 1) rfl (by decide) (fun x16 ls e_x16 i_x16 hl => ?_)
          have hl : lv_has ls 3 [(2, .int x16), (1, .int x15), (0, .ref h0)] := hl
          refine lv_goto (tgt := 4) hx hb dX12_wrongs_35 (by decide) ?_
          exact ih_4 _ _ hB x15 i_x15 x16 (i_x16.wk (by decide)) (iv_mup (c := 1) i_x2 (by decide) (by decide) (by omega) hn_4) _ (lv_sub hl [0, 1, 2] rfl)
  exact L_4 _ _ _ hB 0 (q_0.wk (by decide)) 0 (q_0.wk (by decide)) (Nat.lt_succ_self _) _ (lv_sub hl [0, 1, 2] rfl)
theorem dX12_right_0 : decode cX12_right 0 = .ok (.iload_n 1, 1) := by decide +kernel
theorem dX12_right_1 : decode cX12_right 1 = .ok (.iconst 0, 1) := by decide +kernel
theorem dX12_right_2 : decode cX12_right 2 = .ok (.iconst 2, 1) := by decide +kernel
theorem dX12_right_3 : decode cX12_right 3 = .ok (.invokestatic 56, 3) := by decide +kernel
theorem dX12_right_6 : decode cX12_right 6 = .ok (.ifCond .ne 5, 3) := by decide +kernel
theorem dX12_right_9 : decode cX12_right 9 = .ok (.iconst (-1), 1) := by decide +kernel
theorem dX12_right_10 : decode cX12_right 10 = .ok (.ireturn, 1) := by decide +kernel
theorem dX12_right_11 : decode cX12_right 11 = .ok (.iconst 0, 1) := by decide +kernel
theorem dX12_right_12 : decode cX12_right 12 = .ok (.istore_n 2, 1) := by decide +kernel
theorem dX12_right_13 : decode cX12_right 13 = .ok (.iload_n 2, 1) := by decide +kernel
theorem dX12_right_14 : decode cX12_right 14 = .ok (.aload_n 0, 1) := by decide +kernel
theorem dX12_right_15 : decode cX12_right 15 = .ok (.getfield 7, 3) := by decide +kernel
theorem dX12_right_18 : decode cX12_right 18 = .ok (.iconst 4, 1) := by decide +kernel
theorem dX12_right_19 : decode cX12_right 19 = .ok (.iaload, 1) := by decide +kernel
theorem dX12_right_20 : decode cX12_right 20 = .ok (.if_icmp .ge 21, 3) := by decide +kernel
theorem dX12_right_23 : decode cX12_right 23 = .ok (.aload_n 0, 1) := by decide +kernel
theorem dX12_right_24 : decode cX12_right 24 = .ok (.getfield 47, 3) := by decide +kernel
theorem dX12_right_27 : decode cX12_right 27 = .ok (.iload_n 2, 1) := by decide +kernel
theorem dX12_right_28 : decode cX12_right 28 = .ok (.aload_n 0, 1) := by decide +kernel
theorem dX12_right_29 : decode cX12_right 29 = .ok (.iload_n 2, 1) := by decide +kernel
theorem dX12_right_30 : decode cX12_right 30 = .ok (.iconst 1, 1) := by decide +kernel
theorem dX12_right_31 : decode cX12_right 31 = .ok (.invokevirtual 335, 3) := by decide +kernel
theorem dX12_right_34 : decode cX12_right 34 = .ok (.iastore, 1) := by decide +kernel
theorem dX12_right_35 : decode cX12_right 35 = .ok (.iinc 2 1, 3) := by decide +kernel
theorem dX12_right_38 : decode cX12_right 38 = .ok (.goto (-25), 3) := by decide +kernel
theorem dX12_right_41 : decode cX12_right 41 = .ok (.iload_n 1, 1) := by decide +kernel
theorem dX12_right_42 : decode cX12_right 42 = .ok (.ifCond .ne 8, 3) := by decide +kernel
theorem dX12_right_45 : decode cX12_right 45 = .ok (.aload_n 0, 1) := by decide +kernel
theorem dX12_right_46 : decode cX12_right 46 = .ok (.invokevirtual 429, 3) := by decide +kernel
theorem dX12_right_49 : decode cX12_right 49 = .ok (.ireturn, 1) := by decide +kernel
theorem dX12_right_50 : decode cX12_right 50 = .ok (.aload_n 0, 1) := by decide +kernel
theorem dX12_right_51 : decode cX12_right 51 = .ok (.invokevirtual 432, 3) := by decide +kernel
theorem dX12_right_54 : decode cX12_right 54 = .ok (.istore_n 2, 1) := by decide +kernel
theorem dX12_right_55 : decode cX12_right 55 = .ok (.iload_n 1, 1) := by decide +kernel
theorem dX12_right_56 : decode cX12_right 56 = .ok (.iconst 1, 1) := by decide +kernel
theorem dX12_right_57 : decode cX12_right 57 = .ok (.if_icmp .ne 7, 3) := by decide +kernel
theorem dX12_right_60 : decode cX12_right 60 = .ok (.iload_n 2, 1) := by decide +kernel
theorem dX12_right_61 : decode cX12_right 61 = .ok (.goto 17, 3) := by decide +kernel
theorem dX12_right_64 : decode cX12_right 64 = .ok (.aload_n 0, 1) := by decide +kernel
theorem dX12_right_65 : decode cX12_right 65 = .ok (.getfield 7, 3) := by decide +kernel
theorem dX12_right_68 : decode cX12_right 68 = .ok (.iconst 4, 1) := by decide +kernel
theorem dX12_right_69 : decode cX12_right 69 = .ok (.iaload, 1) := by decide +kernel
theorem dX12_right_70 : decode cX12_right 70 = .ok (.aload_n 0, 1) := by decide +kernel
theorem dX12_right_71 : decode cX12_right 71 = .ok (.invokevirtual 429, 3) := by decide +kernel
theorem dX12_right_74 : decode cX12_right 74 = .ok (.invokestatic 320, 3) := by decide +kernel
theorem dX12_right_77 : decode cX12_right 77 = .ok (.isub, 1) := by decide +kernel
theorem dX12_right_78 : decode cX12_right 78 = .ok (.ireturn, 1) := by decide +kernel
set_option maxHeartbeats 4000000 in
set_option maxRecDepth 100000 in
theorem c_X12_right (l : Launch) (D : va_G) (tys : List (ClassId × FieldType)) (base : Nat) (G : iv_G) (h0 : Nat) (g_h0 : Nat → Int32) (r_h0 : Nat → Nat) (a_h0 : G h0 = some (12, g_h0, r_h0)) (x_0 : Int32) (i_x_0 : iv_R (-2147483648) 2147483647 x_0) : Met l yX12_right (Cond.code yX12_right cX12_right 3 (some .int) :: iv_W0) ({ frames := 6, cells := 0, slots := 0, locals := 133 }) (iv_Pc iv_sh D classes tys base G [.ref h0, .int x_0]) (iv_Qi iv_sh D classes tys base (fun v G' => iv_Md [71] G G' ∧ iv_R (-2147483648) 2147483647 v)) 0 0 (iv_A base) := by
  refine iv_head (by decide) (Nat.le_of_ble_eq_true rfl) ?_
  intro p e s m args below meth c ls X hr hlocks hname hB hl
  have X := X
  have hx := X.1.1
  have hb := X.1.2.1
  have hM : iv_Md [71] G G := iv_Md.rf
  have hl : lv_has ls 3 [(0, .ref h0), (1, .int x_0)] := hl
  refine lv_iload_n hx hb dX12_right_0 rfl (lv_at hl 1 rfl) ?_
  refine lv_iconst (v := 0) hx hb dX12_right_1 (by decide) ?_
  refine lv_iconst (v := 2) hx hb dX12_right_2 (by decide) ?_
  refine iv_cSi X k_good k_mf_X12_isIn k_st_X12_isIn k_ml_X12_56 hB (As := [.int x_0, .int 0, .int 2]) (c_X12_isIn l D tys base G x_0 i_x_0 0 (q_0.wk (by decide)) 2 (q_2.wk (by decide))) ⟨rfl, rfl⟩ ⟨Nat.le_of_ble_eq_true rfl, Nat.le_of_ble_eq_true rfl⟩ ⟨Nat.le_of_ble_eq_true rfl, Nat.le_of_ble_eq_true rfl⟩ rfl rfl hl.1 (Nat.le_of_ble_eq_true rfl) dX12_right_3 (fun x1 G9 H locs hq hB => ?_)
  obtain ⟨rfl, i_x1, hp2⟩ := hq
  have k3 : ¬ x1 = 0 → iv_R 0 2 x_0 := fun h => ⟨iv_max i_x_0.1 (Int.le_trans q_0.1 (hp2.1 h).1) (by decide), iv_min i_x_0.2 (Int.le_trans (hp2.1 h).2 q_2.2) (by decide)⟩
  refine lv_if_ne (tgt := 11) hx hb dX12_right_6 (by decide) (fun c4 => ?_) (fun c4 => ?_)
  · skip
    have i4_x1 : iv_R 1 1 x1 := iv_ne_lo c4 i_x1 q_0 (by decide)
    have i5_x_0 : iv_R 0 2 x_0 := ((i_x_0.cutLo (n := 0) (k3 c4).1).cutHi (n := 2) (k3 c4).2)
    refine lv_iconst (v := 0) hx hb dX12_right_11 (by decide) ?_
    refine lv_istore_n (lv' := [(2, .int 0), (0, .ref h0), (1, .int x_0)]) hx hb dX12_right_12 rfl hl (by decide) rfl (fun ls hl => ?_)
    have L_13 : ∀ (n_13 : Nat) (G8 : iv_G) (hM : iv_Md [71] G G8) (H : Heap) (locs : List Loc) (hB : iv_B iv_sh D classes tys base G8 s.heap H locs) (a_h0 : G8 h0 = some (12, g_h0, r_h0)) (x7 : Int32) (i_x7 : iv_R 0 20 x7) (hn_13 : (21 - x7.toInt).toNat < n_13) (ls : Array Slot) (hl : lv_has ls 3 [(2, .int x7), (0, .ref h0), (1, .int x_0)]), W p l e ({ frames := 6, cells := 0, slots := 0, locals := 133 } : Room) s m args below meth c H locs 0 0 (MQ below (iv_Qi iv_sh D classes tys base (fun v G' => iv_Md [71] G G' ∧ iv_R (-2147483648) 2147483647 v)) args s 0 0 (iv_A base)) (F0 m 13 ls []) := by
      intro n_13
      induction n_13 with
      | zero => intro G8 hM H locs hB a_h0 x7 i_x7 hn_13 ls hl; exact absurd hn_13 (Nat.not_lt_zero _)
      | succ n_13 ih_13 =>
        intro G8 hM H locs hB a_h0 x7 i_x7 hn_13 ls hl
        refine lv_iload_n hx hb dX12_right_13 rfl (lv_at hl 0 rfl) ?_
        refine lv_aload_n hx hb dX12_right_14 rfl (lv_at hl 1 rfl) ?_
        refine iv_getr X ft_X12 hB a_h0 sh_12 0 (by decide) rfl k_fl_X12_7 dX12_right_15 (fun b9 g_b9 r_b9 e_b9 a_b9 => ?_)
        refine lv_iconst (v := 4) hx hb dX12_right_18 (by decide) ?_
        refine iv_wald_c X hB a_b9 q_4 (by decide) (lo := 0) (hi' := 20) (by decide) dX12_right_19 (fun x10 e_x10 i_x10 => ?_)
        refine lv_icmp_ge (tgt := 41) hx hb dX12_right_20 (by decide) (fun c11 => ?_) (fun c11 => ?_)
        · skip
          refine lv_iload_n hx hb dX12_right_41 rfl (lv_at hl 2 rfl) ?_
          refine lv_if_ne (tgt := 50) hx hb dX12_right_42 (by decide) (fun c12 => ?_) (fun c12 => ?_)
          · skip
            have i12_x_0 : iv_R 1 2 x_0 := iv_ne_lo c12 i5_x_0 q_0 (by decide)
            refine lv_aload_n hx hb dX12_right_50 rfl (lv_at hl 1 rfl) ?_
            obtain ⟨gv1, rv1, hv1, gk1, rk1, hk1⟩ := iv_getc hB a_h0
            refine iv_cVi X k_good k_mf_X12_setsRight k_im_X12_setsRight k_sel_X12_setsRight k_ml_X12_432 ft_X12 hB a_h0 sh_12 (As := []) (c_X12_setsRight l D tys base G8 h0 g_h0 r_h0 a_h0 gv1 rv1 hv1 gk1 rk1 hk1) ⟨rfl, rfl⟩ ⟨Nat.le_of_ble_eq_true rfl, Nat.le_of_ble_eq_true rfl⟩ ⟨Nat.le_of_ble_eq_true rfl, Nat.le_of_ble_eq_true rfl⟩ rfl rfl hl.1 (Nat.le_of_ble_eq_true rfl) dX12_right_51 (fun x14 G9 H locs hq hB => ?_)
            obtain ⟨hm, i_x14⟩ := hq
            obtain ⟨G15, hG9⟩ : ∃ g, g = G9 := ⟨_, rfl⟩
            rw [← hG9] at hm hB
            have hM := hM.stp hm (by decide)
            have a_h0 := hm.at a_h0 (by decide)
            have a_b9 := hm.at a_b9 (by decide)
            refine lv_istore_n (lv' := [(2, .int x14), (0, .ref h0), (1, .int x_0)]) hx hb dX12_right_54 rfl hl (by decide) rfl (fun ls hl => ?_)
            refine lv_iload_n hx hb dX12_right_55 rfl (lv_at hl 2 rfl) ?_
            refine lv_iconst (v := 1) hx hb dX12_right_56 (by decide) ?_
            refine lv_icmp_ne (tgt := 64) hx hb dX12_right_57 (by decide) (fun c16 => ?_) (fun c16 => ?_)
            · skip
              have i16_x_0 : iv_R 2 2 x_0 := iv_ne_lo c16 i12_x_0 q_1 (by decide)
              refine lv_aload_n hx hb dX12_right_64 rfl (lv_at hl 1 rfl) ?_
              refine iv_getr0 X ft_X12 hB a_h0 sh_12 0 (by decide) rfl k_fl_X12_7 dX12_right_65 e_b9 ?_
              refine lv_iconst (v := 4) hx hb dX12_right_68 (by decide) ?_
              refine iv_wald_c X hB a_b9 q_4 (by decide) (lo := 0) (hi' := 20) (by decide) dX12_right_69 (fun x18 e_x18 k_x18 => ?_)
              obtain rfl : x10 = x18 := e_x10.trans e_x18.symm
              refine lv_aload_n hx hb dX12_right_70 rfl (lv_at hl 1 rfl) ?_
              refine iv_cVi X k_good k_mf_X12_wrongs k_im_X12_wrongs k_sel_X12_wrongs k_ml_X12_429 ft_X12 hB a_h0 sh_12 (As := []) (c_X12_wrongs l D tys base G15 h0 g_h0 r_h0 a_h0) ⟨rfl, rfl⟩ ⟨Nat.le_of_ble_eq_true rfl, Nat.le_of_ble_eq_true rfl⟩ ⟨Nat.le_of_ble_eq_true rfl, Nat.le_of_ble_eq_true rfl⟩ rfl rfl hl.1 (Nat.le_of_ble_eq_true rfl) dX12_right_71 (fun x19 G9 H locs hq hB => ?_)
              obtain ⟨rfl, i_x19⟩ := hq
              refine iv_cSi X k_good k_mf_X12_count k_st_X12_count k_ml_X12_320 hB (As := [.int x19]) (c_X12_count l D tys base G15 x19 (i_x19.wk (by decide))) ⟨rfl, rfl⟩ ⟨Nat.le_of_ble_eq_true rfl, Nat.le_of_ble_eq_true rfl⟩ ⟨Nat.le_of_ble_eq_true rfl, Nat.le_of_ble_eq_true rfl⟩ rfl rfl hl.1 (Nat.le_of_ble_eq_true rfl) dX12_right_74 (fun x20 G9 H locs hq hB => ?_)
              obtain ⟨rfl, i_x20⟩ := hq
              refine lv_isub hx hb dX12_right_77 ?_
              refine lv_topi (fun x21 e_x21 => ?_)
              have i_x21 := iv_R.all x21
              exact iv_iret X hr hlocks hB ⟨hM, i_x21⟩ dX12_right_78
            · skip
              have i21_x_0 : iv_R 1 1 x_0 := (i12_x_0.cutHi (n := 1) (iv_eq_r c16 q_1).2)
              refine lv_iload_n hx hb dX12_right_60 rfl (lv_at hl 0 rfl) ?_
              refine lv_goto (tgt := 78) hx hb dX12_right_61 (by decide) ?_
              exact iv_iret X hr hlocks hB ⟨hM, (i_x14.wk (by decide))⟩ dX12_right_78
          · skip
            have i22_x_0 : iv_R 0 0 x_0 := (i5_x_0.cutHi (n := 0) (iv_eq_r c12 q_0).2)
            refine lv_aload_n hx hb dX12_right_45 rfl (lv_at hl 1 rfl) ?_
            refine iv_cVi X k_good k_mf_X12_wrongs k_im_X12_wrongs k_sel_X12_wrongs k_ml_X12_429 ft_X12 hB a_h0 sh_12 (As := []) (c_X12_wrongs l D tys base G8 h0 g_h0 r_h0 a_h0) ⟨rfl, rfl⟩ ⟨Nat.le_of_ble_eq_true rfl, Nat.le_of_ble_eq_true rfl⟩ ⟨Nat.le_of_ble_eq_true rfl, Nat.le_of_ble_eq_true rfl⟩ rfl rfl hl.1 (Nat.le_of_ble_eq_true rfl) dX12_right_46 (fun x24 G9 H locs hq hB => ?_)
            obtain ⟨rfl, i_x24⟩ := hq
            exact iv_iret X hr hlocks hB ⟨hM, (i_x24.wk (by decide))⟩ dX12_right_49
        · skip
          have i24_x7 : iv_R 0 19 x7 := (i_x7.cutHi (n := 19) (iv_lt_r (iv_nle c11) i_x10 (by decide)))
          have i25_x10 : iv_R 1 20 x10 := (i_x10.cutLo (n := 1) (iv_lt_l (iv_nle c11) i_x7 (by decide)))
          refine lv_aload_n hx hb dX12_right_23 rfl (lv_at hl 1 rfl) ?_
          refine iv_getr X ft_X12 hB a_h0 sh_12 28 (by decide) rfl k_fl_X12_47 dX12_right_24 (fun b27 g_b27 r_b27 e_b27 a_b27 => ?_)
          refine lv_iload_n hx hb dX12_right_27 rfl (lv_at hl 0 rfl) ?_
          refine lv_aload_n hx hb dX12_right_28 rfl (lv_at hl 1 rfl) ?_
          refine lv_iload_n hx hb dX12_right_29 rfl (lv_at hl 0 rfl) ?_
          refine lv_iconst (v := 1) hx hb dX12_right_30 (by decide) ?_
          refine iv_cVi X k_good k_mf_X12_ofChild k_im_X12_ofChild k_sel_X12_ofChild k_ml_X12_335 ft_X12 hB a_h0 sh_12 (As := [.int x7, .int 1]) (c_X12_ofChild l D tys base G8 h0 g_h0 r_h0 a_h0 x7 i24_x7 1 (q_1.wk (by decide))) ⟨rfl, rfl⟩ ⟨Nat.le_of_ble_eq_true rfl, Nat.le_of_ble_eq_true rfl⟩ ⟨Nat.le_of_ble_eq_true rfl, Nat.le_of_ble_eq_true rfl⟩ rfl rfl hl.1 (Nat.le_of_ble_eq_true rfl) dX12_right_31 (fun x28 G9 H locs hq hB => ?_)
          obtain ⟨rfl, i_x28⟩ := hq
          refine iv_ast X hB a_b27 sh_71 (iv_in i24_x7 (by decide)) i_x28 dX12_right_34 (fun H locs hB => ?_)
          have hm := iv_Md.ast (j := x7.toNatClampNeg) (x := x28) a_b27 rfl (by decide)
          have h9 := iv_up_eq (G := G8) (a := b27) (k := (71, upd g_b27 x7.toNatClampNeg x28, r_b27))
          generalize iv_up G8 b27 _ = G29 at hB hm h9
          have hM := hM.stp hm (by decide)
          have a_h0 := hm.at a_h0 (by decide)
          have a_b9 := hm.at a_b9 (by decide)
          refine iv_iinc hx hb i24_x7 (lo := 1) (hi := 20) (by decide) dX12_right_35 hl (k := 0) rfl (by decide) (fun x31 ls e_x31 i_x31 hl => ?_)
          have hl : lv_has ls 3 [(2, .int x31), (0, .ref h0), (1, .int x_0)] := hl
          refine lv_goto (tgt := 13) hx hb dX12_right_38 (by decide) ?_
          exact ih_13 G29 hM _ _ hB a_h0 x31 (i_x31.wk (by decide)) (iv_mup (c := 1) i_x7 (by decide) (by decide) (by omega) hn_13) _ (lv_sub hl [0, 1, 2] rfl)
    exact L_13 _ G hM _ _ hB a_h0 0 (q_0.wk (by decide)) (Nat.lt_succ_self _) _ (lv_sub hl [0, 1, 2] rfl)
  · skip
    have i31_x1 : iv_R 0 0 x1 := (i_x1.cutHi (n := 0) (iv_eq_r c4 q_0).2)
    refine lv_iconst (v := (-1)) hx hb dX12_right_9 (by decide) ?_
    exact iv_iret X hr hlocks hB ⟨hM, (q_n1.wk (by decide))⟩ dX12_right_10
