/-! HOURS: the automaton's steps (r = 0) -/
theorem rq_N {k : Int} {v : Int} (h : tk_N 0 k = v) (hv : ¬ v = 1) : k = v := by
  unfold tk_N at h
  rw [if_pos (show (0 : Nat) = 0 from rfl)] at h
  split at h
  · exact h
  · split at h
    · exact h
    · omega
theorem rq_I {k : Int} (h : k ≤ 130) : tk_N 0 k = k := by
  unfold tk_N
  rw [if_pos (show (0 : Nat) = 0 from rfl)]
  split
  · rfl
  · rfl
section
variable {n : Nat} {gk gv : Nat → Int32} {i l : Nat}
theorem rq_ring (h : tk_cf 0 n (tk_k gk) (tk_k gv) i = .ring l 0) (u : (gk i).toInt = 128) (hl : l < 20) : tk_cf 0 n (tk_k gk) (tk_k gv) (i + 1) = .ring l 1 := by
  have e : tk_N 0 (tk_k gk i) = 128 := (rq_I (show (gk i).toInt ≤ 130 by omega)).trans u
  refine (tk_at.of h).trans ?_
  rw [e]
  exact if_neg (by omega)
theorem rq_many (h : tk_cf 0 n (tk_k gk) (tk_k gv) i = .ring l 0) (u : (gk i).toInt = 128) (hl : 20 ≤ l) : tk_F 0 n (tk_k gk) (tk_k gv) i 3 := by
  have e : tk_N 0 (tk_k gk i) = 128 := (rq_I (show (gk i).toInt ≤ 130 by omega)).trans u
  refine (tk_at.of h).trans ?_
  rw [e]
  exact if_pos hl
theorem rq_no (h : tk_cf 0 n (tk_k gk) (tk_k gv) i = .ring l 0) (z : ¬ (gk i).toInt = 0) (u : ¬ (gk i).toInt = 128) : tk_F 0 n (tk_k gk) (tk_k gv) i 1 := by
  refine (tk_at.of h).trans ?_
  exact (if_neg (fun q => z (rq_N q (by decide)))).trans (if_pos (fun q => u (rq_N q (by decide))))
theorem rq_fin (h : tk_cf 0 n (tk_k gk) (tk_k gv) i = .ring l 0) (z : (gk i).toInt = 0) : tk_cf 0 n (tk_k gk) (tk_k gv) (i + 1) = .fin l := by
  have e : tk_N 0 (tk_k gk i) = 0 := (rq_I (show (gk i).toInt ≤ 130 by omega)).trans z
  refine (tk_at.of h).trans ?_
  rw [e]
  rfl
theorem rq_n1 (h : tk_cf 0 n (tk_k gk) (tk_k gv) i = .ring l 1) (u : gk i = 2) (w : ¬ ((n : Int) ≤ (gv i).toInt)) : tk_cf 0 n (tk_k gk) (tk_k gv) (i + 1) = .ring l 2 := by
  have e : tk_N 0 (tk_k gk i) = 2 := (rq_I (show (gk i).toInt ≤ 130 by rw [u]; decide)).trans (by show (gk i).toInt = 2; rw [u]; rfl)
  refine (tk_at.of h).trans ?_
  rw [e]
  exact if_neg (fun q => w (by rcases q with q | q | q <;> first | exact q.2 | exact absurd q.1 (by decide)))
theorem rq_b1 (h : tk_cf 0 n (tk_k gk) (tk_k gv) i = .ring l 1) (u : gk i = 2) (w : (n : Int) ≤ (gv i).toInt) : tk_F 0 n (tk_k gk) (tk_k gv) i 2 := by
  have e : tk_N 0 (tk_k gk i) = 2 := (rq_I (show (gk i).toInt ≤ 130 by rw [u]; decide)).trans (by show (gk i).toInt = 2; rw [u]; rfl)
  refine (tk_at.of h).trans ?_
  rw [e]
  exact if_pos (by first | exact Or.inl ⟨rfl, w⟩ | exact Or.inr (Or.inl ⟨rfl, w⟩) | exact Or.inr (Or.inr ⟨rfl, w⟩))
theorem rq_x1 (h : tk_cf 0 n (tk_k gk) (tk_k gv) i = .ring l 1) (u : ¬ gk i = 2) : tk_F 0 n (tk_k gk) (tk_k gv) i 1 := by
  refine (tk_at.of h).trans ?_
  exact if_pos (fun q => u (Int32.toInt_inj.mp (rq_N q (by decide))))
theorem rq_n3 (h : tk_cf 0 n (tk_k gk) (tk_k gv) i = .ring l 3) (u : gk i = 2) (w : ¬ (23 < (gv i).toInt)) : tk_cf 0 n (tk_k gk) (tk_k gv) (i + 1) = .ring l 4 := by
  have e : tk_N 0 (tk_k gk i) = 2 := (rq_I (show (gk i).toInt ≤ 130 by rw [u]; decide)).trans (by show (gk i).toInt = 2; rw [u]; rfl)
  refine (tk_at.of h).trans ?_
  rw [e]
  exact if_neg (fun q => w (by rcases q with q | q | q <;> first | exact q.2 | exact absurd q.1 (by decide)))
theorem rq_b3 (h : tk_cf 0 n (tk_k gk) (tk_k gv) i = .ring l 3) (u : gk i = 2) (w : 23 < (gv i).toInt) : tk_F 0 n (tk_k gk) (tk_k gv) i 2 := by
  have e : tk_N 0 (tk_k gk i) = 2 := (rq_I (show (gk i).toInt ≤ 130 by rw [u]; decide)).trans (by show (gk i).toInt = 2; rw [u]; rfl)
  refine (tk_at.of h).trans ?_
  rw [e]
  exact if_pos (by first | exact Or.inl ⟨rfl, w⟩ | exact Or.inr (Or.inl ⟨rfl, w⟩) | exact Or.inr (Or.inr ⟨rfl, w⟩))
theorem rq_x3 (h : tk_cf 0 n (tk_k gk) (tk_k gv) i = .ring l 3) (u : ¬ gk i = 2) : tk_F 0 n (tk_k gk) (tk_k gv) i 1 := by
  refine (tk_at.of h).trans ?_
  exact if_pos (fun q => u (Int32.toInt_inj.mp (rq_N q (by decide))))
theorem rq_n5 (h : tk_cf 0 n (tk_k gk) (tk_k gv) i = .ring l 5) (u : gk i = 2) (w : ¬ ((gv i).toInt < 1 ∨ 24 < (gv i).toInt)) : tk_cf 0 n (tk_k gk) (tk_k gv) (i + 1) = .ring l 6 := by
  have e : tk_N 0 (tk_k gk i) = 2 := (rq_I (show (gk i).toInt ≤ 130 by rw [u]; decide)).trans (by show (gk i).toInt = 2; rw [u]; rfl)
  refine (tk_at.of h).trans ?_
  rw [e]
  exact if_neg (fun q => w (by rcases q with q | q | q <;> first | exact q.2 | exact absurd q.1 (by decide)))
theorem rq_b5 (h : tk_cf 0 n (tk_k gk) (tk_k gv) i = .ring l 5) (u : gk i = 2) (w : (gv i).toInt < 1 ∨ 24 < (gv i).toInt) : tk_F 0 n (tk_k gk) (tk_k gv) i 2 := by
  have e : tk_N 0 (tk_k gk i) = 2 := (rq_I (show (gk i).toInt ≤ 130 by rw [u]; decide)).trans (by show (gk i).toInt = 2; rw [u]; rfl)
  refine (tk_at.of h).trans ?_
  rw [e]
  exact if_pos (by first | exact Or.inl ⟨rfl, w⟩ | exact Or.inr (Or.inl ⟨rfl, w⟩) | exact Or.inr (Or.inr ⟨rfl, w⟩))
theorem rq_x5 (h : tk_cf 0 n (tk_k gk) (tk_k gv) i = .ring l 5) (u : ¬ gk i = 2) : tk_F 0 n (tk_k gk) (tk_k gv) i 1 := by
  refine (tk_at.of h).trans ?_
  exact if_pos (fun q => u (Int32.toInt_inj.mp (rq_N q (by decide))))
theorem rq_w2 (h : tk_cf 0 n (tk_k gk) (tk_k gv) i = .ring l 2) (u : (gk i).toInt = 129) : tk_cf 0 n (tk_k gk) (tk_k gv) (i + 1) = .ring l 3 := by
  have e : tk_N 0 (tk_k gk i) = 129 := (rq_I (show (gk i).toInt ≤ 130 by omega)).trans u
  refine (tk_at.of h).trans ?_
  rw [e]
  rfl
theorem rq_y2 (h : tk_cf 0 n (tk_k gk) (tk_k gv) i = .ring l 2) (u : ¬ (gk i).toInt = 129) : tk_F 0 n (tk_k gk) (tk_k gv) i 1 := by
  refine (tk_at.of h).trans ?_
  exact if_neg (fun q => u (rq_N q (by decide)))
theorem rq_w4 (h : tk_cf 0 n (tk_k gk) (tk_k gv) i = .ring l 4) (u : (gk i).toInt = 130) : tk_cf 0 n (tk_k gk) (tk_k gv) (i + 1) = .ring l 5 := by
  have e : tk_N 0 (tk_k gk i) = 130 := (rq_I (show (gk i).toInt ≤ 130 by omega)).trans u
  refine (tk_at.of h).trans ?_
  rw [e]
  rfl
theorem rq_y4 (h : tk_cf 0 n (tk_k gk) (tk_k gv) i = .ring l 4) (u : ¬ (gk i).toInt = 130) : tk_F 0 n (tk_k gk) (tk_k gv) i 1 := by
  refine (tk_at.of h).trans ?_
  exact if_neg (fun q => u (rq_N q (by decide)))
theorem rq_w6 (h : tk_cf 0 n (tk_k gk) (tk_k gv) i = .ring l 6) (u : (gk i).toInt = 59) : tk_cf 0 n (tk_k gk) (tk_k gv) (i + 1) = .ring (l + 1) 0 := by
  have e : tk_N 0 (tk_k gk i) = 59 := (rq_I (show (gk i).toInt ≤ 130 by omega)).trans u
  refine (tk_at.of h).trans ?_
  rw [e]
  rfl
theorem rq_y6 (h : tk_cf 0 n (tk_k gk) (tk_k gv) i = .ring l 6) (u : ¬ (gk i).toInt = 59) : tk_F 0 n (tk_k gk) (tk_k gv) i 1 := by
  refine (tk_at.of h).trans ?_
  exact if_neg (fun q => u (rq_N q (by decide)))
end
set_option maxHeartbeats 4000000 in
set_option maxRecDepth 100000 in
theorem a_X7_readHourLine (l : Launch) (D : va_G) (tys : List (ClassId × FieldType)) (base : Nat) (G : iv_G) (h0 : Nat) (g_h0 : Nat → Int32) (r_h0 : Nat → Nat) (a_h0 : G h0 = some (7, g_h0, r_h0)) (n_g_h0 : iv_R 0 400 (g_h0 1)) (x_0 : Int32) (i_x_0 : iv_R 0 10 x_0) (b : Nat) (gk gv gp : Nat → Int32) (N : Nat) (hN : (gk N).toInt = 0) (hN4 : N ≤ 400) (hv0 : ∀ j, j < N → gk j = 2 → 0 ≤ (gv j).toInt) (os : Int32) (nn0 : Nat) (hnn : x_0.toInt = (nn0 : Int)) (i : Nat) (RS : rs h0 b gk gv gp N i os G) (hz : ¬ (gk i).toInt = 0) (l0 : Nat) (hl0 : (g_h0 8).toInt = (l0 : Int)) (CF : tk_cf 0 nn0 (tk_k gk) (tk_k gv) i = .ring l0 0) : Met l yX7_readHourLine (Cond.code yX7_readHourLine cX7_readHourLine 6 (some .boolean) :: iv_W0) ({ frames := 2, cells := 0, slots := 0, locals := 44 }) (iv_Pc iv_sh D classes tys base G [.ref h0, .int x_0]) (iv_Qi iv_sh D classes tys base (fun v G' => (iv_Md0 [7, 21] G G' ∧ (∀ (g' : Nat → Int32) (r' : Nat → Nat), G' h0 = some (7, g', r') → iv_R 0 400 (g' 1))) ∧ iv_R 0 1 v ∧ (qs h0 b gk gv gp N os 0 nn0 (i + 1) (fun i' => tk_cf 0 nn0 (tk_k gk) (tk_k gv) i' = .ring (l0 + 1) 0) v G' ∧ (¬ v = 0 → ∀ (g' : Nat → Int32) (r' : Nat → Nat), G' h0 = some (7, g', r') → (g' 8).toInt = (l0 : Int) + 1)))) 0 0 (iv_A base) := by
  refine iv_head (by decide) (Nat.le_of_ble_eq_true rfl) ?_
  intro p e s m args below meth c ls X hr hlocks hname hB hl
  have X := X
  have hx := X.1.1
  have hb := X.1.2.1
  have hM : iv_Md0 [7, 21] G G := iv_Md0.rf
  have hl : lv_has ls 6 [(0, .ref h0), (1, .int x_0)] := hl
  obtain ⟨i1, hi1⟩ : ∃ i1, i1 = i := ⟨_, rfl⟩
  rw [← hi1] at RS hz CF
  have RS1 := RS
  have RB1 := RS1.got a_h0
  have CF1 := CF
  have hj1 : i ≤ i1 := by omega
  refine lv_aload_n hx hb dX7_readHourLine_0 rfl (lv_at hl 0 rfl) ?_
  refine iv_geti X ft_X7 hB a_h0 sh_7 2 (by decide) rfl k_fl_X7_53 dX7_readHourLine_1 (fun x1 e_x1 i_x1 => ?_)
  refine lv_sipush (v := 128) hx hb dX7_readHourLine_4 (by decide) ?_
  refine lv_icmp_ne (tgt := 25) hx hb dX7_readHourLine_7 (by decide) (fun c2 => ?_) (fun c2 => ?_)
  · skip
    refine lv_aload_n hx hb dX7_readHourLine_25 rfl (lv_at hl 0 rfl) ?_
    refine lv_sipush (v := 128) hx hb dX7_readHourLine_26 (by decide) ?_
    refine iv_cVi X k_good k_mf_X7_takes k_im_X7_takes k_sel_X7_takes k_ml_X7_105 ft_X7 hB a_h0 sh_7 (As := [.int 128]) (e_X7_takes l D tys base G h0 g_h0 r_h0 a_h0 n_g_h0 128 (q_128.wk (by decide)) b gk gv gp N hN hN4 i1 os RS1) ⟨rfl, rfl⟩ ⟨Nat.le_of_ble_eq_true rfl, Nat.le_of_ble_eq_true rfl⟩ ⟨Nat.le_of_ble_eq_true rfl, Nat.le_of_ble_eq_true rfl⟩ rfl rfl hl.1 (Nat.le_of_ble_eq_true rfl) dX7_readHourLine_29 (fun x3 G9 H locs hq hB => ?_)
    obtain ⟨hm, i_x3, eq4, vt⟩ := hq
    obtain ⟨G5, hG9⟩ : ∃ g, g = G9 := ⟨_, rfl⟩
    rw [← hG9] at hm hB vt
    have hM := hM.stp hm.weak (by decide)
    obtain ⟨g6, r7, a_h0, f_g6⟩ := hm.ex a_h0
    have n_g6 := iv_nxt hB a_h0 f_g6 n_g_h0
    refine lv_if_ne (tgt := 37) hx hb dX7_readHourLine_32 (by decide) (fun c8 => ?_) (fun c8 => ?_)
    · skip
      have i8_x3 : iv_R 1 1 x3 := iv_ne_lo c8 i_x3 q_0 (by decide)
      exact absurd (e_x1.trans (eq4 c8)) c2
    · skip
      have i9_x3 : iv_R 0 0 x3 := (i_x3.cutHi (n := 0) (iv_eq_r c8 q_0).2)
      refine lv_iconst (v := 0) hx hb dX7_readHourLine_35 (by decide) ?_
      exact iv_zret X hr hlocks hB (q_0.wk (by decide)) ⟨⟨hM, fun g9 r9 h9 => by have h8 := a_h0.symm.trans h9; cases h8; exact n_g6⟩, (q_0.wk (by decide)), (⟨⟨fun h => absurd rfl h, fun _ => ⟨i1, 1, rq_no CF1 hz (fun q => (vt.2 c8).1 (Int32.toInt_inj.mp q)), (vt.2 c8).2⟩⟩, fun h => absurd rfl h⟩)⟩ dX7_readHourLine_36
  · skip
    have i10_x1 : iv_R 128 128 x1 := ((i_x1.cutLo (n := 128) (iv_eq_r c2 q_128).1).cutHi (n := 128) (iv_eq_r c2 q_128).2)
    have hk128 : (gk i1).toInt = 128 := by have w := congrArg Int32.toInt (e_x1.trans RB1.2.1.2.1); have w1 := i10_x1.1; have w2 := i10_x1.2; omega
    refine lv_aload_n hx hb dX7_readHourLine_10 rfl (lv_at hl 0 rfl) ?_
    refine iv_geti X ft_X7 hB a_h0 sh_7 8 (by decide) rfl k_fl_X7_74 dX7_readHourLine_11 (fun x12 e_x12 i_x12 => ?_)
    refine lv_bipush (v := 20) hx hb dX7_readHourLine_14 (by decide) ?_
    refine lv_icmp_lt (tgt := 25) hx hb dX7_readHourLine_16 (by decide) (fun c13 => ?_) (fun c13 => ?_)
    · skip
      have i13_x12 : iv_R 0 19 x12 := (i_x12.cutHi (n := 19) (iv_lt_r c13 q_20 (by decide)))
      refine lv_aload_n hx hb dX7_readHourLine_25 rfl (lv_at hl 0 rfl) ?_
      refine lv_sipush (v := 128) hx hb dX7_readHourLine_26 (by decide) ?_
      refine iv_cVi X k_good k_mf_X7_takes k_im_X7_takes k_sel_X7_takes k_ml_X7_105 ft_X7 hB a_h0 sh_7 (As := [.int 128]) (e_X7_takes l D tys base G h0 g_h0 r_h0 a_h0 n_g_h0 128 (q_128.wk (by decide)) b gk gv gp N hN hN4 i1 os RS1) ⟨rfl, rfl⟩ ⟨Nat.le_of_ble_eq_true rfl, Nat.le_of_ble_eq_true rfl⟩ ⟨Nat.le_of_ble_eq_true rfl, Nat.le_of_ble_eq_true rfl⟩ rfl rfl hl.1 (Nat.le_of_ble_eq_true rfl) dX7_readHourLine_29 (fun x15 G9 H locs hq hB => ?_)
      obtain ⟨hm, i_x15, eq16, vt⟩ := hq
      obtain ⟨G17, hG9⟩ : ∃ g, g = G9 := ⟨_, rfl⟩
      rw [← hG9] at hm hB vt
      have hM := hM.stp hm.weak (by decide)
      obtain ⟨g18, r19, a_h0, f_g18⟩ := hm.ex a_h0
      have n_g18 := iv_nxt hB a_h0 f_g18 n_g_h0
      have e20 : x12 = g18 8 := e_x12.trans (f_g18.2.1 8 (show (8 : Nat) ∈ iv_stab 7 from by decide)).symm
      refine lv_if_ne (tgt := 37) hx hb dX7_readHourLine_32 (by decide) (fun c21 => ?_) (fun c21 => ?_)
      · skip
        have i21_x15 : iv_R 1 1 x15 := iv_ne_lo c21 i_x15 q_0 (by decide)
        have CF1 := rq_ring CF1 hk128 (by have w := congrArg Int32.toInt e_x12; have w2 := i13_x12.2; omega)
        have RS1 := (vt.1 c21).2.2
        have hj1 : i + 1 ≤ i1 + 1 := by omega
        obtain ⟨i1, hi1⟩ : ∃ j, j = i1 + 1 := ⟨_, rfl⟩
        rw [← hi1] at RS1 CF1 hj1
        refine lv_aload_n hx hb dX7_readHourLine_37 rfl (lv_at hl 0 rfl) ?_
        refine iv_geti X ft_X7 hB a_h0 sh_7 3 (by decide) rfl k_fl_X7_92 dX7_readHourLine_38 (fun x23 e_x23 i_x23 => ?_)
        refine lv_istore_n (lv' := [(2, .int x23), (0, .ref h0), (1, .int x_0)]) hx hb dX7_readHourLine_41 rfl hl (by decide) rfl (fun ls hl => ?_)
        refine lv_aload_n hx hb dX7_readHourLine_42 rfl (lv_at hl 1 rfl) ?_
        refine lv_iconst (v := 0) hx hb dX7_readHourLine_43 (by decide) ?_
        refine lv_iload_n hx hb dX7_readHourLine_44 rfl (lv_at hl 2 rfl) ?_
        refine lv_iconst (v := 1) hx hb dX7_readHourLine_45 (by decide) ?_
        refine iv_isub hx hb i_x_0 q_1 (lo := (-1)) (hi := 9) (by decide) dX7_readHourLine_46 (fun x24 e_x24 i_x24 => ?_)
        refine iv_cVi X k_good k_mf_X7_takesNumber k_im_X7_takesNumber k_sel_X7_takesNumber k_ml_X7_108 ft_X7 hB a_h0 sh_7 (As := [.int 0, .int x24]) (e_X7_takesNumber l D tys base G17 h0 g18 r19 a_h0 n_g18 0 (q_0.wk (by decide)) x24 (i_x24.wk (by decide)) b gk gv gp N hN hN4 i1 os RS1) ⟨rfl, rfl⟩ ⟨Nat.le_of_ble_eq_true rfl, Nat.le_of_ble_eq_true rfl⟩ ⟨Nat.le_of_ble_eq_true rfl, Nat.le_of_ble_eq_true rfl⟩ rfl rfl hl.1 (Nat.le_of_ble_eq_true rfl) dX7_readHourLine_47 (fun x25 G9 H locs hq hB => ?_)
        obtain ⟨hm, i_x25, vt⟩ := hq
        obtain ⟨G26, hG9⟩ : ∃ g, g = G9 := ⟨_, rfl⟩
        rw [← hG9] at hm hB vt
        have hM := hM.stp hm.weak (by decide)
        obtain ⟨g27, r28, a_h0, f_g27⟩ := hm.ex a_h0
        have n_g27 := iv_nxt hB a_h0 f_g27 n_g18
        have e29 : x12 = g27 8 := e20.trans (f_g27.2.1 8 (show (8 : Nat) ∈ iv_stab 7 from by decide)).symm
        refine lv_if_eq (tgt := 63) hx hb dX7_readHourLine_50 (by decide) (fun c30 => ?_) (fun c30 => ?_)
        · skip
          have i30_x25 : iv_R 0 0 x25 := (i_x25.cutHi (n := 0) (iv_eq_r c30 q_0).2)
          refine lv_iconst (v := 0) hx hb dX7_readHourLine_63 (by decide) ?_
          exact iv_zret X hr hlocks hB (q_0.wk (by decide)) ⟨⟨hM, fun g9 r9 h9 => by have h8 := a_h0.symm.trans h9; cases h8; exact n_g27⟩, (q_0.wk (by decide)), (⟨⟨fun h => absurd rfl h, fun _ => by rcases vt.2 c30 with w | w; exact ⟨i1, 1, rq_x1 CF1 w.1, w.2⟩; exact ⟨i1, 2, rq_b1 CF1 w.1 (by have w0 := hv0 i1 (RS1.lt hN (by rw [w.1]; decide)) w.1; have e0 : (0 : Int32).toInt = 0 := rfl; have e1 : x24.toInt = x_0.toInt - (1 : Int32).toInt := e_x24; have e2 : (1 : Int32).toInt = 1 := rfl; have w1 := w.2.1; omega), w.2.2⟩⟩, fun h => absurd rfl h⟩)⟩ dX7_readHourLine_64
        · skip
          have i31_x25 : iv_R 1 1 x25 := iv_ne_lo c30 i_x25 q_0 (by decide)
          have CF1 := rq_n1 CF1 (vt.1 c30).1 (by have e1 : x24.toInt = x_0.toInt - (1 : Int32).toInt := e_x24; have e2 : (1 : Int32).toInt = 1 := rfl; have w := (vt.1 c30).2.2.1; omega)
          have RS1 := (vt.1 c30).2.2.2.2
          have hj1 : i + 1 ≤ i1 + 1 := by omega
          obtain ⟨i1, hi1⟩ : ∃ j, j = i1 + 1 := ⟨_, rfl⟩
          rw [← hi1] at RS1 CF1 hj1
          refine lv_aload_n hx hb dX7_readHourLine_53 rfl (lv_at hl 1 rfl) ?_
          refine lv_sipush (v := 129) hx hb dX7_readHourLine_54 (by decide) ?_
          refine iv_cVi X k_good k_mf_X7_takes k_im_X7_takes k_sel_X7_takes k_ml_X7_105 ft_X7 hB a_h0 sh_7 (As := [.int 129]) (e_X7_takes l D tys base G26 h0 g27 r28 a_h0 n_g27 129 (q_129.wk (by decide)) b gk gv gp N hN hN4 i1 os RS1) ⟨rfl, rfl⟩ ⟨Nat.le_of_ble_eq_true rfl, Nat.le_of_ble_eq_true rfl⟩ ⟨Nat.le_of_ble_eq_true rfl, Nat.le_of_ble_eq_true rfl⟩ rfl rfl hl.1 (Nat.le_of_ble_eq_true rfl) dX7_readHourLine_57 (fun x33 G9 H locs hq hB => ?_)
          obtain ⟨hm, i_x33, eq34, vt⟩ := hq
          obtain ⟨G35, hG9⟩ : ∃ g, g = G9 := ⟨_, rfl⟩
          rw [← hG9] at hm hB vt
          have hM := hM.stp hm.weak (by decide)
          obtain ⟨g36, r37, a_h0, f_g36⟩ := hm.ex a_h0
          have n_g36 := iv_nxt hB a_h0 f_g36 n_g27
          have e38 : x12 = g36 8 := e29.trans (f_g36.2.1 8 (show (8 : Nat) ∈ iv_stab 7 from by decide)).symm
          refine lv_if_ne (tgt := 65) hx hb dX7_readHourLine_60 (by decide) (fun c39 => ?_) (fun c39 => ?_)
          · skip
            have i39_x33 : iv_R 1 1 x33 := iv_ne_lo c39 i_x33 q_0 (by decide)
            have CF1 := rq_w2 CF1 (congrArg Int32.toInt (vt.1 c39).1)
            have RS1 := (vt.1 c39).2.2
            have hj1 : i + 1 ≤ i1 + 1 := by omega
            obtain ⟨i1, hi1⟩ : ∃ j, j = i1 + 1 := ⟨_, rfl⟩
            rw [← hi1] at RS1 CF1 hj1
            refine lv_aload_n hx hb dX7_readHourLine_65 rfl (lv_at hl 1 rfl) ?_
            refine iv_geti X ft_X7 hB a_h0 sh_7 3 (by decide) rfl k_fl_X7_92 dX7_readHourLine_66 (fun x41 e_x41 i_x41 => ?_)
            refine lv_istore_n (lv' := [(3, .int x41), (2, .int x23), (0, .ref h0), (1, .int x_0)]) hx hb dX7_readHourLine_69 rfl hl (by decide) rfl (fun ls hl => ?_)
            refine lv_aload_n hx hb dX7_readHourLine_70 rfl (lv_at hl 2 rfl) ?_
            refine lv_iconst (v := 0) hx hb dX7_readHourLine_71 (by decide) ?_
            refine lv_bipush (v := 23) hx hb dX7_readHourLine_72 (by decide) ?_
            refine iv_cVi X k_good k_mf_X7_takesNumber k_im_X7_takesNumber k_sel_X7_takesNumber k_ml_X7_108 ft_X7 hB a_h0 sh_7 (As := [.int 0, .int 23]) (e_X7_takesNumber l D tys base G35 h0 g36 r37 a_h0 n_g36 0 (q_0.wk (by decide)) 23 (q_23.wk (by decide)) b gk gv gp N hN hN4 i1 os RS1) ⟨rfl, rfl⟩ ⟨Nat.le_of_ble_eq_true rfl, Nat.le_of_ble_eq_true rfl⟩ ⟨Nat.le_of_ble_eq_true rfl, Nat.le_of_ble_eq_true rfl⟩ rfl rfl hl.1 (Nat.le_of_ble_eq_true rfl) dX7_readHourLine_74 (fun x42 G9 H locs hq hB => ?_)
            obtain ⟨hm, i_x42, vt⟩ := hq
            obtain ⟨G43, hG9⟩ : ∃ g, g = G9 := ⟨_, rfl⟩
            rw [← hG9] at hm hB vt
            have hM := hM.stp hm.weak (by decide)
            obtain ⟨g44, r45, a_h0, f_g44⟩ := hm.ex a_h0
            have n_g44 := iv_nxt hB a_h0 f_g44 n_g36
            have e46 : x12 = g44 8 := e38.trans (f_g44.2.1 8 (show (8 : Nat) ∈ iv_stab 7 from by decide)).symm
            refine lv_if_eq (tgt := 90) hx hb dX7_readHourLine_77 (by decide) (fun c47 => ?_) (fun c47 => ?_)
            · skip
              have i47_x42 : iv_R 0 0 x42 := (i_x42.cutHi (n := 0) (iv_eq_r c47 q_0).2)
              refine lv_iconst (v := 0) hx hb dX7_readHourLine_90 (by decide) ?_
              exact iv_zret X hr hlocks hB (q_0.wk (by decide)) ⟨⟨hM, fun g9 r9 h9 => by have h8 := a_h0.symm.trans h9; cases h8; exact n_g44⟩, (q_0.wk (by decide)), (⟨⟨fun h => absurd rfl h, fun _ => by rcases vt.2 c47 with w | w; exact ⟨i1, 1, rq_x3 CF1 w.1, w.2⟩; exact ⟨i1, 2, rq_b3 CF1 w.1 (by have w0 := hv0 i1 (RS1.lt hN (by rw [w.1]; decide)) w.1; have e0 : (0 : Int32).toInt = 0 := rfl; have e1 : (23 : Int32).toInt = 23 := rfl; have w1 := w.2.1; omega), w.2.2⟩⟩, fun h => absurd rfl h⟩)⟩ dX7_readHourLine_91
            · skip
              have i48_x42 : iv_R 1 1 x42 := iv_ne_lo c47 i_x42 q_0 (by decide)
              have CF1 := rq_n3 CF1 (vt.1 c47).1 (by have e1 : (23 : Int32).toInt = 23 := rfl; have w := (vt.1 c47).2.2.1; omega)
              have RS1 := (vt.1 c47).2.2.2.2
              have hj1 : i + 1 ≤ i1 + 1 := by omega
              obtain ⟨i1, hi1⟩ : ∃ j, j = i1 + 1 := ⟨_, rfl⟩
              rw [← hi1] at RS1 CF1 hj1
              refine lv_aload_n hx hb dX7_readHourLine_80 rfl (lv_at hl 2 rfl) ?_
              refine lv_sipush (v := 130) hx hb dX7_readHourLine_81 (by decide) ?_
              refine iv_cVi X k_good k_mf_X7_takes k_im_X7_takes k_sel_X7_takes k_ml_X7_105 ft_X7 hB a_h0 sh_7 (As := [.int 130]) (e_X7_takes l D tys base G43 h0 g44 r45 a_h0 n_g44 130 (q_130.wk (by decide)) b gk gv gp N hN hN4 i1 os RS1) ⟨rfl, rfl⟩ ⟨Nat.le_of_ble_eq_true rfl, Nat.le_of_ble_eq_true rfl⟩ ⟨Nat.le_of_ble_eq_true rfl, Nat.le_of_ble_eq_true rfl⟩ rfl rfl hl.1 (Nat.le_of_ble_eq_true rfl) dX7_readHourLine_84 (fun x50 G9 H locs hq hB => ?_)
              obtain ⟨hm, i_x50, eq51, vt⟩ := hq
              obtain ⟨G52, hG9⟩ : ∃ g, g = G9 := ⟨_, rfl⟩
              rw [← hG9] at hm hB vt
              have hM := hM.stp hm.weak (by decide)
              obtain ⟨g53, r54, a_h0, f_g53⟩ := hm.ex a_h0
              have n_g53 := iv_nxt hB a_h0 f_g53 n_g44
              have e55 : x12 = g53 8 := e46.trans (f_g53.2.1 8 (show (8 : Nat) ∈ iv_stab 7 from by decide)).symm
              refine lv_if_ne (tgt := 92) hx hb dX7_readHourLine_87 (by decide) (fun c56 => ?_) (fun c56 => ?_)
              · skip
                have i56_x50 : iv_R 1 1 x50 := iv_ne_lo c56 i_x50 q_0 (by decide)
                have CF1 := rq_w4 CF1 (congrArg Int32.toInt (vt.1 c56).1)
                have RS1 := (vt.1 c56).2.2
                have hj1 : i + 1 ≤ i1 + 1 := by omega
                obtain ⟨i1, hi1⟩ : ∃ j, j = i1 + 1 := ⟨_, rfl⟩
                rw [← hi1] at RS1 CF1 hj1
                refine lv_aload_n hx hb dX7_readHourLine_92 rfl (lv_at hl 2 rfl) ?_
                refine iv_geti X ft_X7 hB a_h0 sh_7 3 (by decide) rfl k_fl_X7_92 dX7_readHourLine_93 (fun x58 e_x58 i_x58 => ?_)
                refine lv_istore (lv' := [(4, .int x58), (3, .int x41), (2, .int x23), (0, .ref h0), (1, .int x_0)]) hx hb dX7_readHourLine_96 hl (by decide) rfl (fun ls hl => ?_)
                refine lv_aload_n hx hb dX7_readHourLine_98 rfl (lv_at hl 3 rfl) ?_
                refine lv_iconst (v := 1) hx hb dX7_readHourLine_99 (by decide) ?_
                refine lv_bipush (v := 24) hx hb dX7_readHourLine_100 (by decide) ?_
                refine iv_cVi X k_good k_mf_X7_takesNumber k_im_X7_takesNumber k_sel_X7_takesNumber k_ml_X7_108 ft_X7 hB a_h0 sh_7 (As := [.int 1, .int 24]) (e_X7_takesNumber l D tys base G52 h0 g53 r54 a_h0 n_g53 1 (q_1.wk (by decide)) 24 (q_24.wk (by decide)) b gk gv gp N hN hN4 i1 os RS1) ⟨rfl, rfl⟩ ⟨Nat.le_of_ble_eq_true rfl, Nat.le_of_ble_eq_true rfl⟩ ⟨Nat.le_of_ble_eq_true rfl, Nat.le_of_ble_eq_true rfl⟩ rfl rfl hl.1 (Nat.le_of_ble_eq_true rfl) dX7_readHourLine_102 (fun x59 G9 H locs hq hB => ?_)
                obtain ⟨hm, i_x59, vt⟩ := hq
                obtain ⟨G60, hG9⟩ : ∃ g, g = G9 := ⟨_, rfl⟩
                rw [← hG9] at hm hB vt
                have hM := hM.stp hm.weak (by decide)
                obtain ⟨g61, r62, a_h0, f_g61⟩ := hm.ex a_h0
                have n_g61 := iv_nxt hB a_h0 f_g61 n_g53
                have e63 : x12 = g61 8 := e55.trans (f_g61.2.1 8 (show (8 : Nat) ∈ iv_stab 7 from by decide)).symm
                refine lv_if_eq (tgt := 117) hx hb dX7_readHourLine_105 (by decide) (fun c64 => ?_) (fun c64 => ?_)
                · skip
                  have i64_x59 : iv_R 0 0 x59 := (i_x59.cutHi (n := 0) (iv_eq_r c64 q_0).2)
                  refine lv_iconst (v := 0) hx hb dX7_readHourLine_117 (by decide) ?_
                  exact iv_zret X hr hlocks hB (q_0.wk (by decide)) ⟨⟨hM, fun g9 r9 h9 => by have h8 := a_h0.symm.trans h9; cases h8; exact n_g61⟩, (q_0.wk (by decide)), (⟨⟨fun h => absurd rfl h, fun _ => by rcases vt.2 c64 with w | w; exact ⟨i1, 1, rq_x5 CF1 w.1, w.2⟩; exact ⟨i1, 2, rq_b5 CF1 w.1 (w.2.1), w.2.2⟩⟩, fun h => absurd rfl h⟩)⟩ dX7_readHourLine_118
                · skip
                  have i65_x59 : iv_R 1 1 x59 := iv_ne_lo c64 i_x59 q_0 (by decide)
                  have CF1 := rq_n5 CF1 (vt.1 c64).1 (by have e1 : (1 : Int32).toInt = 1 := rfl; have e2 : (24 : Int32).toInt = 24 := rfl; have w := (vt.1 c64).2.1; have w2 := (vt.1 c64).2.2.1; omega)
                  have RS1 := (vt.1 c64).2.2.2.2
                  have hj1 : i + 1 ≤ i1 + 1 := by omega
                  obtain ⟨i1, hi1⟩ : ∃ j, j = i1 + 1 := ⟨_, rfl⟩
                  rw [← hi1] at RS1 CF1 hj1
                  refine lv_aload_n hx hb dX7_readHourLine_108 rfl (lv_at hl 3 rfl) ?_
                  refine lv_bipush (v := 59) hx hb dX7_readHourLine_109 (by decide) ?_
                  refine iv_cVi X k_good k_mf_X7_takes k_im_X7_takes k_sel_X7_takes k_ml_X7_105 ft_X7 hB a_h0 sh_7 (As := [.int 59]) (e_X7_takes l D tys base G60 h0 g61 r62 a_h0 n_g61 59 (q_59.wk (by decide)) b gk gv gp N hN hN4 i1 os RS1) ⟨rfl, rfl⟩ ⟨Nat.le_of_ble_eq_true rfl, Nat.le_of_ble_eq_true rfl⟩ ⟨Nat.le_of_ble_eq_true rfl, Nat.le_of_ble_eq_true rfl⟩ rfl rfl hl.1 (Nat.le_of_ble_eq_true rfl) dX7_readHourLine_111 (fun x67 G9 H locs hq hB => ?_)
                  obtain ⟨hm, i_x67, eq68, vt⟩ := hq
                  obtain ⟨G69, hG9⟩ : ∃ g, g = G9 := ⟨_, rfl⟩
                  rw [← hG9] at hm hB vt
                  have hM := hM.stp hm.weak (by decide)
                  obtain ⟨g70, r71, a_h0, f_g70⟩ := hm.ex a_h0
                  have n_g70 := iv_nxt hB a_h0 f_g70 n_g61
                  have e72 : x12 = g70 8 := e63.trans (f_g70.2.1 8 (show (8 : Nat) ∈ iv_stab 7 from by decide)).symm
                  refine lv_if_ne (tgt := 119) hx hb dX7_readHourLine_114 (by decide) (fun c73 => ?_) (fun c73 => ?_)
                  · skip
                    have i73_x67 : iv_R 1 1 x67 := iv_ne_lo c73 i_x67 q_0 (by decide)
                    have CF1 := rq_w6 CF1 (congrArg Int32.toInt (vt.1 c73).1)
                    have RS1 := (vt.1 c73).2.2
                    have hj1 : i + 1 ≤ i1 + 1 := by omega
                    obtain ⟨i1, hi1⟩ : ∃ j, j = i1 + 1 := ⟨_, rfl⟩
                    rw [← hi1] at RS1 CF1 hj1
                    refine lv_iconst (v := 0) hx hb dX7_readHourLine_119 (by decide) ?_
                    refine lv_istore (lv' := [(5, .int 0), (4, .int x58), (3, .int x41), (2, .int x23), (0, .ref h0), (1, .int x_0)]) hx hb dX7_readHourLine_120 hl (by decide) rfl (fun ls hl => ?_)
                    have L_122 : ∀ (n_122 : Nat) (G78 : iv_G) (hM : iv_Md0 [7, 21] G G78) (H : Heap) (locs : List Loc) (hB : iv_B iv_sh D classes tys base G78 s.heap H locs) (g76 : Nat → Int32) (r77 : Nat → Nat) (a_h0 : G78 h0 = some (7, g76, r77)) (n_g76 : iv_R 0 400 (g76 1)) (m_g76 : iv_R 0 19 (g76 8)) (x75 : Int32) (i_x75 : iv_R 0 2147483647 x75) (hn_122 : (2147483648 - x75.toInt).toNat < n_122) (gi_122 : rs h0 b gk gv gp N i1 os G78 ∧ (g76 8).toInt = (l0 : Int)) (ls : Array Slot) (hl : lv_has ls 6 [(5, .int x75), (4, .int x58), (3, .int x41), (2, .int x23), (0, .ref h0)]), W p l e ({ frames := 2, cells := 0, slots := 0, locals := 44 } : Room) s m args below meth c H locs 0 0 (MQ below (iv_Qi iv_sh D classes tys base (fun v G' => (iv_Md0 [7, 21] G G' ∧ (∀ (g' : Nat → Int32) (r' : Nat → Nat), G' h0 = some (7, g', r') → iv_R 0 400 (g' 1))) ∧ iv_R 0 1 v ∧ (qs h0 b gk gv gp N os 0 nn0 (i + 1) (fun i' => tk_cf 0 nn0 (tk_k gk) (tk_k gv) i' = .ring (l0 + 1) 0) v G' ∧ (¬ v = 0 → ∀ (g' : Nat → Int32) (r' : Nat → Nat), G' h0 = some (7, g', r') → (g' 8).toInt = (l0 : Int) + 1)))) args s 0 0 (iv_A base)) (F0 m 122 ls []) := by
                      intro n_122
                      induction n_122 with
                      | zero => intro G78 hM H locs hB g76 r77 a_h0 n_g76 m_g76 x75 i_x75 hn_122 gi_122 ls hl; exact absurd hn_122 (Nat.not_lt_zero _)
                      | succ n_122 ih_122 =>
                        intro G78 hM H locs hB g76 r77 a_h0 n_g76 m_g76 x75 i_x75 hn_122 gi_122 ls hl
                        have a_st7 := a_h0
                        refine lv_iload hx hb dX7_readHourLine_122 (lv_at hl 0 rfl) ?_
                        refine lv_iload hx hb dX7_readHourLine_124 (lv_at hl 1 rfl) ?_
                        refine lv_icmp_ge (tgt := 163) hx hb dX7_readHourLine_126 (by decide) (fun c79 => ?_) (fun c79 => ?_)
                        · skip
                          refine lv_aload_n hx hb dX7_readHourLine_163 rfl (lv_at hl 4 rfl) ?_
                          refine lv_dup hx hb dX7_readHourLine_164 rfl ?_
                          refine iv_geti X ft_X7 hB a_h0 sh_7 8 (by decide) rfl k_fl_X7_74 dX7_readHourLine_165 (fun x80 e_x80 i_x80 => ?_)
                          have i80_x80 : iv_R 0 19 x80 := by rw [e_x80]; exact m_g76
                          refine lv_iconst (v := 1) hx hb dX7_readHourLine_168 (by decide) ?_
                          refine iv_iadd hx hb i80_x80 q_1 (lo := 1) (hi := 20) (by decide) dX7_readHourLine_169 (fun x82 e_x82 i_x82 => ?_)
                          refine iv_puti X ft_X7 hB a_h0 sh_7 8 (by decide) rfl rfl k_fl_X7_74 rfl (i_x82.wk (by decide)) rfl rfl dX7_readHourLine_170 (fun H locs hB => ?_)
                          have hm := iv_Md0.put (x := x82) a_h0 (j := 8) (fun h => absurd rfl h)
                          have h9 := iv_up_eq (G := G78) (a := h0) (k := (7, upd g76 8 x82, r77))
                          generalize iv_up G78 h0 _ = G83 at hB hm h9
                          have hM := hM.stp hm (by decide)
                          generalize hgn_g84 : upd g76 _ _ = g84 at h9
                          have a_h0 := h9
                          have e9_g84 : x82 = g84 8 := by rw [← hgn_g84]; simp [upd]
                          have RB2 := gi_122.1.got a_st7
                          have RS2 : rs h0 b gk gv gp N i1 os G83 := ⟨gi_122.1.1, gi_122.1.2.1.md hm (by decide), _, _, a_h0, RB2.1, by rw [← hgn_g84]; exact ⟨RB2.2.1, RB2.2.2⟩⟩
                          have hl1 : (g84 8).toInt = (l0 : Int) + 1 := by rw [← e9_g84]; have w := congrArg Int32.toInt e_x80; have w2 : x82.toInt = x80.toInt + (1 : Int32).toInt := e_x82; have e1 : (1 : Int32).toInt = 1 := rfl; have w3 := gi_122.2; omega
                          have n_g84 : iv_R 0 400 (g84 1) := by rw [← hgn_g84]; exact n_g76
                          refine lv_iconst (v := 1) hx hb dX7_readHourLine_173 (by decide) ?_
                          exact iv_zret X hr hlocks hB (q_1.wk (by decide)) ⟨⟨hM, fun g9 r9 h9 => by have h8 := a_h0.symm.trans h9; cases h8; exact n_g84⟩, (q_1.wk (by decide)), (⟨⟨fun _ => ⟨i1, hj1, RS2, CF1⟩, fun h => absurd h (by decide)⟩, fun _ g8 r8 h8 => by cases a_h0.symm.trans h8; exact hl1⟩)⟩ dX7_readHourLine_174
                        · skip
                          have i84_x75 : iv_R 0 2147483646 x75 := (i_x75.cutHi (n := 2147483646) (iv_lt_r (iv_nle c79) i_x58 (by decide)))
                          have i85_x58 : iv_R 1 2147483647 x58 := (i_x58.cutLo (n := 1) (iv_lt_l (iv_nle c79) i_x75 (by decide)))
                          refine lv_iload_n hx hb dX7_readHourLine_129 rfl (lv_at hl 3 rfl) ?_
                          refine lv_iconst (v := 0) hx hb dX7_readHourLine_130 (by decide) ?_
                          refine lv_bipush (v := 9) hx hb dX7_readHourLine_131 (by decide) ?_
                          refine iv_cSNi X k_good k_mf_X11_isWithin k_st_X11_isWithin (k_mn_X7_101 X.2.2) hB (As := [.int x23, .int 0, .int 9]) (c_X11_isWithin l D tys base G78 x23 i_x23 0 (q_0.wk (by decide)) 9 (q_9.wk (by decide))) ⟨rfl, rfl⟩ ⟨Nat.le_of_ble_eq_true rfl, Nat.le_of_ble_eq_true rfl⟩ ⟨Nat.le_of_ble_eq_true rfl, Nat.le_of_ble_eq_true rfl⟩ rfl rfl hl.1 (Nat.le_of_ble_eq_true rfl) dX7_readHourLine_133 (fun x87 G9 H locs hq hB => ?_)
                          obtain ⟨rfl, i_x87, hp88⟩ := hq
                          have k89 : ¬ x87 = 0 → iv_R 0 9 x23 := fun h => ⟨iv_max i_x23.1 (Int.le_trans q_0.1 (hp88.1 h).1) (by decide), iv_min i_x23.2 (Int.le_trans (hp88.1 h).2 q_9.2) (by decide)⟩
                          refine lv_if_eq (tgt := 163) hx hb dX7_readHourLine_136 (by decide) (fun c90 => ?_) (fun c90 => ?_)
                          · skip
                            have i90_x87 : iv_R 0 0 x87 := (i_x87.cutHi (n := 0) (iv_eq_r c90 q_0).2)
                            refine lv_aload_n hx hb dX7_readHourLine_163 rfl (lv_at hl 4 rfl) ?_
                            refine lv_dup hx hb dX7_readHourLine_164 rfl ?_
                            refine iv_geti X ft_X7 hB a_h0 sh_7 8 (by decide) rfl k_fl_X7_74 dX7_readHourLine_165 (fun x92 e_x92 i_x92 => ?_)
                            have i92_x92 : iv_R 0 19 x92 := by rw [e_x92]; exact m_g76
                            refine lv_iconst (v := 1) hx hb dX7_readHourLine_168 (by decide) ?_
                            refine iv_iadd hx hb i92_x92 q_1 (lo := 1) (hi := 20) (by decide) dX7_readHourLine_169 (fun x94 e_x94 i_x94 => ?_)
                            refine iv_puti X ft_X7 hB a_h0 sh_7 8 (by decide) rfl rfl k_fl_X7_74 rfl (i_x94.wk (by decide)) rfl rfl dX7_readHourLine_170 (fun H locs hB => ?_)
                            have hm := iv_Md0.put (x := x94) a_h0 (j := 8) (fun h => absurd rfl h)
                            have h9 := iv_up_eq (G := G78) (a := h0) (k := (7, upd g76 8 x94, r77))
                            generalize iv_up G78 h0 _ = G95 at hB hm h9
                            have hM := hM.stp hm (by decide)
                            generalize hgn_g96 : upd g76 _ _ = g96 at h9
                            have a_h0 := h9
                            have e9_g96 : x94 = g96 8 := by rw [← hgn_g96]; simp [upd]
                            have RB2 := gi_122.1.got a_st7
                            have RS2 : rs h0 b gk gv gp N i1 os G95 := ⟨gi_122.1.1, gi_122.1.2.1.md hm (by decide), _, _, a_h0, RB2.1, by rw [← hgn_g96]; exact ⟨RB2.2.1, RB2.2.2⟩⟩
                            have hl1 : (g96 8).toInt = (l0 : Int) + 1 := by rw [← e9_g96]; have w := congrArg Int32.toInt e_x92; have w2 : x94.toInt = x92.toInt + (1 : Int32).toInt := e_x94; have e1 : (1 : Int32).toInt = 1 := rfl; have w3 := gi_122.2; omega
                            have n_g96 : iv_R 0 400 (g96 1) := by rw [← hgn_g96]; exact n_g76
                            refine lv_iconst (v := 1) hx hb dX7_readHourLine_173 (by decide) ?_
                            exact iv_zret X hr hlocks hB (q_1.wk (by decide)) ⟨⟨hM, fun g9 r9 h9 => by have h8 := a_h0.symm.trans h9; cases h8; exact n_g96⟩, (q_1.wk (by decide)), (⟨⟨fun _ => ⟨i1, hj1, RS2, CF1⟩, fun h => absurd h (by decide)⟩, fun _ g8 r8 h8 => by cases a_h0.symm.trans h8; exact hl1⟩)⟩ dX7_readHourLine_174
                          · skip
                            have i96_x87 : iv_R 1 1 x87 := iv_ne_lo c90 i_x87 q_0 (by decide)
                            have i97_x23 : iv_R 0 9 x23 := ((i_x23.cutLo (n := 0) (k89 c90).1).cutHi (n := 9) (k89 c90).2)
                            refine lv_aload_n hx hb dX7_readHourLine_139 rfl (lv_at hl 4 rfl) ?_
                            refine iv_getr X ft_X7 hB a_h0 sh_7 9 (by decide) rfl k_fl_X7_22 dX7_readHourLine_140 (fun b99 g_b99 r_b99 e_b99 a_b99 => ?_)
                            refine lv_iload_n hx hb dX7_readHourLine_143 rfl (lv_at hl 3 rfl) ?_
                            refine lv_dup2_11 hx hb dX7_readHourLine_144 rfl rfl ?_
                            refine iv_ald X hB a_b99 sh_21 (iv_in i97_x23 (by decide)) dX7_readHourLine_145 (fun x100 e_x100 i_x100 => ?_)
                            refine lv_iconst (v := 1) hx hb dX7_readHourLine_146 (by decide) ?_
                            refine lv_iload_n hx hb dX7_readHourLine_147 rfl (lv_at hl 2 rfl) ?_
                            refine lv_iload hx hb dX7_readHourLine_148 (lv_at hl 0 rfl) ?_
                            refine lv_iadd hx hb dX7_readHourLine_150 ?_
                            refine lv_topi (fun x101 e_x101 => ?_)
                            have i_x101 := iv_R.all x101
                            refine lv_bipush (v := 24) hx hb dX7_readHourLine_151 (by decide) ?_
                            refine iv_irem hx hb i_x101 q_24 (lo := (-23)) (hi := 23) (by decide) dX7_readHourLine_153 (fun x102 e_x102 i_x102 => ?_)
                            refine lv_ishl hx hb dX7_readHourLine_154 ?_
                            refine lv_topi (fun x103 e_x103 => ?_)
                            have i_x103 := iv_R.all x103
                            refine lv_ior hx hb dX7_readHourLine_155 ?_
                            refine lv_topi (fun x104 e_x104 => ?_)
                            have i_x104 := iv_R.all x104
                            refine iv_ast X hB a_b99 sh_21 (iv_in i97_x23 (by decide)) i_x104 dX7_readHourLine_156 (fun H locs hB => ?_)
                            have hm := iv_Md.ast (j := x23.toNatClampNeg) (x := x104) a_b99 rfl (by decide)
                            have h9 := iv_up_eq (G := G78) (a := b99) (k := (21, upd g_b99 x23.toNatClampNeg x104, r_b99))
                            generalize iv_up G78 b99 _ = G105 at hB hm h9
                            have hM := hM.stp hm.weak (by decide)
                            have a_h0 := hm.at a_h0 (by decide)
                            refine iv_iinc hx hb i84_x75 (lo := 1) (hi := 2147483647) (by decide) dX7_readHourLine_157 hl (k := 0) rfl (by decide) (fun x107 ls e_x107 i_x107 hl => ?_)
                            have hl : lv_has ls 6 [(5, .int x107), (4, .int x58), (3, .int x41), (2, .int x23), (0, .ref h0)] := hl
                            refine lv_goto (tgt := 122) hx hb dX7_readHourLine_160 (by decide) ?_
                            exact ih_122 G105 hM _ _ hB g76 r77 a_h0 n_g76 m_g76 x107 (i_x107.wk (by decide)) (iv_mup (c := 1) i_x75 (by decide) (by decide) (by omega) hn_122) ⟨⟨gi_122.1.1, gi_122.1.2.1.md hm (by decide), _, _, a_h0, gi_122.1.got a_st7⟩, gi_122.2⟩ _ (lv_sub hl [0, 1, 2, 3, 4] rfl)
                    exact L_122 _ G69 hM _ _ hB g70 r71 a_h0 n_g70 (by rw [← e72]; exact i13_x12) 0 (q_0.wk (by decide)) (Nat.lt_succ_self _) ⟨RS1, by have w := congrArg Int32.toInt e72; have w2 := congrArg Int32.toInt e_x12; omega⟩ _ (lv_sub hl [0, 1, 2, 3, 4] rfl)
                  · skip
                    have i107_x67 : iv_R 0 0 x67 := (i_x67.cutHi (n := 0) (iv_eq_r c73 q_0).2)
                    refine lv_iconst (v := 0) hx hb dX7_readHourLine_117 (by decide) ?_
                    exact iv_zret X hr hlocks hB (q_0.wk (by decide)) ⟨⟨hM, fun g9 r9 h9 => by have h8 := a_h0.symm.trans h9; cases h8; exact n_g70⟩, (q_0.wk (by decide)), (⟨⟨fun h => absurd rfl h, fun _ => ⟨i1, 1, rq_y6 CF1 (fun q => (vt.2 c73).1 (Int32.toInt_inj.mp q)), (vt.2 c73).2⟩⟩, fun h => absurd rfl h⟩)⟩ dX7_readHourLine_118
              · skip
                have i108_x50 : iv_R 0 0 x50 := (i_x50.cutHi (n := 0) (iv_eq_r c56 q_0).2)
                refine lv_iconst (v := 0) hx hb dX7_readHourLine_90 (by decide) ?_
                exact iv_zret X hr hlocks hB (q_0.wk (by decide)) ⟨⟨hM, fun g9 r9 h9 => by have h8 := a_h0.symm.trans h9; cases h8; exact n_g53⟩, (q_0.wk (by decide)), (⟨⟨fun h => absurd rfl h, fun _ => ⟨i1, 1, rq_y4 CF1 (fun q => (vt.2 c56).1 (Int32.toInt_inj.mp q)), (vt.2 c56).2⟩⟩, fun h => absurd rfl h⟩)⟩ dX7_readHourLine_91
          · skip
            have i109_x33 : iv_R 0 0 x33 := (i_x33.cutHi (n := 0) (iv_eq_r c39 q_0).2)
            refine lv_iconst (v := 0) hx hb dX7_readHourLine_63 (by decide) ?_
            exact iv_zret X hr hlocks hB (q_0.wk (by decide)) ⟨⟨hM, fun g9 r9 h9 => by have h8 := a_h0.symm.trans h9; cases h8; exact n_g36⟩, (q_0.wk (by decide)), (⟨⟨fun h => absurd rfl h, fun _ => ⟨i1, 1, rq_y2 CF1 (fun q => (vt.2 c39).1 (Int32.toInt_inj.mp q)), (vt.2 c39).2⟩⟩, fun h => absurd rfl h⟩)⟩ dX7_readHourLine_64
      · skip
        have i110_x15 : iv_R 0 0 x15 := (i_x15.cutHi (n := 0) (iv_eq_r c21 q_0).2)
        refine lv_iconst (v := 0) hx hb dX7_readHourLine_35 (by decide) ?_
        exact iv_zret X hr hlocks hB (q_0.wk (by decide)) ⟨⟨hM, fun g9 r9 h9 => by have h8 := a_h0.symm.trans h9; cases h8; exact n_g18⟩, (q_0.wk (by decide)), (⟨⟨fun h => absurd rfl h, fun _ => ⟨i1, 1, rq_no CF1 hz (fun q => (vt.2 c21).1 (Int32.toInt_inj.mp q)), (vt.2 c21).2⟩⟩, fun h => absurd rfl h⟩)⟩ dX7_readHourLine_36
    · skip
      have i111_x12 : iv_R 20 20 x12 := (i_x12.cutLo (n := 20) (iv_le_l (iv_nlt c13) q_20))
      refine lv_aload_n hx hb dX7_readHourLine_19 rfl (lv_at hl 0 rfl) ?_
      refine lv_iconst (v := 3) hx hb dX7_readHourLine_20 (by decide) ?_
      refine iv_cVi X k_good k_mf_X7_refuse k_im_X7_refuse k_sel_X7_refuse k_ml_X7_98 ft_X7 hB a_h0 sh_7 (As := [.int 3]) (e_X7_refuse l D tys base G h0 g_h0 r_h0 a_h0 n_g_h0 3 (q_3.wk (by decide)) gk gv gp (by rw [RB1.1]; exact RS1.2.1) i1 RB1.2.1.1) ⟨rfl, rfl⟩ ⟨Nat.le_of_ble_eq_true rfl, Nat.le_of_ble_eq_true rfl⟩ ⟨Nat.le_of_ble_eq_true rfl, Nat.le_of_ble_eq_true rfl⟩ rfl rfl hl.1 (Nat.le_of_ble_eq_true rfl) dX7_readHourLine_21 (fun x113 G9 H locs hq hB => ?_)
      obtain ⟨hm, i_x113, vf⟩ := hq
      obtain ⟨G114, hG9⟩ : ∃ g, g = G9 := ⟨_, rfl⟩
      rw [← hG9] at hm hB vf
      have hM := hM.stp hm.weak (by decide)
      obtain ⟨g115, r116, a_h0, f_g115⟩ := hm.ex a_h0
      have n_g115 := iv_nxt hB a_h0 f_g115 n_g_h0
      have e117 : x12 = g115 8 := e_x12.trans (f_g115.2.1 8 (show (8 : Nat) ∈ iv_stab 7 from by decide)).symm
      exact iv_zret X hr hlocks hB (i_x113.wk (by decide)) ⟨⟨hM, fun g9 r9 h9 => by have h8 := a_h0.symm.trans h9; cases h8; exact n_g115⟩, (i_x113.wk (by decide)), (⟨⟨fun h => absurd (iv_z i_x113) h, fun _ => ⟨i1, 3, rq_many CF1 hk128 (by have w := congrArg Int32.toInt e_x12; have w2 := Int32.le_iff_toInt_le.mp (iv_nlt c13); have e20 : (20 : Int32).toInt = 20 := rfl; omega), ⟨g115, r116, a_h0, vf _ _ a_h0⟩⟩⟩, fun h => absurd (iv_z i_x113) h⟩)⟩ dX7_readHourLine_24
