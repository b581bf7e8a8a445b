/-- behind a claim: the next token closes or goes on -/
def tk_cl (r n : Nat) (K V : Nat → Int) (i l : Nat) (st : List Nat) : Prop := tk_cf r n K V (i + 1) = tk_close i l (tk_N r (K i)) st
section
variable {r n : Nat} {gk gv : Nat → Int32} {i l b d : Nat} {st : List Nat}
theorem rl_end (hr : r = 1 ∨ r = 2) (h : tk_cf r n (tk_k gk) (tk_k gv) i = .aft l 2 d st) (u : ¬ tk_SG (gk i)) : tk_cl r n (tk_k gk) (tk_k gv) i l st := by
  have z : ∀ v : Int, ¬ v = 1 → tk_N r (tk_k gk i) = v → (gk i).toInt = v := fun v hv q => tk_N.inv hr q hv
  refine (tk_at.of h).trans ?_
  have n1 : ¬ (tk_N r (tk_k gk i) = 43 ∨ tk_N r (tk_k gk i) = 45 ∨ tk_N r (tk_k gk i) = 42) := fun q => u (by
    rcases q with q | q | q
    · exact Or.inl (z _ (by decide) q)
    · exact Or.inr (Or.inl (z _ (by decide) q))
    · exact Or.inr (Or.inr (Or.inl (z _ (by decide) q))))
  have n2 : ¬ tk_N r (tk_k gk i) = 47 := fun q => u (Or.inr (Or.inr (Or.inr (z _ (by decide) q))))
  exact (if_neg n1).trans ((if_neg n2).trans ((if_neg (show ¬ (2 : Nat) = 0 by decide)).trans (if_neg (show ¬ (2 : Nat) = 1 by decide))))
theorem rl_no (hr : r = 1 ∨ r = 2) (h : tk_cf r n (tk_k gk) (tk_k gv) i = .aft l 1 d st) (u : ¬ tk_SG (gk i)) (w : ¬ ((gk i).toInt = 60 ∨ (gk i).toInt = 61 ∨ (gk i).toInt = 62)) : tk_F r n (tk_k gk) (tk_k gv) i 1 := by
  have z : ∀ v : Int, ¬ v = 1 → tk_N r (tk_k gk i) = v → (gk i).toInt = v := fun v hv q => tk_N.inv hr q hv
  refine (tk_at.of h).trans ?_
  have n1 : ¬ (tk_N r (tk_k gk i) = 43 ∨ tk_N r (tk_k gk i) = 45 ∨ tk_N r (tk_k gk i) = 42) := fun q => u (by
    rcases q with q | q | q
    · exact Or.inl (z _ (by decide) q)
    · exact Or.inr (Or.inl (z _ (by decide) q))
    · exact Or.inr (Or.inr (Or.inl (z _ (by decide) q))))
  have n2 : ¬ tk_N r (tk_k gk i) = 47 := fun q => u (Or.inr (Or.inr (Or.inr (z _ (by decide) q))))
  have n3 : ¬ (tk_N r (tk_k gk i) = 60 ∨ tk_N r (tk_k gk i) = 61 ∨ tk_N r (tk_k gk i) = 62) := fun q => w (by
    rcases q with q | q | q
    · exact Or.inl (z _ (by decide) q)
    · exact Or.inr (Or.inl (z _ (by decide) q))
    · exact Or.inr (Or.inr (z _ (by decide) q)))
  exact (if_neg n1).trans ((if_neg n2).trans ((if_neg (by decide)).trans ((if_pos rfl).trans (if_neg n3))))
theorem rn_on (hr : r = 1 ∨ r = 2) (h : tk_at r n (tk_k gk) (tk_k gv) i (.claim l d st)) (u : (gk i).toInt = 137) (hd : d < 8) : tk_cf r n (tk_k gk) (tk_k gv) (i + 1) = .claim l (d + 1) st := by
  refine h.trans ?_
  have e : tk_N r (tk_k gk i) = 137 := (tk_N.mid hr (show 134 ≤ (gk i).toInt ∧ (gk i).toInt ≤ 142 by omega)).trans u
  rw [e]
  exact if_neg (by omega)
theorem rn_par (h : tk_at r n (tk_k gk) (tk_k gv) i (.claim l d st)) (u : (gk i).toInt = 40) (hd : d < 8) : tk_cf r n (tk_k gk) (tk_k gv) (i + 1) = .claim l (d + 1) ((d + 1) :: st) := by
  refine h.trans ?_
  have e : tk_N r (tk_k gk i) = 40 := (tk_N.lo (show (gk i).toInt < 128 by omega)).trans u
  rw [e]
  exact if_neg (by omega)
theorem rn_deep (hr : r = 1 ∨ r = 2) (h : tk_at r n (tk_k gk) (tk_k gv) i (.claim l d st)) (u : (gk i).toInt = 137 ∨ (gk i).toInt = 40) (hd : 8 ≤ d) : tk_F r n (tk_k gk) (tk_k gv) i 3 := by
  refine h.trans ?_
  rcases u with u | u
  · have e : tk_N r (tk_k gk i) = 137 := (tk_N.mid hr (show 134 ≤ (gk i).toInt ∧ (gk i).toInt ≤ 142 by omega)).trans u
    rw [e]
    exact if_pos hd
  · have e : tk_N r (tk_k gk i) = 40 := (tk_N.lo (show (gk i).toInt < 128 by omega)).trans u
    rw [e]
    exact if_pos hd
theorem rn_sum (hr : r = 1 ∨ r = 2) (h : tk_at r n (tk_k gk) (tk_k gv) i (.claim l d st)) (u : ¬ (gk i).toInt = 137) (w : ¬ (gk i).toInt = 40) : tk_at r n (tk_k gk) (tk_k gv) i (.unit l 1 d st) := by
  refine h.trans ?_
  have n1 : ¬ tk_N r (tk_k gk i) = 137 := fun q => u (tk_N.inv hr q (by decide))
  have n2 : ¬ tk_N r (tk_k gk i) = 40 := fun q => w (tk_N.inv hr q (by decide))
  exact (if_neg n1).trans (if_neg n2)
theorem rj_on (hr : r = 1 ∨ r = 2) (h : tk_cl r n (tk_k gk) (tk_k gv) i l (b :: st)) (u : (gk i).toInt = 135 ∨ (gk i).toInt = 136) : tk_cf r n (tk_k gk) (tk_k gv) (i + 1) = .claim l b (b :: st) := by
  refine h.trans ?_
  have e : tk_N r (tk_k gk i) = (gk i).toInt := tk_N.mid hr (show 134 ≤ (gk i).toInt ∧ (gk i).toInt ≤ 142 by omega)
  rw [e]
  cases st with
  | nil => exact if_pos u
  | cons c st => exact if_pos u
theorem rj_par {c : Nat} (h : tk_cl r n (tk_k gk) (tk_k gv) i l (b :: c :: st)) (u : (gk i).toInt = 41) : tk_cl r n (tk_k gk) (tk_k gv) (i + 1) l (c :: st) := by
  have e : tk_N r (tk_k gk i) = 41 := (tk_N.lo (show (gk i).toInt < 128 by omega)).trans u
  have h2 : tk_cf r n (tk_k gk) (tk_k gv) (i + 1) = .done l (c :: st) := by
    refine h.trans ?_
    rw [e]
    show (if (41 : Int) = 135 ∨ (41 : Int) = 136 then tk_Q.claim l b (b :: c :: st) else if (41 : Int) = 41 then tk_Q.done l (c :: st) else tk_Q.bad 1 i) = _
    rw [if_neg (show ¬ ((41 : Int) = 135 ∨ (41 : Int) = 136) by decide), if_pos rfl]
  exact tk_at.of h2
theorem rj_no {c : Nat} (hr : r = 1 ∨ r = 2) (h : tk_cl r n (tk_k gk) (tk_k gv) i l (b :: c :: st)) (u : ¬ ((gk i).toInt = 135 ∨ (gk i).toInt = 136)) (w : ¬ (gk i).toInt = 41) : tk_F r n (tk_k gk) (tk_k gv) i 1 := by
  refine h.trans ?_
  have n1 : ¬ (tk_N r (tk_k gk i) = 135 ∨ tk_N r (tk_k gk i) = 136) := fun q => u (by
    rcases q with q | q
    · exact Or.inl (tk_N.inv hr q (by decide))
    · exact Or.inr (tk_N.inv hr q (by decide)))
  have n2 : ¬ tk_N r (tk_k gk i) = 41 := fun q => w (tk_N.inv hr q (by decide))
  exact (if_neg n1).trans (if_neg n2)
end
set_option maxHeartbeats 4000000 in
set_option maxRecDepth 100000 in
theorem e_X7_readComparison (l : Launch) (D : va_G) (tys : List (ClassId × FieldType)) (base : Nat) (G : iv_G) (h0 : Nat) (g_h0 : Nat → Int32) (r_h0 : Nat → Nat) (a_h0 : G h0 = some (7, g_h0, r_h0)) (n_g_h0 : iv_R 0 400 (g_h0 1)) (b : Nat) (gk gv gp : Nat → Int32) (N : Nat) (hN : (gk N).toInt = 0) (hN4 : N ≤ 400) (i : Nat) (os : Int32) (RS : rs h0 b gk gv gp N i os G) (rr0 nn0 : Nat) (ho : tk_o rr0 os) (ll0 dd0 : Nat) (ss0 : List Nat) (AT : tk_at rr0 nn0 (tk_k gk) (tk_k gv) i (.unit ll0 1 dd0 ss0)) : Met l yX7_readComparison (Cond.code yX7_readComparison cX7_readComparison 2 (some .boolean) :: iv_W0) ({ frames := 3, cells := 0, slots := 0, locals := 69 }) (iv_Pc iv_sh D classes tys base G [.ref h0]) (iv_Qi iv_sh D classes tys base (fun v G' => iv_Md [7, 37, 38] G G' ∧ iv_R 0 1 v ∧ (qs h0 b gk gv gp N os rr0 nn0 (i + 1) (fun i' => tk_cl rr0 nn0 (tk_k gk) (tk_k gv) i' ll0 ss0) v G'))) 0 0 (iv_A base) := by
  refine iv_head (by decide) (Nat.le_of_ble_eq_true rfl) ?_
  intro p e s m args below meth c ls X hr hlocks hname hB hl
  have X := X
  have hx := X.1.1
  have hb := X.1.2.1
  have hM : iv_Md [7, 37, 38] G G := iv_Md.rf
  have hl : lv_has ls 2 [(0, .ref h0)] := hl
  refine lv_aload_n hx hb dX7_readComparison_0 rfl (lv_at hl 0 rfl) ?_
  refine iv_cVi X k_good k_mf_X7_readSum k_im_X7_readSum k_sel_X7_readSum k_ml_X7_112 ft_X7 hB a_h0 sh_7 (As := []) (e_X7_readSum l D tys base G h0 g_h0 r_h0 a_h0 n_g_h0 b gk gv gp N hN hN4 i os RS rr0 nn0 ho ll0 1 dd0 ss0 AT) ⟨rfl, rfl⟩ ⟨Nat.le_of_ble_eq_true rfl, Nat.le_of_ble_eq_true rfl⟩ ⟨Nat.le_of_ble_eq_true rfl, Nat.le_of_ble_eq_true rfl⟩ rfl rfl hl.1 (Nat.le_of_ble_eq_true rfl) dX7_readComparison_1 (fun x1 G9 H locs hq hB => ?_)
  obtain ⟨hm, i_x1, Q1⟩ := hq
  obtain ⟨G2, hG9⟩ : ∃ g, g = G9 := ⟨_, rfl⟩
  rw [← hG9] at hm hB Q1
  have hM := hM.stp hm (by decide)
  obtain ⟨g3, r4, a_h0, f_g3⟩ := hm.ex a_h0
  have n_g3 := iv_nxt hB a_h0 f_g3 n_g_h0
  refine lv_if_ne (tgt := 9) hx hb dX7_readComparison_4 (by decide) (fun c5 => ?_) (fun c5 => ?_)
  · skip
    have i5_x1 : iv_R 1 1 x1 := iv_ne_lo c5 i_x1 q_0 (by decide)
    obtain ⟨i1, hj1, RS1, hj2⟩ := Q1.1 c5
    have RB1 := RS1.got a_h0
    refine lv_aload_n hx hb dX7_readComparison_9 rfl (lv_at hl 0 rfl) ?_
    refine iv_geti X ft_X7 hB a_h0 sh_7 2 (by decide) rfl k_fl_X7_53 dX7_readComparison_10 (fun x7 e_x7 i_x7 => ?_)
    have hx7 : x7 = gk i1 := e_x7.trans RB1.2.1.2.1
    refine lv_istore_n (lv' := [(1, .int x7), (0, .ref h0)]) hx hb dX7_readComparison_13 rfl hl (by decide) rfl (fun ls hl => ?_)
    refine lv_iload_n hx hb dX7_readComparison_14 rfl (lv_at hl 0 rfl) ?_
    refine lv_bipush (v := 60) hx hb dX7_readComparison_15 (by decide) ?_
    refine lv_icmp_eq (tgt := 38) hx hb dX7_readComparison_17 (by decide) (fun c8 => ?_) (fun c8 => ?_)
    · skip
      have i8_x7 : iv_R 60 60 x7 := ((i_x7.cutLo (n := 60) (iv_eq_r c8 q_60).1).cutHi (n := 60) (iv_eq_r c8 q_60).2)
      have hlt1 : i1 < N := RS1.lt hN (by rw [← hx7]; have w := i8_x7.1; omega)
      have CF2 := rl_cmp hj2.1 (by rw [← hx7]; have w := i8_x7.1; have w2 := i8_x7.2; omega)
      refine lv_aload_n hx hb dX7_readComparison_38 rfl (lv_at hl 1 rfl) ?_
      refine iv_cVv X k_good k_mf_X7_step k_im_X7_step k_sel_X7_step k_ml_X7_83 ft_X7 hB a_h0 sh_7 (As := []) (e_X7_step l D tys base G2 h0 g3 r4 a_h0 gk gv gp (by rw [RB1.1]; exact RS1.2.1) (i1 + 1) (by omega) (by rw [RB1.2.1.1]; omega)) ⟨rfl, rfl⟩ ⟨Nat.le_of_ble_eq_true rfl, Nat.le_of_ble_eq_true rfl⟩ ⟨Nat.le_of_ble_eq_true rfl, Nat.le_of_ble_eq_true rfl⟩ rfl rfl hl.1 (Nat.le_of_ble_eq_true rfl) dX7_readComparison_39 (fun G9 H locs hq hB => ?_)
      obtain ⟨hm, vg, vc⟩ := hq
      obtain ⟨G10, hG9⟩ : ∃ g, g = G9 := ⟨_, rfl⟩
      rw [← hG9] at hm hB vg vc
      have hM := hM.stp hm (by decide)
      obtain ⟨g11, r12, a_h0, f_g11⟩ := hm.ex a_h0
      have n_g11 := iv_nxt hB a_h0 f_g11 n_g3
      have RS2 : rs h0 b gk gv gp N (i1 + 1) os G10 := ⟨hlt1, RS1.2.1.md hm (by decide), g11, r12, a_h0, (f_g11.1 0 (fun h => absurd (show (7 : Nat) = 5 from h) (by decide))).trans RB1.1, (vc _ _ a_h0).1, (f_g11.2.1 4 (show (4 : Nat) ∈ iv_stab 7 from by decide)).trans RB1.2.2.1, (vc _ _ a_h0).2.1.trans RB1.2.2.2.1, (vc _ _ a_h0).2.2.trans RB1.2.2.2.2⟩
      have vg13 := vg _ _ a_h0
      refine lv_aload_n hx hb dX7_readComparison_42 rfl (lv_at hl 1 rfl) ?_
      refine iv_cVi X k_good k_mf_X7_readSum k_im_X7_readSum k_sel_X7_readSum k_ml_X7_112 ft_X7 hB a_h0 sh_7 (As := []) (e_X7_readSum l D tys base G10 h0 g11 r12 a_h0 vg13 b gk gv gp N hN hN4 (i1 + 1) os RS2 rr0 nn0 ho ll0 2 dd0 ss0 (tk_at.of CF2)) ⟨rfl, rfl⟩ ⟨Nat.le_of_ble_eq_true rfl, Nat.le_of_ble_eq_true rfl⟩ ⟨Nat.le_of_ble_eq_true rfl, Nat.le_of_ble_eq_true rfl⟩ rfl rfl hl.1 (Nat.le_of_ble_eq_true rfl) dX7_readComparison_43 (fun x14 G9 H locs hq hB => ?_)
      obtain ⟨hm, i_x14, Q2⟩ := hq
      obtain ⟨G15, hG9⟩ : ∃ g, g = G9 := ⟨_, rfl⟩
      rw [← hG9] at hm hB Q2
      have hM := hM.stp hm (by decide)
      obtain ⟨g16, r17, a_h0, f_g16⟩ := hm.ex a_h0
      have n_g16 := iv_nxt hB a_h0 f_g16 vg13
      refine lv_if_ne (tgt := 51) hx hb dX7_readComparison_46 (by decide) (fun c18 => ?_) (fun c18 => ?_)
      · skip
        have i18_x14 : iv_R 1 1 x14 := iv_ne_lo c18 i_x14 q_0 (by decide)
        refine lv_aload_n hx hb dX7_readComparison_51 rfl (lv_at hl 1 rfl) ?_
        refine lv_iload_n hx hb dX7_readComparison_52 rfl (lv_at hl 0 rfl) ?_
        refine lv_iconst (v := 0) hx hb dX7_readComparison_53 (by decide) ?_
        refine iv_cVv X k_good k_mf_X7_emit k_im_X7_emit k_sel_X7_emit k_ml_X7_125 ft_X7 hB a_h0 sh_7 (As := [.int x7, .int 0]) (e_X7_emit l D tys base G15 h0 g16 r17 a_h0 x7 (i8_x7.wk (by decide)) 0 (q_0.wk (by decide))) ⟨rfl, rfl⟩ ⟨Nat.le_of_ble_eq_true rfl, Nat.le_of_ble_eq_true rfl⟩ ⟨Nat.le_of_ble_eq_true rfl, Nat.le_of_ble_eq_true rfl⟩ rfl rfl hl.1 (Nat.le_of_ble_eq_true rfl) dX7_readComparison_54 (fun G9 H locs hq hB => ?_)
        obtain ⟨hm, hk⟩ := hq
        obtain ⟨G20, hG9⟩ : ∃ g, g = G9 := ⟨_, rfl⟩
        rw [← hG9] at hm hB hk
        have hM := hM.stp hm (by decide)
        obtain ⟨g21, r22, a_h0, f_g21⟩ := hm.ex a_h0
        have n_g21 := iv_nxt hB a_h0 f_g21 n_g16
        refine lv_iconst (v := 1) hx hb dX7_readComparison_57 (by decide) ?_
        exact iv_zret X hr hlocks hB (q_1.wk (by decide)) ⟨hM, (q_1.wk (by decide)), (⟨fun _ => by obtain ⟨i', h1, h2, h3⟩ := Q2.1 c18; exact ⟨i', by omega, h2.ke hk hm (by decide), rl_end ho.two h3.1 h3.2⟩, fun h => absurd h (by decide)⟩)⟩ dX7_readComparison_58
      · skip
        have i22_x14 : iv_R 0 0 x14 := (i_x14.cutHi (n := 0) (iv_eq_r c18 q_0).2)
        refine lv_iconst (v := 0) hx hb dX7_readComparison_49 (by decide) ?_
        exact iv_zret X hr hlocks hB (q_0.wk (by decide)) ⟨hM, (q_0.wk (by decide)), (⟨fun h => absurd rfl h, fun _ => Q2.2 c18⟩)⟩ dX7_readComparison_50
    · skip
      refine lv_iload_n hx hb dX7_readComparison_20 rfl (lv_at hl 0 rfl) ?_
      refine lv_bipush (v := 61) hx hb dX7_readComparison_21 (by decide) ?_
      refine lv_icmp_eq (tgt := 38) hx hb dX7_readComparison_23 (by decide) (fun c24 => ?_) (fun c24 => ?_)
      · skip
        have i24_x7 : iv_R 61 61 x7 := ((i_x7.cutLo (n := 61) (iv_eq_r c24 q_61).1).cutHi (n := 61) (iv_eq_r c24 q_61).2)
        have hlt1 : i1 < N := RS1.lt hN (by rw [← hx7]; have w := i24_x7.1; omega)
        have CF2 := rl_cmp hj2.1 (by rw [← hx7]; have w := i24_x7.1; have w2 := i24_x7.2; omega)
        refine lv_aload_n hx hb dX7_readComparison_38 rfl (lv_at hl 1 rfl) ?_
        refine iv_cVv X k_good k_mf_X7_step k_im_X7_step k_sel_X7_step k_ml_X7_83 ft_X7 hB a_h0 sh_7 (As := []) (e_X7_step l D tys base G2 h0 g3 r4 a_h0 gk gv gp (by rw [RB1.1]; exact RS1.2.1) (i1 + 1) (by omega) (by rw [RB1.2.1.1]; omega)) ⟨rfl, rfl⟩ ⟨Nat.le_of_ble_eq_true rfl, Nat.le_of_ble_eq_true rfl⟩ ⟨Nat.le_of_ble_eq_true rfl, Nat.le_of_ble_eq_true rfl⟩ rfl rfl hl.1 (Nat.le_of_ble_eq_true rfl) dX7_readComparison_39 (fun G9 H locs hq hB => ?_)
        obtain ⟨hm, vg, vc⟩ := hq
        obtain ⟨G26, hG9⟩ : ∃ g, g = G9 := ⟨_, rfl⟩
        rw [← hG9] at hm hB vg vc
        have hM := hM.stp hm (by decide)
        obtain ⟨g27, r28, a_h0, f_g27⟩ := hm.ex a_h0
        have n_g27 := iv_nxt hB a_h0 f_g27 n_g3
        have RS2 : rs h0 b gk gv gp N (i1 + 1) os G26 := ⟨hlt1, RS1.2.1.md hm (by decide), g27, r28, a_h0, (f_g27.1 0 (fun h => absurd (show (7 : Nat) = 5 from h) (by decide))).trans RB1.1, (vc _ _ a_h0).1, (f_g27.2.1 4 (show (4 : Nat) ∈ iv_stab 7 from by decide)).trans RB1.2.2.1, (vc _ _ a_h0).2.1.trans RB1.2.2.2.1, (vc _ _ a_h0).2.2.trans RB1.2.2.2.2⟩
        have vg29 := vg _ _ a_h0
        refine lv_aload_n hx hb dX7_readComparison_42 rfl (lv_at hl 1 rfl) ?_
        refine iv_cVi X k_good k_mf_X7_readSum k_im_X7_readSum k_sel_X7_readSum k_ml_X7_112 ft_X7 hB a_h0 sh_7 (As := []) (e_X7_readSum l D tys base G26 h0 g27 r28 a_h0 vg29 b gk gv gp N hN hN4 (i1 + 1) os RS2 rr0 nn0 ho ll0 2 dd0 ss0 (tk_at.of CF2)) ⟨rfl, rfl⟩ ⟨Nat.le_of_ble_eq_true rfl, Nat.le_of_ble_eq_true rfl⟩ ⟨Nat.le_of_ble_eq_true rfl, Nat.le_of_ble_eq_true rfl⟩ rfl rfl hl.1 (Nat.le_of_ble_eq_true rfl) dX7_readComparison_43 (fun x30 G9 H locs hq hB => ?_)
        obtain ⟨hm, i_x30, Q2⟩ := hq
        obtain ⟨G31, hG9⟩ : ∃ g, g = G9 := ⟨_, rfl⟩
        rw [← hG9] at hm hB Q2
        have hM := hM.stp hm (by decide)
        obtain ⟨g32, r33, a_h0, f_g32⟩ := hm.ex a_h0
        have n_g32 := iv_nxt hB a_h0 f_g32 vg29
        refine lv_if_ne (tgt := 51) hx hb dX7_readComparison_46 (by decide) (fun c34 => ?_) (fun c34 => ?_)
        · skip
          have i34_x30 : iv_R 1 1 x30 := iv_ne_lo c34 i_x30 q_0 (by decide)
          refine lv_aload_n hx hb dX7_readComparison_51 rfl (lv_at hl 1 rfl) ?_
          refine lv_iload_n hx hb dX7_readComparison_52 rfl (lv_at hl 0 rfl) ?_
          refine lv_iconst (v := 0) hx hb dX7_readComparison_53 (by decide) ?_
          refine iv_cVv X k_good k_mf_X7_emit k_im_X7_emit k_sel_X7_emit k_ml_X7_125 ft_X7 hB a_h0 sh_7 (As := [.int x7, .int 0]) (e_X7_emit l D tys base G31 h0 g32 r33 a_h0 x7 (i24_x7.wk (by decide)) 0 (q_0.wk (by decide))) ⟨rfl, rfl⟩ ⟨Nat.le_of_ble_eq_true rfl, Nat.le_of_ble_eq_true rfl⟩ ⟨Nat.le_of_ble_eq_true rfl, Nat.le_of_ble_eq_true rfl⟩ rfl rfl hl.1 (Nat.le_of_ble_eq_true rfl) dX7_readComparison_54 (fun G9 H locs hq hB => ?_)
          obtain ⟨hm, hk⟩ := hq
          obtain ⟨G36, hG9⟩ : ∃ g, g = G9 := ⟨_, rfl⟩
          rw [← hG9] at hm hB hk
          have hM := hM.stp hm (by decide)
          obtain ⟨g37, r38, a_h0, f_g37⟩ := hm.ex a_h0
          have n_g37 := iv_nxt hB a_h0 f_g37 n_g32
          refine lv_iconst (v := 1) hx hb dX7_readComparison_57 (by decide) ?_
          exact iv_zret X hr hlocks hB (q_1.wk (by decide)) ⟨hM, (q_1.wk (by decide)), (⟨fun _ => by obtain ⟨i', h1, h2, h3⟩ := Q2.1 c34; exact ⟨i', by omega, h2.ke hk hm (by decide), rl_end ho.two h3.1 h3.2⟩, fun h => absurd h (by decide)⟩)⟩ dX7_readComparison_58
        · skip
          have i38_x30 : iv_R 0 0 x30 := (i_x30.cutHi (n := 0) (iv_eq_r c34 q_0).2)
          refine lv_iconst (v := 0) hx hb dX7_readComparison_49 (by decide) ?_
          exact iv_zret X hr hlocks hB (q_0.wk (by decide)) ⟨hM, (q_0.wk (by decide)), (⟨fun h => absurd rfl h, fun _ => Q2.2 c34⟩)⟩ dX7_readComparison_50
      · skip
        refine lv_iload_n hx hb dX7_readComparison_26 rfl (lv_at hl 0 rfl) ?_
        refine lv_bipush (v := 62) hx hb dX7_readComparison_27 (by decide) ?_
        refine lv_icmp_eq (tgt := 38) hx hb dX7_readComparison_29 (by decide) (fun c40 => ?_) (fun c40 => ?_)
        · skip
          have i40_x7 : iv_R 62 62 x7 := ((i_x7.cutLo (n := 62) (iv_eq_r c40 q_62).1).cutHi (n := 62) (iv_eq_r c40 q_62).2)
          have hlt1 : i1 < N := RS1.lt hN (by rw [← hx7]; have w := i40_x7.1; omega)
          have CF2 := rl_cmp hj2.1 (by rw [← hx7]; have w := i40_x7.1; have w2 := i40_x7.2; omega)
          refine lv_aload_n hx hb dX7_readComparison_38 rfl (lv_at hl 1 rfl) ?_
          refine iv_cVv X k_good k_mf_X7_step k_im_X7_step k_sel_X7_step k_ml_X7_83 ft_X7 hB a_h0 sh_7 (As := []) (e_X7_step l D tys base G2 h0 g3 r4 a_h0 gk gv gp (by rw [RB1.1]; exact RS1.2.1) (i1 + 1) (by omega) (by rw [RB1.2.1.1]; omega)) ⟨rfl, rfl⟩ ⟨Nat.le_of_ble_eq_true rfl, Nat.le_of_ble_eq_true rfl⟩ ⟨Nat.le_of_ble_eq_true rfl, Nat.le_of_ble_eq_true rfl⟩ rfl rfl hl.1 (Nat.le_of_ble_eq_true rfl) dX7_readComparison_39 (fun G9 H locs hq hB => ?_)
          obtain ⟨hm, vg, vc⟩ := hq
          obtain ⟨G42, hG9⟩ : ∃ g, g = G9 := ⟨_, rfl⟩
          rw [← hG9] at hm hB vg vc
          have hM := hM.stp hm (by decide)
          obtain ⟨g43, r44, a_h0, f_g43⟩ := hm.ex a_h0
          have n_g43 := iv_nxt hB a_h0 f_g43 n_g3
          have RS2 : rs h0 b gk gv gp N (i1 + 1) os G42 := ⟨hlt1, RS1.2.1.md hm (by decide), g43, r44, a_h0, (f_g43.1 0 (fun h => absurd (show (7 : Nat) = 5 from h) (by decide))).trans RB1.1, (vc _ _ a_h0).1, (f_g43.2.1 4 (show (4 : Nat) ∈ iv_stab 7 from by decide)).trans RB1.2.2.1, (vc _ _ a_h0).2.1.trans RB1.2.2.2.1, (vc _ _ a_h0).2.2.trans RB1.2.2.2.2⟩
          have vg45 := vg _ _ a_h0
          refine lv_aload_n hx hb dX7_readComparison_42 rfl (lv_at hl 1 rfl) ?_
          refine iv_cVi X k_good k_mf_X7_readSum k_im_X7_readSum k_sel_X7_readSum k_ml_X7_112 ft_X7 hB a_h0 sh_7 (As := []) (e_X7_readSum l D tys base G42 h0 g43 r44 a_h0 vg45 b gk gv gp N hN hN4 (i1 + 1) os RS2 rr0 nn0 ho ll0 2 dd0 ss0 (tk_at.of CF2)) ⟨rfl, rfl⟩ ⟨Nat.le_of_ble_eq_true rfl, Nat.le_of_ble_eq_true rfl⟩ ⟨Nat.le_of_ble_eq_true rfl, Nat.le_of_ble_eq_true rfl⟩ rfl rfl hl.1 (Nat.le_of_ble_eq_true rfl) dX7_readComparison_43 (fun x46 G9 H locs hq hB => ?_)
          obtain ⟨hm, i_x46, Q2⟩ := hq
          obtain ⟨G47, hG9⟩ : ∃ g, g = G9 := ⟨_, rfl⟩
          rw [← hG9] at hm hB Q2
          have hM := hM.stp hm (by decide)
          obtain ⟨g48, r49, a_h0, f_g48⟩ := hm.ex a_h0
          have n_g48 := iv_nxt hB a_h0 f_g48 vg45
          refine lv_if_ne (tgt := 51) hx hb dX7_readComparison_46 (by decide) (fun c50 => ?_) (fun c50 => ?_)
          · skip
            have i50_x46 : iv_R 1 1 x46 := iv_ne_lo c50 i_x46 q_0 (by decide)
            refine lv_aload_n hx hb dX7_readComparison_51 rfl (lv_at hl 1 rfl) ?_
            refine lv_iload_n hx hb dX7_readComparison_52 rfl (lv_at hl 0 rfl) ?_
            refine lv_iconst (v := 0) hx hb dX7_readComparison_53 (by decide) ?_
            refine iv_cVv X k_good k_mf_X7_emit k_im_X7_emit k_sel_X7_emit k_ml_X7_125 ft_X7 hB a_h0 sh_7 (As := [.int x7, .int 0]) (e_X7_emit l D tys base G47 h0 g48 r49 a_h0 x7 (i40_x7.wk (by decide)) 0 (q_0.wk (by decide))) ⟨rfl, rfl⟩ ⟨Nat.le_of_ble_eq_true rfl, Nat.le_of_ble_eq_true rfl⟩ ⟨Nat.le_of_ble_eq_true rfl, Nat.le_of_ble_eq_true rfl⟩ rfl rfl hl.1 (Nat.le_of_ble_eq_true rfl) dX7_readComparison_54 (fun G9 H locs hq hB => ?_)
            obtain ⟨hm, hk⟩ := hq
            obtain ⟨G52, hG9⟩ : ∃ g, g = G9 := ⟨_, rfl⟩
            rw [← hG9] at hm hB hk
            have hM := hM.stp hm (by decide)
            obtain ⟨g53, r54, a_h0, f_g53⟩ := hm.ex a_h0
            have n_g53 := iv_nxt hB a_h0 f_g53 n_g48
            refine lv_iconst (v := 1) hx hb dX7_readComparison_57 (by decide) ?_
            exact iv_zret X hr hlocks hB (q_1.wk (by decide)) ⟨hM, (q_1.wk (by decide)), (⟨fun _ => by obtain ⟨i', h1, h2, h3⟩ := Q2.1 c50; exact ⟨i', by omega, h2.ke hk hm (by decide), rl_end ho.two h3.1 h3.2⟩, fun h => absurd h (by decide)⟩)⟩ dX7_readComparison_58
          · skip
            have i54_x46 : iv_R 0 0 x46 := (i_x46.cutHi (n := 0) (iv_eq_r c50 q_0).2)
            refine lv_iconst (v := 0) hx hb dX7_readComparison_49 (by decide) ?_
            exact iv_zret X hr hlocks hB (q_0.wk (by decide)) ⟨hM, (q_0.wk (by decide)), (⟨fun h => absurd rfl h, fun _ => Q2.2 c50⟩)⟩ dX7_readComparison_50
        · skip
          refine lv_aload_n hx hb dX7_readComparison_32 rfl (lv_at hl 1 rfl) ?_
          refine lv_iconst (v := 1) hx hb dX7_readComparison_33 (by decide) ?_
          refine iv_cVi X k_good k_mf_X7_refuse k_im_X7_refuse k_sel_X7_refuse k_ml_X7_98 ft_X7 hB a_h0 sh_7 (As := [.int 1]) (e_X7_refuse l D tys base G2 h0 g3 r4 a_h0 n_g3 1 (q_1.wk (by decide)) gk gv gp (by rw [RB1.1]; exact RS1.2.1) i1 RB1.2.1.1) ⟨rfl, rfl⟩ ⟨Nat.le_of_ble_eq_true rfl, Nat.le_of_ble_eq_true rfl⟩ ⟨Nat.le_of_ble_eq_true rfl, Nat.le_of_ble_eq_true rfl⟩ rfl rfl hl.1 (Nat.le_of_ble_eq_true rfl) dX7_readComparison_34 (fun x56 G9 H locs hq hB => ?_)
          obtain ⟨hm, i_x56, vf⟩ := hq
          obtain ⟨G57, hG9⟩ : ∃ g, g = G9 := ⟨_, rfl⟩
          rw [← hG9] at hm hB vf
          have hM := hM.stp hm (by decide)
          obtain ⟨g58, r59, a_h0, f_g58⟩ := hm.ex a_h0
          have n_g58 := iv_nxt hB a_h0 f_g58 n_g3
          exact iv_zret X hr hlocks hB (i_x56.wk (by decide)) ⟨hM, (i_x56.wk (by decide)), (⟨fun h => absurd (iv_z i_x56) h, fun _ => ⟨i1, 1, rl_no ho.two hj2.1 hj2.2 (fun q => by have e60 : (60 : Int32).toInt = 60 := rfl; have e61 : (61 : Int32).toInt = 61 := rfl; have e62 : (62 : Int32).toInt = 62 := rfl; have w1 := mt Int32.toInt_inj.mp c8; have w2 := mt Int32.toInt_inj.mp c24; have w3 := mt Int32.toInt_inj.mp c40; rw [hx7] at w1 w2 w3; omega), ⟨g58, r59, a_h0, vf _ _ a_h0⟩⟩⟩)⟩ dX7_readComparison_37
  · skip
    have i59_x1 : iv_R 0 0 x1 := (i_x1.cutHi (n := 0) (iv_eq_r c5 q_0).2)
    refine lv_iconst (v := 0) hx hb dX7_readComparison_7 (by decide) ?_
    exact iv_zret X hr hlocks hB (q_0.wk (by decide)) ⟨hM, (q_0.wk (by decide)), (⟨fun h => absurd rfl h, fun _ => Q1.2 c5⟩)⟩ dX7_readComparison_8
