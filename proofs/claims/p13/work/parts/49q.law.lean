theorem rh_fin {r n : Nat} {gk gv : Nat → Int32} {i l : Nat} (h : tk_cf r n (tk_k gk) (tk_k gv) i = .head l) (z : (gk i).toInt = 0) : tk_cf r n (tk_k gk) (tk_k gv) (i + 1) = .fin l := by
  refine (tk_at.of h).trans ?_
  exact if_pos ((tk_N.lo (show (gk i).toInt < 128 by omega)).trans z)
theorem rh_l {r n : Nat} {gk gv : Nat → Int32} {os : Int32} {i i' l l' : Nat} (ho : tk_o r os) (h : tk_cf r n (tk_k gk) (tk_k gv) i = .head l) (z : ¬ (gk i).toInt = 0) (hi : i + 1 ≤ i') (h' : tk_cf r n (tk_k gk) (tk_k gv) i' = .head l') : l < 16 := by
  rcases Nat.lt_or_ge l 16 with q | q
  · exact q
  · have key : ∃ k, tk_cf r n (tk_k gk) (tk_k gv) (i + 1) = .bad k i := by
      by_cases u : ((os = 0 ∧ ((gk i).toInt = 132 ∨ (gk i).toInt = 133)) ∨ (¬ os = 0 ∧ (gk i).toInt = 131))
      · exact ⟨3, rh_many ho h u q⟩
      · exact ⟨1, rh_no ho h z u⟩
    obtain ⟨k, hk⟩ := key
    have w := tk_cf.bad hk (i' - (i + 1))
    rw [show i + 1 + (i' - (i + 1)) = i' by omega, h'] at w
    cases w
set_option maxHeartbeats 4000000 in
set_option maxRecDepth 100000 in
theorem a_X7_readLaw (l : Launch) (D : va_G) (tys : List (ClassId × FieldType)) (base : Nat) (G : iv_G) (h0 : Nat) (g_h0 : Nat → Int32) (r_h0 : Nat → Nat) (a_h0 : G h0 = some (7, g_h0, r_h0)) (h1 : Nat) (g_h1 : Nat → Int32) (r_h1 : Nat → Nat) (a_h1 : G h1 = some (45, g_h1, r_h1)) (x_1 : Int32) (i_x_1 : iv_R 0 400 x_1) (x_2 : Int32) (i_x_2 : iv_R 0 1 x_2) (hby : ∀ i, i < x_1.toInt.toNat → iv_R 0 255 (g_h1 i)) (rr0 nn0 : Nat) (ho : tk_o rr0 x_2) : Met l yX7_readLaw (Cond.code yX7_readLaw cX7_readLaw 6 (some .boolean) :: iv_W0) ({ frames := 35, cells := 0, slots := 0, locals := 811 }) (iv_Pc iv_sh D classes tys base G [.ref h0, .ref h1, .int x_1, .int x_2]) (iv_Qi iv_sh D classes tys base (fun v G' => iv_Md0 [7, 34, 35, 36, 37, 38, 42, 43, 44] G G' ∧ iv_R 0 1 v ∧ (¬ v = 0 → iv_RE h0 G') ∧ (∃ gk gv gp : Nat → Int32, tk_R (tk_T g_h1 x_1.toInt.toNat) x_1.toInt.toNat (tk_k gk) (tk_k gv) (tk_k gp) ∧ (¬ v = 0 → ∃ j l : Nat, tk_cf rr0 nn0 (tk_k gk) (tk_k gv) j = .fin l ∧ ∀ (g' : Nat → Int32) (r' : Nat → Nat), G' h0 = some (7, g', r') → (g' 8).toInt = (l : Int) ∧ g' 6 = 0 ∧ g' 7 = -1) ∧ (v = 0 → ∃ i k : Nat, tk_F rr0 nn0 (tk_k gk) (tk_k gv) i k ∧ rt h0 gp k i G')))) 0 0 (iv_A base) := by
  refine iv_head (by decide) (Nat.le_of_ble_eq_true rfl) ?_
  intro p e s m args below meth c ls X hr hlocks hname hB hl
  have X := X
  have hx := X.1.1
  have hb := X.1.2.1
  have hM : iv_Md0 [7, 34, 35, 36, 37, 38, 42, 43, 44] G G := iv_Md0.rf
  have hl : lv_has ls 6 [(0, .ref h0), (1, .ref h1), (2, .int x_1), (3, .int x_2)] := hl
  refine lv_aload_n hx hb dX7_readLaw_0 rfl (lv_at hl 0 rfl) ?_
  refine lv_aload_n hx hb dX7_readLaw_1 rfl (lv_at hl 1 rfl) ?_
  refine lv_iload_n hx hb dX7_readLaw_2 rfl (lv_at hl 2 rfl) ?_
  refine iv_cVv X k_good k_mf_X7_begin k_im_X7_begin k_sel_X7_begin k_ml_X7_44 ft_X7 hB a_h0 sh_7 (As := [.ref h1, .int x_1]) (a_X7_begin l D tys base G h0 g_h0 r_h0 a_h0 h1 g_h1 r_h1 a_h1 x_1 i_x_1 hby) ⟨rfl, rfl⟩ ⟨Nat.le_of_ble_eq_true rfl, Nat.le_of_ble_eq_true rfl⟩ ⟨Nat.le_of_ble_eq_true rfl, Nat.le_of_ble_eq_true rfl⟩ rfl rfl hl.1 (Nat.le_of_ble_eq_true rfl) dX7_readLaw_3 (fun G9 H locs hq hB => ?_)
  obtain ⟨hm, ⟨vg, hR⟩, gk, gv, gp, hRt, RS, hl9⟩ := hq
  obtain ⟨G1, hG9⟩ : ∃ g, g = G9 := ⟨_, rfl⟩
  rw [← hG9] at hm hB vg hR RS hl9
  have hM := hM.stp hm (by decide)
  obtain ⟨g2, r3, a_h0, f_g2⟩ := hm.ex a_h0
  have a_h1 := hm.at a_h1 (by decide)
  have vg4 := vg _ _ a_h0
  obtain ⟨N, hNd⟩ : ∃ N, N = tk_c (tk_T g_h1 x_1.toInt.toNat) x_1.toInt.toNat x_1.toInt.toNat := ⟨_, rfl⟩
  rw [← hNd] at RS
  have hN : (gk N).toInt = 0 := by rw [hNd]; exact hRt.2.1
  have hN4 : N ≤ 400 := by have w := tk_c.top (T := (tk_T g_h1 x_1.toInt.toNat)) (n := x_1.toInt.toNat) x_1.toInt.toNat; have w2 := i_x_1.2; omega
  have RB := RS.got a_h0
  have a_h9 := a_h0
  refine lv_aload_n hx hb dX7_readLaw_6 rfl (lv_at hl 0 rfl) ?_
  refine lv_iload_n hx hb dX7_readLaw_7 rfl (lv_at hl 3 rfl) ?_
  refine iv_puti X ft_X7 hB a_h0 sh_7 4 (by decide) rfl rfl k_fl_X7_60 rfl i_x_2 (iv_nar i_x_2) (iv_fit i_x_2) dX7_readLaw_8 (fun H locs hB => ?_)
  have hm := iv_Md0.put (x := x_2) a_h0 (j := 4) (fun h => absurd rfl h)
  have h9 := iv_up_eq (G := G1) (a := h0) (k := (7, upd g2 4 x_2, r3))
  have hR := hR.put4 (x := x_2) a_h0
  generalize iv_up G1 h0 _ = G5 at hB hm h9 hR
  have hM := hM.stp hm (by decide)
  generalize hgn_g6 : upd g2 _ _ = g6 at h9
  have a_h1 := hm.at a_h1 (by decide)
  have a_h0 := h9
  have e9_g6 : x_2 = g6 4 := by rw [← hgn_g6]; simp [upd]
  have RS0 : rs h0 (r_h0 0) gk gv gp N 0 x_2 G5 := ⟨RS.1, RS.2.1.md hm (by decide), g6, r3, a_h0, RB.1, by rw [← hgn_g6]; exact RB.2.1, e9_g6.symm, by rw [← hgn_g6]; exact RB.2.2.2⟩
  have n_g6 : iv_R 0 400 (g6 1) := by rw [← hgn_g6]; exact vg4
  refine lv_iconst (v := 1) hx hb dX7_readLaw_11 (by decide) ?_
  refine lv_istore (lv' := [(4, .int 1), (0, .ref h0), (1, .ref h1), (2, .int x_1), (3, .int x_2)]) hx hb dX7_readLaw_12 hl (by decide) rfl (fun ls hl => ?_)
  refine lv_iconst (v := 0) hx hb dX7_readLaw_14 (by decide) ?_
  refine lv_istore (lv' := [(5, .int 0), (4, .int 1), (0, .ref h0), (1, .ref h1), (2, .int x_1), (3, .int x_2)]) hx hb dX7_readLaw_15 hl (by decide) rfl (fun ls hl => ?_)
  have L_17 : ∀ (n_17 : Nat) (G11 : iv_G) (hM : iv_Md0 [7, 34, 35, 36, 37, 38, 42, 43, 44] G G11) (H : Heap) (locs : List Loc) (hB : iv_B iv_sh D classes tys base G11 s.heap H locs) (g9 : Nat → Int32) (r10 : Nat → Nat) (a_h0 : G11 h0 = some (7, g9, r10)) (n_g9 : iv_R 0 400 (g9 1)) (x7 : Int32) (i_x7 : iv_R 0 1 x7) (hR : ¬ x7 = 0 → iv_RE h0 G11) (x8 : Int32) (i_x8 : iv_R 0 17 x8) (hn_17 : (18 - x8.toInt).toNat < n_17) (gi_17 : (¬ x7 = 0 → ∃ i1 l1 : Nat, rs h0 (r_h0 0) gk gv gp N i1 x_2 G11 ∧ tk_cf rr0 nn0 (tk_k gk) (tk_k gv) i1 = .head l1 ∧ (g9 8).toInt = (l1 : Int) ∧ (l1 : Int) = x8.toInt ∧ l1 ≤ 16) ∧ (x7 = 0 → ∃ i k : Nat, tk_F rr0 nn0 (tk_k gk) (tk_k gv) i k ∧ rt h0 gp k i G11)) (ls : Array Slot) (hl : lv_has ls 6 [(5, .int x8), (4, .int x7), (0, .ref h0)]), W p l e ({ frames := 35, cells := 0, slots := 0, locals := 811 } : Room) s m args below meth c H locs 0 0 (MQ below (iv_Qi iv_sh D classes tys base (fun v G' => iv_Md0 [7, 34, 35, 36, 37, 38, 42, 43, 44] G G' ∧ iv_R 0 1 v ∧ (¬ v = 0 → iv_RE h0 G') ∧ (∃ gk gv gp : Nat → Int32, tk_R (tk_T g_h1 x_1.toInt.toNat) x_1.toInt.toNat (tk_k gk) (tk_k gv) (tk_k gp) ∧ (¬ v = 0 → ∃ j l : Nat, tk_cf rr0 nn0 (tk_k gk) (tk_k gv) j = .fin l ∧ ∀ (g' : Nat → Int32) (r' : Nat → Nat), G' h0 = some (7, g', r') → (g' 8).toInt = (l : Int) ∧ g' 6 = 0 ∧ g' 7 = -1) ∧ (v = 0 → ∃ i k : Nat, tk_F rr0 nn0 (tk_k gk) (tk_k gv) i k ∧ rt h0 gp k i G')))) args s 0 0 (iv_A base)) (F0 m 17 ls []) := by
    intro n_17
    induction n_17 with
    | zero => intro G11 hM H locs hB g9 r10 a_h0 n_g9 x7 i_x7 hR x8 i_x8 hn_17 gi_17 ls hl; exact absurd hn_17 (Nat.not_lt_zero _)
    | succ n_17 ih_17 =>
      intro G11 hM H locs hB g9 r10 a_h0 n_g9 x7 i_x7 hR x8 i_x8 hn_17 gi_17 ls hl
      refine lv_iload hx hb dX7_readLaw_17 (lv_at hl 0 rfl) ?_
      refine lv_bipush (v := 16) hx hb dX7_readLaw_19 (by decide) ?_
      refine lv_icmp_gt (tgt := 48) hx hb dX7_readLaw_21 (by decide) (fun c12 => ?_) (fun c12 => ?_)
      · skip
        have i12_x8 : iv_R 17 17 x8 := (i_x8.cutLo (n := 17) (iv_lt_l c12 q_16 (by decide)))
        refine lv_iload hx hb dX7_readLaw_48 (lv_at hl 1 rfl) ?_
        exact iv_zret X hr hlocks hB i_x7 ⟨hM, i_x7, hR, ⟨gk, gv, gp, hRt, fun h => by obtain ⟨i1, l1, h1, h2, h3, h4, h5⟩ := gi_17.1 h; exact absurd h5 (by have w := i12_x8.1; omega), gi_17.2⟩⟩ dX7_readLaw_50
      · skip
        have i13_x8 : iv_R 0 16 x8 := (i_x8.cutHi (n := 16) (iv_le_r (iv_nlt c12) q_16))
        refine lv_iload hx hb dX7_readLaw_24 (lv_at hl 1 rfl) ?_
        refine lv_if_eq (tgt := 48) hx hb dX7_readLaw_26 (by decide) (fun c15 => ?_) (fun c15 => ?_)
        · skip
          have i15_x7 : iv_R 0 0 x7 := (i_x7.cutHi (n := 0) (iv_eq_r c15 q_0).2)
          refine lv_iload hx hb dX7_readLaw_48 (lv_at hl 1 rfl) ?_
          exact iv_zret X hr hlocks hB (i15_x7.wk (by decide)) ⟨hM, (i15_x7.wk (by decide)), hR, ⟨gk, gv, gp, hRt, fun h => absurd c15 h, gi_17.2⟩⟩ dX7_readLaw_50
        · skip
          have i16_x7 : iv_R 1 1 x7 := iv_ne_lo c15 i_x7 q_0 (by decide)
          obtain ⟨i1, l1, RS1, CF1, hl1, hx8, hl16⟩ := gi_17.1 c15
          have RB1 := RS1.got a_h0
          refine lv_aload_n hx hb dX7_readLaw_29 rfl (lv_at hl 2 rfl) ?_
          refine iv_geti X ft_X7 hB a_h0 sh_7 2 (by decide) rfl k_fl_X7_53 dX7_readLaw_30 (fun x18 e_x18 i_x18 => ?_)
          have hx18 : x18 = gk i1 := e_x18.trans RB1.2.1.2.1
          refine lv_if_eq (tgt := 48) hx hb dX7_readLaw_33 (by decide) (fun c19 => ?_) (fun c19 => ?_)
          · skip
            have i19_x18 : iv_R 0 0 x18 := ((i_x18.cutLo (n := 0) (iv_eq_r c19 q_0).1).cutHi (n := 0) (iv_eq_r c19 q_0).2)
            refine lv_iload hx hb dX7_readLaw_48 (lv_at hl 1 rfl) ?_
            exact iv_zret X hr hlocks hB (i16_x7.wk (by decide)) ⟨hM, (i16_x7.wk (by decide)), hR, ⟨gk, gv, gp, hRt, fun _ => ⟨i1 + 1, l1, rh_fin CF1 (by rw [← hx18, c19]; rfl), fun g8 r8 h8 => by cases a_h0.symm.trans h8; exact ⟨hl1, RB1.2.2.2⟩⟩, fun h => absurd h c15⟩⟩ dX7_readLaw_50
          · skip
            refine lv_aload_n hx hb dX7_readLaw_36 rfl (lv_at hl 2 rfl) ?_
            have hz : ¬ (gk i1).toInt = 0 := fun q => c19 (Int32.toInt_inj.mp (by rw [hx18]; exact q))
            refine iv_cVi X k_good k_mf_X7_readLawLine k_im_X7_readLawLine k_sel_X7_readLawLine k_ml_X7_64 ft_X7 hB a_h0 sh_7 (As := []) (a_X7_readLawLine l D tys base G11 h0 g9 r10 a_h0 n_g9 (hR c15).rl (r_h0 0) gk gv gp N hN hN4 x_2 rr0 nn0 ho i1 RS1 hz l1 hl1 CF1) ⟨rfl, rfl⟩ ⟨Nat.le_of_ble_eq_true rfl, Nat.le_of_ble_eq_true rfl⟩ ⟨Nat.le_of_ble_eq_true rfl, Nat.le_of_ble_eq_true rfl⟩ rfl rfl hl.1 (Nat.le_of_ble_eq_true rfl) dX7_readLaw_37 (fun x21 G9 H locs hq hB => ?_)
            obtain ⟨⟨hm, vg⟩, i_x21, hR, Q1, Q2⟩ := hq
            obtain ⟨G22, hG9⟩ : ∃ g, g = G9 := ⟨_, rfl⟩
            rw [← hG9] at hm hB vg hR Q1 Q2
            have hM := hM.stp hm (by decide)
            obtain ⟨g23, r24, a_h0, f_g23⟩ := hm.ex a_h0
            have vg25 := vg _ _ a_h0
            refine lv_istore (lv' := [(4, .int x21), (5, .int x8), (0, .ref h0)]) hx hb dX7_readLaw_40 hl (by decide) rfl (fun ls hl => ?_)
            refine iv_iinc hx hb i13_x8 (lo := 1) (hi := 17) (by decide) dX7_readLaw_42 hl (k := 1) rfl (by decide) (fun x26 ls e_x26 i_x26 hl => ?_)
            have hl : lv_has ls 6 [(5, .int x26), (4, .int x21), (0, .ref h0)] := hl
            refine lv_goto (tgt := 17) hx hb dX7_readLaw_45 (by decide) ?_
            exact ih_17 G22 hM _ _ hB g23 r24 a_h0 vg25 x21 i_x21 hR x26 (i_x26.wk (by decide)) (iv_mup (c := 1) i_x8 (by decide) (by decide) (by omega) hn_17) ⟨fun h => by obtain ⟨i', w1, w2, w3⟩ := Q1.1 h; have w4 := rh_l ho CF1 hz w1 w3; exact ⟨i', l1 + 1, w2, w3, by rw [Q2 h _ _ a_h0]; omega, by have w5 : x26.toInt = x8.toInt + 1 := e_x26; omega, by omega⟩, fun h => Q1.2 h⟩ _ (lv_sub hl [0, 1, 2] rfl)
  exact L_17 _ G5 hM _ _ hB g6 r3 a_h0 n_g6 1 (q_1.wk (by decide)) (fun _ => hR) 0 (q_0.wk (by decide)) (Nat.lt_succ_self _) ⟨fun _ => ⟨0, 0, RS0, if_neg (by have w := ho.two; omega), by have w := hl9 _ _ a_h9; rw [← hgn_g6]; exact w, rfl, by decide⟩, fun h => absurd h (by decide)⟩ _ (lv_sub hl [0, 1, 2] rfl)
