theorem tk_c.sur {T : Nat → Int} {n : Nat} : ∀ a j, j < tk_c T n a → ∃ p, p < a ∧ tk_S T n p ∧ tk_c T n p = j := by
  intro a
  induction a with
  | zero => intro j h; exact absurd h (Nat.not_lt_zero _)
  | succ a ih =>
    intro j h
    by_cases q : j < tk_c T n a
    · obtain ⟨p, h1, h2, h3⟩ := ih j q
      exact ⟨p, by omega, h2, h3⟩
    · by_cases hs : tk_S T n a
      · rw [tk_c.ok hs] at h
        exact ⟨a, Nat.lt_succ_self _, hs, by omega⟩
      · rw [tk_c.no hs] at h
        exact absurd h q
theorem tk_E.ex {T : Nat → Int} {n p : Nat} (hp : p < n) : ∃ e, tk_E T n p e := by
  have key : ∀ k a, n - a = k → p < a → a ≤ n → (∀ x, p < x → x < a → tk_G T x) → ∃ e, tk_E T n p e := by
    intro k
    induction k with
    | zero => intro a h1 h2 h3 h4; exact ⟨a, h2, h3, h4, Or.inl (by omega)⟩
    | succ k ih =>
      intro a h1 h2 h3 h4
      by_cases q : tk_G T a
      · exact ih (a + 1) (by omega) (by omega) (by omega) (fun x w1 w2 => by
          by_cases e : x = a
          · rw [e]
            exact q
          · exact h4 x w1 (by omega))
      · exact ⟨a, h2, h3, h4, Or.inr q⟩
  exact key (n - (p + 1)) (p + 1) rfl (by omega) (by omega) (fun x w1 w2 => absurd w2 (by omega))
theorem tk_R.nn {T : Nat → Int} {n : Nat} {K V P : Nat → Int} (h : tk_R T n K V P) : ∀ j, j < tk_c T n n → K j = 2 → 0 ≤ V j := fun j hj hk => by
  obtain ⟨p, h1, h2, h3⟩ := tk_c.sur n j hj
  obtain ⟨e, he⟩ := tk_E.ex (T := T) (n := n) (p := p) h1
  have w := (h.1 p e h2 he).1
  rw [h3] at w
  obtain ⟨d, e4⟩ := tk_KV.two w hk
  have v := ((w.2.1 d).1 e4).2
  rw [v]
  exact (tk_nub (T := T) (p := p) (e - p) (by omega) (fun k hk2 => tk_run he d k (by omega))).1
theorem rq_l {n : Nat} {gk gv : Nat → Int32} {i i' l l' : Nat} (h : tk_cf 0 n (tk_k gk) (tk_k gv) i = .ring l 0) (z : ¬ (gk i).toInt = 0) (hi : i + 1 ≤ i') (h' : tk_cf 0 n (tk_k gk) (tk_k gv) i' = .ring l' 0) : l < 20 := by
  rcases Nat.lt_or_ge l 20 with q | q
  · exact q
  · have key : ∃ k, tk_cf 0 n (tk_k gk) (tk_k gv) (i + 1) = .bad k i := by
      by_cases u : (gk i).toInt = 128
      · exact ⟨3, rq_many h u q⟩
      · exact ⟨1, rq_no h z u⟩
    obtain ⟨k, hk⟩ := key
    have w := tk_cf.bad hk (i' - (i + 1))
    rw [show i + 1 + (i' - (i + 1)) = i' by omega, h'] at w
    cases w
set_option maxHeartbeats 4000000 in
set_option maxRecDepth 100000 in
theorem a_X7_readHours (l : Launch) (D : va_G) (tys : List (ClassId × FieldType)) (base : Nat) (G : iv_G) (h0 : Nat) (g_h0 : Nat → Int32) (r_h0 : Nat → Nat) (a_h0 : G h0 = some (7, g_h0, r_h0)) (h1 : Nat) (g_h1 : Nat → Int32) (r_h1 : Nat → Nat) (a_h1 : G h1 = some (45, g_h1, r_h1)) (x_1 : Int32) (i_x_1 : iv_R 0 400 x_1) (x_2 : Int32) (i_x_2 : iv_R 0 10 x_2) (hby : ∀ i, i < x_1.toInt.toNat → iv_R 0 255 (g_h1 i)) (nn0 : Nat) (hnn : x_2.toInt = (nn0 : Int)) : Met l yX7_readHours (Cond.code yX7_readHours cX7_readHours 6 (some .boolean) :: iv_W0) ({ frames := 8, cells := 0, slots := 0, locals := 183 }) (iv_Pc iv_sh D classes tys base G [.ref h0, .ref h1, .int x_1, .int x_2]) (iv_Qi iv_sh D classes tys base (fun v G' => iv_Md0 [7, 21, 35, 42, 43, 44] G G' ∧ iv_R 0 1 v ∧ (∃ gk gv gp : Nat → Int32, tk_R (tk_T g_h1 x_1.toInt.toNat) x_1.toInt.toNat (tk_k gk) (tk_k gv) (tk_k gp) ∧ (¬ v = 0 → ∃ j l : Nat, tk_cf 0 nn0 (tk_k gk) (tk_k gv) j = .fin l ∧ ∀ (g' : Nat → Int32) (r' : Nat → Nat), G' h0 = some (7, g', r') → (g' 8).toInt = (l : Int) ∧ g' 6 = 0 ∧ g' 7 = -1) ∧ (v = 0 → ∃ i k : Nat, tk_F 0 nn0 (tk_k gk) (tk_k gv) i k ∧ rt h0 gp k i G')))) 0 0 (iv_A base) := by
  refine iv_head (by decide) (Nat.le_of_ble_eq_true rfl) ?_
  intro p e s m args below meth c ls X hr hlocks hname hB hl
  have X := X
  have hx := X.1.1
  have hb := X.1.2.1
  have hM : iv_Md0 [7, 21, 35, 42, 43, 44] G G := iv_Md0.rf
  have hl : lv_has ls 6 [(0, .ref h0), (1, .ref h1), (2, .int x_1), (3, .int x_2)] := hl
  refine lv_aload_n hx hb dX7_readHours_0 rfl (lv_at hl 0 rfl) ?_
  refine lv_aload_n hx hb dX7_readHours_1 rfl (lv_at hl 1 rfl) ?_
  refine lv_iload_n hx hb dX7_readHours_2 rfl (lv_at hl 2 rfl) ?_
  refine iv_cVv X k_good k_mf_X7_begin k_im_X7_begin k_sel_X7_begin k_ml_X7_44 ft_X7 hB a_h0 sh_7 (As := [.ref h1, .int x_1]) (a_X7_begin l D tys base G h0 g_h0 r_h0 a_h0 h1 g_h1 r_h1 a_h1 x_1 i_x_1 hby) ⟨rfl, rfl⟩ ⟨Nat.le_of_ble_eq_true rfl, Nat.le_of_ble_eq_true rfl⟩ ⟨Nat.le_of_ble_eq_true rfl, Nat.le_of_ble_eq_true rfl⟩ rfl rfl hl.1 (Nat.le_of_ble_eq_true rfl) dX7_readHours_3 (fun G9 H locs hq hB => ?_)
  obtain ⟨hm, ⟨vg, hR9⟩, gk, gv, gp, hR, RS, hl9⟩ := hq
  obtain ⟨G1, hG9⟩ : ∃ g, g = G9 := ⟨_, rfl⟩
  rw [← hG9] at hm hB vg RS hl9
  have hM := hM.stp hm (by decide)
  obtain ⟨g2, r3, a_h0, f_g2⟩ := hm.ex a_h0
  have a_h1 := hm.at a_h1 (by decide)
  have vg4 := vg _ _ a_h0
  obtain ⟨N, hNd⟩ : ∃ N, N = tk_c (tk_T g_h1 x_1.toInt.toNat) x_1.toInt.toNat x_1.toInt.toNat := ⟨_, rfl⟩
  rw [← hNd] at RS
  have hN : (gk N).toInt = 0 := by rw [hNd]; exact hR.2.1
  have hN4 : N ≤ 400 := by have w := tk_c.top (T := (tk_T g_h1 x_1.toInt.toNat)) (n := x_1.toInt.toNat) x_1.toInt.toNat; have w2 := i_x_1.2; omega
  have hv0 : ∀ j, j < N → gk j = 2 → 0 ≤ (gv j).toInt := fun j hj hk => hR.nn j (by rw [← hNd]; exact hj) (by show (gk j).toInt = 2; rw [hk]; rfl)
  have RB := RS.got a_h0
  have a_h9 := a_h0
  refine lv_aload_n hx hb dX7_readHours_6 rfl (lv_at hl 0 rfl) ?_
  refine iv_getr X ft_X7 hB a_h0 sh_7 9 (by decide) rfl k_fl_X7_22 dX7_readHours_7 (fun b5 g_b5 r_b5 e_b5 a_b5 => ?_)
  refine lv_iconst (v := 0) hx hb dX7_readHours_10 (by decide) ?_
  refine iv_cSv X k_good k_mf_J7_fill_53178 k_st_J7_fill_53178 k_ml_X7_48 hB (As := [.ref b5, .int 0]) (c_J7_fill_53178 l D tys base G1 b5 g_b5 r_b5 a_b5 0 q_0) ⟨rfl, rfl⟩ ⟨Nat.le_of_ble_eq_true rfl, Nat.le_of_ble_eq_true rfl⟩ ⟨Nat.le_of_ble_eq_true rfl, Nat.le_of_ble_eq_true rfl⟩ rfl rfl hl.1 (Nat.le_of_ble_eq_true rfl) dX7_readHours_11 (fun G9 H locs hq hB => ?_)
  have hm := hq
  obtain ⟨G6, hG9⟩ : ∃ g, g = G9 := ⟨_, rfl⟩
  rw [← hG9] at hm hB
  have hM := hM.stp hm.weak (by decide)
  have a_h0 := hm.at a_h0 (by decide)
  have RS0 : rs h0 (r_h0 0) gk gv gp N 0 (g_h0 4) G6 := ⟨RS.1, RS.2.1.md hm (by decide), _, _, a_h0, RB⟩
  have a_h1 := hm.at a_h1 (by decide)
  refine lv_iconst (v := 1) hx hb dX7_readHours_14 (by decide) ?_
  refine lv_istore (lv' := [(4, .int 1), (0, .ref h0), (1, .ref h1), (2, .int x_1), (3, .int x_2)]) hx hb dX7_readHours_15 hl (by decide) rfl (fun ls hl => ?_)
  refine lv_iconst (v := 0) hx hb dX7_readHours_17 (by decide) ?_
  refine lv_istore (lv' := [(5, .int 0), (4, .int 1), (0, .ref h0), (1, .ref h1), (2, .int x_1), (3, .int x_2)]) hx hb dX7_readHours_18 hl (by decide) rfl (fun ls hl => ?_)
  have L_20 : ∀ (n_20 : Nat) (G11 : iv_G) (hM : iv_Md0 [7, 21, 35, 42, 43, 44] G G11) (H : Heap) (locs : List Loc) (hB : iv_B iv_sh D classes tys base G11 s.heap H locs) (g9 : Nat → Int32) (r10 : Nat → Nat) (a_h0 : G11 h0 = some (7, g9, r10)) (n_g9 : iv_R 0 400 (g9 1)) (x7 : Int32) (i_x7 : iv_R 0 1 x7) (x8 : Int32) (i_x8 : iv_R 0 21 x8) (hn_20 : (22 - x8.toInt).toNat < n_20) (gi_20 : (¬ x7 = 0 → ∃ i1 l1 : Nat, rs h0 (r_h0 0) gk gv gp N i1 (g_h0 4) G11 ∧ tk_cf 0 nn0 (tk_k gk) (tk_k gv) i1 = .ring l1 0 ∧ (g9 8).toInt = (l1 : Int) ∧ (l1 : Int) = x8.toInt ∧ l1 ≤ 20) ∧ (x7 = 0 → ∃ i k : Nat, tk_F 0 nn0 (tk_k gk) (tk_k gv) i k ∧ rt h0 gp k i G11)) (ls : Array Slot) (hl : lv_has ls 6 [(5, .int x8), (4, .int x7), (0, .ref h0), (3, .int x_2)]), W p l e ({ frames := 8, cells := 0, slots := 0, locals := 183 } : Room) s m args below meth c H locs 0 0 (MQ below (iv_Qi iv_sh D classes tys base (fun v G' => iv_Md0 [7, 21, 35, 42, 43, 44] G G' ∧ iv_R 0 1 v ∧ (∃ gk gv gp : Nat → Int32, tk_R (tk_T g_h1 x_1.toInt.toNat) x_1.toInt.toNat (tk_k gk) (tk_k gv) (tk_k gp) ∧ (¬ v = 0 → ∃ j l : Nat, tk_cf 0 nn0 (tk_k gk) (tk_k gv) j = .fin l ∧ ∀ (g' : Nat → Int32) (r' : Nat → Nat), G' h0 = some (7, g', r') → (g' 8).toInt = (l : Int) ∧ g' 6 = 0 ∧ g' 7 = -1) ∧ (v = 0 → ∃ i k : Nat, tk_F 0 nn0 (tk_k gk) (tk_k gv) i k ∧ rt h0 gp k i G')))) args s 0 0 (iv_A base)) (F0 m 20 ls []) := by
    intro n_20
    induction n_20 with
    | zero => intro G11 hM H locs hB g9 r10 a_h0 n_g9 x7 i_x7 x8 i_x8 hn_20 gi_20 ls hl; exact absurd hn_20 (Nat.not_lt_zero _)
    | succ n_20 ih_20 =>
      intro G11 hM H locs hB g9 r10 a_h0 n_g9 x7 i_x7 x8 i_x8 hn_20 gi_20 ls hl
      refine lv_iload hx hb dX7_readHours_20 (lv_at hl 0 rfl) ?_
      refine lv_bipush (v := 20) hx hb dX7_readHours_22 (by decide) ?_
      refine lv_icmp_gt (tgt := 52) hx hb dX7_readHours_24 (by decide) (fun c12 => ?_) (fun c12 => ?_)
      · skip
        have i12_x8 : iv_R 21 21 x8 := (i_x8.cutLo (n := 21) (iv_lt_l c12 q_20 (by decide)))
        refine lv_iload hx hb dX7_readHours_52 (lv_at hl 1 rfl) ?_
        exact iv_zret X hr hlocks hB i_x7 ⟨hM, i_x7, ⟨gk, gv, gp, hR, fun h => by obtain ⟨i1, l1, h1, h2, h3, h4, h5⟩ := gi_20.1 h; exact absurd h5 (by have w := i12_x8.1; omega), gi_20.2⟩⟩ dX7_readHours_54
      · skip
        have i13_x8 : iv_R 0 20 x8 := (i_x8.cutHi (n := 20) (iv_le_r (iv_nlt c12) q_20))
        refine lv_iload hx hb dX7_readHours_27 (lv_at hl 1 rfl) ?_
        refine lv_if_eq (tgt := 52) hx hb dX7_readHours_29 (by decide) (fun c15 => ?_) (fun c15 => ?_)
        · skip
          have i15_x7 : iv_R 0 0 x7 := (i_x7.cutHi (n := 0) (iv_eq_r c15 q_0).2)
          refine lv_iload hx hb dX7_readHours_52 (lv_at hl 1 rfl) ?_
          exact iv_zret X hr hlocks hB (i15_x7.wk (by decide)) ⟨hM, (i15_x7.wk (by decide)), ⟨gk, gv, gp, hR, fun h => absurd c15 h, gi_20.2⟩⟩ dX7_readHours_54
        · skip
          have i16_x7 : iv_R 1 1 x7 := iv_ne_lo c15 i_x7 q_0 (by decide)
          obtain ⟨i1, l1, RS1, CF1, hl1, hx8, hl16⟩ := gi_20.1 c15
          have RB1 := RS1.got a_h0
          refine lv_aload_n hx hb dX7_readHours_32 rfl (lv_at hl 2 rfl) ?_
          refine iv_geti X ft_X7 hB a_h0 sh_7 2 (by decide) rfl k_fl_X7_53 dX7_readHours_33 (fun x18 e_x18 i_x18 => ?_)
          have hx18 : x18 = gk i1 := e_x18.trans RB1.2.1.2.1
          refine lv_if_eq (tgt := 52) hx hb dX7_readHours_36 (by decide) (fun c19 => ?_) (fun c19 => ?_)
          · skip
            have i19_x18 : iv_R 0 0 x18 := ((i_x18.cutLo (n := 0) (iv_eq_r c19 q_0).1).cutHi (n := 0) (iv_eq_r c19 q_0).2)
            refine lv_iload hx hb dX7_readHours_52 (lv_at hl 1 rfl) ?_
            exact iv_zret X hr hlocks hB (i16_x7.wk (by decide)) ⟨hM, (i16_x7.wk (by decide)), ⟨gk, gv, gp, hR, fun _ => ⟨i1 + 1, l1, rq_fin CF1 (by rw [← hx18, c19]; rfl), fun g8 r8 h8 => by cases a_h0.symm.trans h8; exact ⟨hl1, RB1.2.2.2⟩⟩, fun h => absurd h c15⟩⟩ dX7_readHours_54
          · skip
            refine lv_aload_n hx hb dX7_readHours_39 rfl (lv_at hl 2 rfl) ?_
            have hz : ¬ (gk i1).toInt = 0 := fun q => c19 (Int32.toInt_inj.mp (by rw [hx18]; exact q))
            refine lv_iload_n hx hb dX7_readHours_40 rfl (lv_at hl 3 rfl) ?_
            refine iv_cVi X k_good k_mf_X7_readHourLine k_im_X7_readHourLine k_sel_X7_readHourLine k_ml_X7_56 ft_X7 hB a_h0 sh_7 (As := [.int x_2]) (a_X7_readHourLine l D tys base G11 h0 g9 r10 a_h0 n_g9 x_2 i_x_2 (r_h0 0) gk gv gp N hN hN4 hv0 (g_h0 4) nn0 hnn i1 RS1 hz l1 hl1 CF1) ⟨rfl, rfl⟩ ⟨Nat.le_of_ble_eq_true rfl, Nat.le_of_ble_eq_true rfl⟩ ⟨Nat.le_of_ble_eq_true rfl, Nat.le_of_ble_eq_true rfl⟩ rfl rfl hl.1 (Nat.le_of_ble_eq_true rfl) dX7_readHours_41 (fun x21 G9 H locs hq hB => ?_)
            obtain ⟨⟨hm, vg⟩, i_x21, Q1, Q2⟩ := hq
            obtain ⟨G22, hG9⟩ : ∃ g, g = G9 := ⟨_, rfl⟩
            rw [← hG9] at hm hB vg Q1 Q2
            have hM := hM.stp hm (by decide)
            obtain ⟨g23, r24, a_h0, f_g23⟩ := hm.ex a_h0
            have vg25 := vg _ _ a_h0
            refine lv_istore (lv' := [(4, .int x21), (5, .int x8), (0, .ref h0), (3, .int x_2)]) hx hb dX7_readHours_44 hl (by decide) rfl (fun ls hl => ?_)
            refine iv_iinc hx hb i13_x8 (lo := 1) (hi := 21) (by decide) dX7_readHours_46 hl (k := 1) rfl (by decide) (fun x26 ls e_x26 i_x26 hl => ?_)
            have hl : lv_has ls 6 [(5, .int x26), (4, .int x21), (0, .ref h0), (3, .int x_2)] := hl
            refine lv_goto (tgt := 20) hx hb dX7_readHours_49 (by decide) ?_
            exact ih_20 G22 hM _ _ hB g23 r24 a_h0 vg25 x21 i_x21 x26 (i_x26.wk (by decide)) (iv_mup (c := 1) i_x8 (by decide) (by decide) (by omega) hn_20) ⟨fun h => by obtain ⟨i', w1, w2, w3⟩ := Q1.1 h; have w4 := rq_l CF1 hz w1 w3; exact ⟨i', l1 + 1, w2, w3, by rw [Q2 h _ _ a_h0]; omega, by have w5 : x26.toInt = x8.toInt + 1 := e_x26; omega, by omega⟩, fun h => Q1.2 h⟩ _ (lv_sub hl [0, 1, 2, 3] rfl)
  exact L_20 _ G6 hM _ _ hB g2 r3 a_h0 vg4 1 (q_1.wk (by decide)) 0 (q_0.wk (by decide)) (Nat.lt_succ_self _) ⟨fun _ => ⟨0, 0, RS0, rfl, hl9 _ _ a_h9, rfl, by decide⟩, fun h => absurd h (by decide)⟩ _ (lv_sub hl [0, 1, 2, 5] rfl)
