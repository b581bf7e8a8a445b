/-- the number of bells as it was read -/
def iv_k146 (b : Nat) (x : Int32) (G : iv_G) : Prop := ∃ (g : Nat → Int32) (r : Nat → Nat), G b = some (60, g, r) ∧ g 146 = x
theorem iv_k146.stp {b : Nat} {x : Int32} {S : List Nat} {G1 G2 : iv_G} (h : iv_k146 b x G1) (hm : iv_Md S G1 G2) : iv_k146 b x G2 := by
  obtain ⟨g, r, h1, h2⟩ := h
  obtain ⟨g2, r2, h3, rel⟩ := hm.ex h1
  exact ⟨g2, r2, h3, (rel.2.1 146 (show (146 : Nat) ∈ iv_stab 60 from by decide)).trans h2⟩
theorem iv_k146.val {b c : Nat} {x : Int32} {G : iv_G} {g : Nat → Int32} {r : Nat → Nat} (h : iv_k146 b x G) (e : c = b) (hc : G c = some (60, g, r)) : g 146 = x := by
  obtain ⟨g2, r2, h1, h2⟩ := h
  subst e
  have e2 := h1.symm.trans hc
  cases e2
  exact h2
def iv_only2 (b c : Nat) (G G' : iv_G) : Prop := ∀ a, a ≠ b → a ≠ c → G' a = G a
theorem iv_only2.rf {b c : Nat} {G : iv_G} : iv_only2 b c G G := fun _ _ _ => rfl
theorem iv_only2.up {b c a : Nat} {G G' : iv_G} {k : iv_K} (h : iv_only2 b c G G') (ha : a = b ∨ a = c) : iv_only2 b c G (iv_up G' a k) := fun q h1 h2 => by
  have e : q ≠ a := by rcases ha with e | e <;> (subst e; assumption)
  rw [iv_up_ne e]
  exact h q h1 h2
def iv_im (gw gk src : Nat → Int32) (i : Nat) (gW gK : Nat → Int32) : Prop := (∀ j, j < i → gW j = src j ∧ gK j = src j) ∧ ∀ j, i ≤ j → gW j = gw j ∧ gK j = gk j
theorem iv_im.zero {gw gk src : Nat → Int32} : iv_im gw gk src 0 gw gk := ⟨fun j hj => absurd hj (Nat.not_lt_zero _), fun _ _ => ⟨rfl, rfl⟩⟩
theorem iv_im.one {gw gk src gW gK : Nat → Int32} {i a b : Nat} (h : iv_im gw gk src i gW gK) (hs : src = gw) (ea : a = i) (eb : b = i) : iv_im gw gk src (i + 1) gW (upd gK a (gW b)) := by
  rw [ea, eb]
  refine ⟨fun j hj => ?_, fun j hj => ?_⟩
  · by_cases e : j = i
    · subst e
      have w := h.2 j (Nat.le_refl _)
      refine ⟨by rw [w.1, hs], ?_⟩
      simp only [upd]
      rw [if_pos trivial, w.1, hs]
    · have w := h.1 j (by omega)
      refine ⟨w.1, ?_⟩
      simp only [upd]
      rw [if_neg e]
      exact w.2
  · have w := h.2 j (by omega)
    refine ⟨w.1, ?_⟩
    simp only [upd]
    rw [if_neg (by omega)]
    exact w.2
theorem iv_im.two {gw gk src gW gK : Nat → Int32} {i a b : Nat} (h : iv_im gw gk src i gW gK) (hs : src = gk) (ea : a = i) (eb : b = i) : iv_im gw gk src (i + 1) (upd gW a (gK b)) gK := by
  rw [ea, eb]
  refine ⟨fun j hj => ?_, fun j hj => ?_⟩
  · by_cases e : j = i
    · subst e
      have w := h.2 j (Nat.le_refl _)
      refine ⟨?_, by rw [w.2, hs]⟩
      simp only [upd]
      rw [if_pos trivial, w.2, hs]
    · have w := h.1 j (by omega)
      refine ⟨?_, w.2⟩
      simp only [upd]
      rw [if_neg e]
      exact w.1
  · have w := h.2 j (by omega)
    refine ⟨?_, w.2⟩
    simp only [upd]
    rw [if_neg (by omega)]
    exact w.1
theorem iv_lw.cong {g g' : Nat → Int32} {k : Nat} (hk : k < 2) (h16 : (g (150 + k)).toInt ≤ 16) (h : iv_lw g k) (e : ∀ j, j < 2514 → g' j = g j) : iv_lw g' k := fun i hi => by
  rw [e _ (by omega)] at hi
  obtain ⟨b, m, e', l1, l2, l3, l4, l5, l6, l7, l8⟩ := h i hi
  refine ⟨b, m, e', by rw [e _ (by omega)]; exact l1, by rw [e _ (by omega)]; exact l2, by rw [e _ (by omega)]; exact l3, l4, l5, l6, ?_, ?_⟩
  · exact iv_sg_cong _ _ _ (fun j h1 h2 => e _ (by omega)) l7
  · exact iv_sg_cong _ _ _ (fun j h1 h2 => e _ (by omega)) l8
theorem iv_wP.cong {g g' : Nat → Int32} (h : iv_wP g) (e : ∀ j, j < 2514 → g' j = g j) : iv_wP g' := by
  have h1 := (h.1 150 (by decide)).2
  rw [show (iv_wb 150).2 = 16 from by decide] at h1
  have h2 := (h.1 151 (by decide)).2
  rw [show (iv_wb 151).2 = 16 from by decide] at h2
  exact ⟨fun i hi => by rw [e i (by omega)]; exact h.1 i hi, iv_lw.cong (by decide) h1 h.2.1 e, iv_lw.cong (by decide) h2 h.2.2 e⟩
theorem iv_eqg {b c a : Nat} {G G' : iv_G} {g1 g2 g3 g4 : Nat → Int32} {r1 r2 r3 r4 : Nat → Nat} (hO : iv_only2 b c G G') (h1 : G a = some (12, g1, r1)) (h2 : G' a = some (12, g2, r2)) (h3 : G b = some (60, g3, r3)) (h4 : G c = some (60, g4, r4)) : g2 = g1 := by
  have n1 : a ≠ b := fun e => by
    rw [e] at h1
    cases h1.symm.trans h3
  have n2 : a ≠ c := fun e => by
    rw [e] at h1
    cases h1.symm.trans h4
  have e := h2.symm.trans ((hO a n1 n2).trans h1)
  cases e
  rfl
theorem iv_getk {D : va_G} {tys : List (ClassId × FieldType)} {base : Nat} {G : iv_G} {H0 H : Heap} {locs : List Loc} {a : Nat} {g : Nat → Int32} {r : Nat → Nat} (hB : iv_B iv_sh D classes tys base G H0 H locs) (ha : G a = some (12, g, r)) : ∃ (f : Nat → Int32) (q : Nat → Nat), G (r 1) = some (60, f, q) := by
  obtain ⟨q, h1, h2, h3⟩ := (hB.got ha).obj sh_12
  have hq : q = (RX12, TX12, 32) := Option.some.inj (h1.symm.trans ft_X12.1)
  subst hq
  obtain ⟨⟨c', g', r'⟩, h5, h6⟩ : ∃ k' : iv_K, G (r 1) = some k' ∧ k'.1 = 60 := h3 1 (by decide)
  have h6 : c' = 60 := h6
  subst h6
  exact ⟨g', r', h5⟩
theorem iv_refs {S : List Nat} {G1 G2 : iv_G} {h : Nat} {g1 g2 : Nat → Int32} {r1 r2 : Nat → Nat} (hm : iv_MdT S G1 G2) (a1 : G1 h = some (12, g1, r1)) (a2 : G2 h = some (12, g2, r2)) : r2 = r1 := by
  obtain ⟨g3, r3, c2, rel⟩ := hm.ex a1
  have e := c2.symm.trans a2
  cases e
  exact funext fun j => rel.1 j (fun h => absurd (show (12 : Nat) = 5 from h) (by decide))
theorem iv_refsO {S : List Nat} {G1 G2 : iv_G} {h : Nat} {g1 g2 : Nat → Int32} {r1 r2 : Nat → Nat} (hm : iv_MdO S G1 G2) (a1 : G1 h = some (12, g1, r1)) (a2 : G2 h = some (12, g2, r2)) : r2 = r1 := by
  obtain ⟨g3, r3, c2, rel⟩ := hm.ex a1
  have e := c2.symm.trans a2
  cases e
  exact funext fun j => rel.1 j (fun h => absurd (show (12 : Nat) = 5 from h) (by decide))
theorem dX12_end_0 : decode cX12_end 0 = .ok (.iload_n 1, 1) := by decide +kernel
theorem dX12_end_1 : decode cX12_end 1 = .ok (.iconst 0, 1) := by decide +kernel
theorem dX12_end_2 : decode cX12_end 2 = .ok (.aload_n 0, 1) := by decide +kernel
theorem dX12_end_3 : decode cX12_end 3 = .ok (.getfield 82, 3) := by decide +kernel
theorem dX12_end_6 : decode cX12_end 6 = .ok (.invokestatic 56, 3) := by decide +kernel
theorem dX12_end_9 : decode cX12_end 9 = .ok (.ifCond .ne 5, 3) := by decide +kernel
theorem dX12_end_12 : decode cX12_end 12 = .ok (.iconst 0, 1) := by decide +kernel
theorem dX12_end_13 : decode cX12_end 13 = .ok (.ireturn, 1) := by decide +kernel
theorem dX12_end_14 : decode cX12_end 14 = .ok (.aload_n 0, 1) := by decide +kernel
theorem dX12_end_15 : decode cX12_end 15 = .ok (.iload_n 1, 1) := by decide +kernel
theorem dX12_end_16 : decode cX12_end 16 = .ok (.putfield 82, 3) := by decide +kernel
theorem dX12_end_19 : decode cX12_end 19 = .ok (.iconst 1, 1) := by decide +kernel
theorem dX12_end_20 : decode cX12_end 20 = .ok (.ireturn, 1) := by decide +kernel
set_option maxHeartbeats 4000000 in
set_option maxRecDepth 100000 in
theorem e_X12_end (l : Launch) (D : va_G) (tys : List (ClassId × FieldType)) (base : Nat) (G : iv_G) (h0 : Nat) (g_h0 : Nat → Int32) (r_h0 : Nat → Nat) (a_h0 : G h0 = some (12, g_h0, r_h0)) (x_0 : Int32) (i_x_0 : iv_R (-2147483648) 2147483647 x_0) : Met l yX12_end (Cond.code yX12_end cX12_end 2 (some .boolean) :: iv_W0) ({ frames := 1, cells := 0, slots := 0, locals := 22 }) (iv_Pc iv_sh D classes tys base G [.ref h0, .int x_0]) (iv_Qi iv_sh D classes tys base (fun v G' => iv_MdT [12] G G' ∧ iv_R 0 1 v ∧ (¬ v = 0 → iv_R 0 400 x_0) ∧ ((v = 0 → (x_0.toInt < 0 ∨ (g_h0 15).toInt < x_0.toInt) ∧ ∀ (g' : Nat → Int32) (r' : Nat → Nat), G' h0 = some (12, g', r') → g' 15 = g_h0 15) ∧ (¬ v = 0 → (0 ≤ x_0.toInt ∧ x_0.toInt ≤ (g_h0 15).toInt) ∧ ∀ (g' : Nat → Int32) (r' : Nat → Nat), G' h0 = some (12, g', r') → g' 15 = x_0)))) 0 0 (iv_A base) := by
  refine iv_head (by decide) (Nat.le_of_ble_eq_true rfl) ?_
  intro p e s m args below meth c ls X hr hlocks hname hB hl
  have X := X
  have hx := X.1.1
  have hb := X.1.2.1
  have hM : iv_MdT [12] G G := iv_MdT.rf
  have hl : lv_has ls 2 [(0, .ref h0), (1, .int x_0)] := hl
  refine lv_iload_n hx hb dX12_end_0 rfl (lv_at hl 1 rfl) ?_
  refine lv_iconst (v := 0) hx hb dX12_end_1 (by decide) ?_
  refine lv_aload_n hx hb dX12_end_2 rfl (lv_at hl 0 rfl) ?_
  refine iv_geti X ft_X12 hB a_h0 sh_12 15 (by decide) rfl k_fl_X12_82 dX12_end_3 (fun x1 e_x1 i_x1 => ?_)
  refine iv_cSi X k_good k_mf_X12_isIn k_st_X12_isIn k_ml_X12_56 hB (As := [.int x_0, .int 0, .int x1]) (c_X12_isIn l D tys base G x_0 i_x_0 0 (q_0.wk (by decide)) x1 (i_x1.wk (by decide))) ⟨rfl, rfl⟩ ⟨Nat.le_of_ble_eq_true rfl, Nat.le_of_ble_eq_true rfl⟩ ⟨Nat.le_of_ble_eq_true rfl, Nat.le_of_ble_eq_true rfl⟩ rfl rfl hl.1 (Nat.le_of_ble_eq_true rfl) dX12_end_6 (fun x2 G9 H locs hq hB => ?_)
  obtain ⟨rfl, i_x2, hp3⟩ := hq
  have k4 : ¬ x2 = 0 → iv_R 0 400 x_0 := fun h => ⟨iv_max i_x_0.1 (Int.le_trans q_0.1 (hp3.1 h).1) (by decide), iv_min i_x_0.2 (Int.le_trans (hp3.1 h).2 i_x1.2) (by decide)⟩
  refine lv_if_ne (tgt := 14) hx hb dX12_end_9 (by decide) (fun c5 => ?_) (fun c5 => ?_)
  · skip
    have i5_x2 : iv_R 1 1 x2 := iv_ne_lo c5 i_x2 q_0 (by decide)
    have i6_x_0 : iv_R 0 400 x_0 := ((i_x_0.cutLo (n := 0) (k4 c5).1).cutHi (n := 400) (k4 c5).2)
    refine lv_aload_n hx hb dX12_end_14 rfl (lv_at hl 0 rfl) ?_
    refine lv_iload_n hx hb dX12_end_15 rfl (lv_at hl 1 rfl) ?_
    refine iv_puti X ft_X12 hB a_h0 sh_12 15 (by decide) rfl rfl k_fl_X12_82 rfl i6_x_0 rfl rfl dX12_end_16 (fun H locs hB => ?_)
    have hm := iv_MdT.put (x := x_0) a_h0 (j := 15) (by decide)
    have h9 := iv_up_eq (G := G) (a := h0) (k := (12, upd g_h0 15 x_0, r_h0))
    generalize iv_up G h0 _ = G8 at hB hm h9
    have hM := hM.stp hm (by decide)
    generalize hgn_g9 : upd g_h0 _ _ = g9 at h9
    have a_h0 := h9
    have e9_g9 : x_0 = g9 15 := by rw [← hgn_g9]; simp [upd]
    refine lv_iconst (v := 1) hx hb dX12_end_19 (by decide) ?_
    exact iv_zret X hr hlocks hB (q_1.wk (by decide)) ⟨hM, (q_1.wk (by decide)), fun _ => i6_x_0, ⟨fun h => absurd h (by decide), fun _ => ⟨(by have w1 := hp3.1 (by assumption); have w2 := congrArg Int32.toInt e_x1; have z0 : (0 : Int32).toInt = 0 := rfl; omega), fun g9 r9 h9 => by have h8 := a_h0.symm.trans h9; cases h8; exact e9_g9.symm⟩⟩⟩ dX12_end_20
  · skip
    have i9_x2 : iv_R 0 0 x2 := (i_x2.cutHi (n := 0) (iv_eq_r c5 q_0).2)
    refine lv_iconst (v := 0) hx hb dX12_end_12 (by decide) ?_
    exact iv_zret X hr hlocks hB (q_0.wk (by decide)) ⟨hM, (q_0.wk (by decide)), fun h => absurd (iv_z q_0) h, ⟨fun _ => ⟨(by have w1 := hp3.2 (by assumption); have w2 := congrArg Int32.toInt e_x1; have z0 : (0 : Int32).toInt = 0 := rfl; omega), fun g9 r9 h9 => by have h8 := a_h0.symm.trans h9; cases h8; rfl⟩, fun h => absurd rfl h⟩⟩ dX12_end_13
theorem dX12_feed_0 : decode cX12_feed 0 = .ok (.aload_n 0, 1) := by decide +kernel
theorem dX12_feed_1 : decode cX12_feed 1 = .ok (.getfield 82, 3) := by decide +kernel
theorem dX12_feed_4 : decode cX12_feed 4 = .ok (.bipush 20, 2) := by decide +kernel
theorem dX12_feed_6 : decode cX12_feed 6 = .ok (.iadd, 1) := by decide +kernel
theorem dX12_feed_7 : decode cX12_feed 7 = .ok (.sipush 400, 3) := by decide +kernel
theorem dX12_feed_10 : decode cX12_feed 10 = .ok (.if_icmp .le 5, 3) := by decide +kernel
theorem dX12_feed_13 : decode cX12_feed 13 = .ok (.iconst (-1), 1) := by decide +kernel
theorem dX12_feed_14 : decode cX12_feed 14 = .ok (.ireturn, 1) := by decide +kernel
theorem dX12_feed_15 : decode cX12_feed 15 = .ok (.iconst 0, 1) := by decide +kernel
theorem dX12_feed_16 : decode cX12_feed 16 = .ok (.istore 6, 2) := by decide +kernel
theorem dX12_feed_18 : decode cX12_feed 18 = .ok (.iload 6, 2) := by decide +kernel
theorem dX12_feed_20 : decode cX12_feed 20 = .ok (.bipush 20, 2) := by decide +kernel
theorem dX12_feed_22 : decode cX12_feed 22 = .ok (.if_icmp .ge 93, 3) := by decide +kernel
theorem dX12_feed_25 : decode cX12_feed 25 = .ok (.iload 6, 2) := by decide +kernel
theorem dX12_feed_27 : decode cX12_feed 27 = .ok (.iconst 4, 1) := by decide +kernel
theorem dX12_feed_28 : decode cX12_feed 28 = .ok (.if_icmp .ge 7, 3) := by decide +kernel
theorem dX12_feed_31 : decode cX12_feed 31 = .ok (.iload_n 1, 1) := by decide +kernel
theorem dX12_feed_32 : decode cX12_feed 32 = .ok (.goto 39, 3) := by decide +kernel
theorem dX12_feed_35 : decode cX12_feed 35 = .ok (.iload 6, 2) := by decide +kernel
theorem dX12_feed_37 : decode cX12_feed 37 = .ok (.bipush 8, 2) := by decide +kernel
theorem dX12_feed_39 : decode cX12_feed 39 = .ok (.if_icmp .ge 7, 3) := by decide +kernel
theorem dX12_feed_42 : decode cX12_feed 42 = .ok (.iload_n 2, 1) := by decide +kernel
theorem dX12_feed_43 : decode cX12_feed 43 = .ok (.goto 28, 3) := by decide +kernel
theorem dX12_feed_46 : decode cX12_feed 46 = .ok (.iload 6, 2) := by decide +kernel
theorem dX12_feed_48 : decode cX12_feed 48 = .ok (.bipush 12, 2) := by decide +kernel
theorem dX12_feed_50 : decode cX12_feed 50 = .ok (.if_icmp .ge 7, 3) := by decide +kernel
theorem dX12_feed_53 : decode cX12_feed 53 = .ok (.iload_n 3, 1) := by decide +kernel
theorem dX12_feed_54 : decode cX12_feed 54 = .ok (.goto 17, 3) := by decide +kernel
theorem dX12_feed_57 : decode cX12_feed 57 = .ok (.iload 6, 2) := by decide +kernel
theorem dX12_feed_59 : decode cX12_feed 59 = .ok (.bipush 16, 2) := by decide +kernel
theorem dX12_feed_61 : decode cX12_feed 61 = .ok (.if_icmp .ge 8, 3) := by decide +kernel
theorem dX12_feed_64 : decode cX12_feed 64 = .ok (.iload 4, 2) := by decide +kernel
theorem dX12_feed_66 : decode cX12_feed 66 = .ok (.goto 5, 3) := by decide +kernel
theorem dX12_feed_69 : decode cX12_feed 69 = .ok (.iload 5, 2) := by decide +kernel
theorem dX12_feed_71 : decode cX12_feed 71 = .ok (.istore 7, 2) := by decide +kernel
theorem dX12_feed_73 : decode cX12_feed 73 = .ok (.aload_n 0, 1) := by decide +kernel
theorem dX12_feed_74 : decode cX12_feed 74 = .ok (.getfield 28, 3) := by decide +kernel
theorem dX12_feed_77 : decode cX12_feed 77 = .ok (.aload_n 0, 1) := by decide +kernel
theorem dX12_feed_78 : decode cX12_feed 78 = .ok (.getfield 82, 3) := by decide +kernel
theorem dX12_feed_81 : decode cX12_feed 81 = .ok (.iload 7, 2) := by decide +kernel
theorem dX12_feed_83 : decode cX12_feed 83 = .ok (.bipush 24, 2) := by decide +kernel
theorem dX12_feed_85 : decode cX12_feed 85 = .ok (.bipush 8, 2) := by decide +kernel
theorem dX12_feed_87 : decode cX12_feed 87 = .ok (.iload 6, 2) := by decide +kernel
theorem dX12_feed_89 : decode cX12_feed 89 = .ok (.iconst 4, 1) := by decide +kernel
theorem dX12_feed_90 : decode cX12_feed 90 = .ok (.irem, 1) := by decide +kernel
theorem dX12_feed_91 : decode cX12_feed 91 = .ok (.imul, 1) := by decide +kernel
theorem dX12_feed_92 : decode cX12_feed 92 = .ok (.isub, 1) := by decide +kernel
theorem dX12_feed_93 : decode cX12_feed 93 = .ok (.ishr, 1) := by decide +kernel
theorem dX12_feed_94 : decode cX12_feed 94 = .ok (.sipush 255, 3) := by decide +kernel
theorem dX12_feed_97 : decode cX12_feed 97 = .ok (.iand, 1) := by decide +kernel
theorem dX12_feed_98 : decode cX12_feed 98 = .ok (.iastore, 1) := by decide +kernel
theorem dX12_feed_99 : decode cX12_feed 99 = .ok (.aload_n 0, 1) := by decide +kernel
theorem dX12_feed_100 : decode cX12_feed 100 = .ok (.dup, 1) := by decide +kernel
theorem dX12_feed_101 : decode cX12_feed 101 = .ok (.getfield 82, 3) := by decide +kernel
theorem dX12_feed_104 : decode cX12_feed 104 = .ok (.iconst 1, 1) := by decide +kernel
theorem dX12_feed_105 : decode cX12_feed 105 = .ok (.iadd, 1) := by decide +kernel
theorem dX12_feed_106 : decode cX12_feed 106 = .ok (.putfield 82, 3) := by decide +kernel
theorem dX12_feed_109 : decode cX12_feed 109 = .ok (.iinc 6 1, 3) := by decide +kernel
theorem dX12_feed_112 : decode cX12_feed 112 = .ok (.goto (-94), 3) := by decide +kernel
theorem dX12_feed_115 : decode cX12_feed 115 = .ok (.aload_n 0, 1) := by decide +kernel
theorem dX12_feed_116 : decode cX12_feed 116 = .ok (.getfield 82, 3) := by decide +kernel
theorem dX12_feed_119 : decode cX12_feed 119 = .ok (.ireturn, 1) := by decide +kernel
set_option maxHeartbeats 4000000 in
set_option maxRecDepth 100000 in
theorem e_X12_feed (l : Launch) (D : va_G) (tys : List (ClassId × FieldType)) (base : Nat) (G : iv_G) (h0 : Nat) (g_h0 : Nat → Int32) (r_h0 : Nat → Nat) (a_h0 : G h0 = some (12, g_h0, r_h0)) (x_0 : Int32) (i_x_0 : iv_R (-2147483648) 2147483647 x_0) (x_1 : Int32) (i_x_1 : iv_R (-2147483648) 2147483647 x_1) (x_2 : Int32) (i_x_2 : iv_R (-2147483648) 2147483647 x_2) (x_3 : Int32) (i_x_3 : iv_R (-2147483648) 2147483647 x_3) (x_4 : Int32) (i_x_4 : iv_R (-2147483648) 2147483647 x_4) : Met l yX12_feed (Cond.code yX12_feed cX12_feed 8 (some .int) :: iv_W0) ({ frames := 0, cells := 0, slots := 0, locals := 0 }) (iv_Pc iv_sh D classes tys base G [.ref h0, .int x_0, .int x_1, .int x_2, .int x_3, .int x_4]) (iv_Qi iv_sh D classes tys base (fun v G' => iv_MdT [12, 66] G G' ∧ iv_R (-1) 400 v ∧ ((400 < (g_h0 15).toInt + 20 → v = -1 ∧ ∀ (g' : Nat → Int32) (r' : Nat → Nat), G' h0 = some (12, g', r') → g' 15 = g_h0 15) ∧ ((g_h0 15).toInt + 20 ≤ 400 → ∀ (g' : Nat → Int32) (r' : Nat → Nat), G' h0 = some (12, g', r') → (g' 15).toInt = (g_h0 15).toInt + 20 ∧ v = g' 15)))) 0 0 (iv_A base) := by
  refine iv_head (by decide) (Nat.le_of_ble_eq_true rfl) ?_
  intro p e s m args below meth c ls X hr hlocks hname hB hl
  have X := X
  have hx := X.1.1
  have hb := X.1.2.1
  have hM : iv_MdT [12, 66] G G := iv_MdT.rf
  have hl : lv_has ls 8 [(0, .ref h0), (1, .int x_0), (2, .int x_1), (3, .int x_2), (4, .int x_3), (5, .int x_4)] := hl
  refine lv_aload_n hx hb dX12_feed_0 rfl (lv_at hl 0 rfl) ?_
  refine iv_geti X ft_X12 hB a_h0 sh_12 15 (by decide) rfl k_fl_X12_82 dX12_feed_1 (fun x1 e_x1 i_x1 => ?_)
  refine lv_bipush (v := 20) hx hb dX12_feed_4 (by decide) ?_
  refine iv_iadd hx hb i_x1 q_20 (lo := 20) (hi := 420) (by decide) dX12_feed_6 (fun x2 e_x2 i_x2 => ?_)
  have e_x2 : x2.toInt = x1.toInt + 20 := e_x2
  refine lv_sipush (v := 400) hx hb dX12_feed_7 (by decide) ?_
  refine lv_icmp_le (tgt := 15) hx hb dX12_feed_10 (by decide) (fun c3 => ?_) (fun c3 => ?_)
  · skip
    have i3_x2 : iv_R 20 400 x2 := (i_x2.cutHi (n := 400) (iv_le_r c3 q_400))
    refine lv_iconst (v := 0) hx hb dX12_feed_15 (by decide) ?_
    refine lv_istore (lv' := [(6, .int 0), (0, .ref h0), (1, .int x_0), (2, .int x_1), (3, .int x_2), (4, .int x_3), (5, .int x_4)]) hx hb dX12_feed_16 hl (by decide) rfl (fun ls hl => ?_)
    have L_18 : ∀ (n_18 : Nat) (G8 : iv_G) (hM : iv_MdT [12, 66] G G8) (H : Heap) (locs : List Loc) (hB : iv_B iv_sh D classes tys base G8 s.heap H locs) (g6 : Nat → Int32) (r7 : Nat → Nat) (a_h0 : G8 h0 = some (12, g6, r7)) (x5 : Int32) (i_x5 : iv_R 0 20 x5) (hn_18 : (21 - x5.toInt).toNat < n_18) (gi_18 : (g6 15).toInt = (g_h0 15).toInt + x5.toInt) (ls : Array Slot) (hl : lv_has ls 8 [(6, .int x5), (0, .ref h0), (1, .int x_0), (2, .int x_1), (3, .int x_2), (4, .int x_3), (5, .int x_4)]), W p l e ({ frames := 0, cells := 0, slots := 0, locals := 0 } : Room) s m args below meth c H locs 0 0 (MQ below (iv_Qi iv_sh D classes tys base (fun v G' => iv_MdT [12, 66] G G' ∧ iv_R (-1) 400 v ∧ ((400 < (g_h0 15).toInt + 20 → v = -1 ∧ ∀ (g' : Nat → Int32) (r' : Nat → Nat), G' h0 = some (12, g', r') → g' 15 = g_h0 15) ∧ ((g_h0 15).toInt + 20 ≤ 400 → ∀ (g' : Nat → Int32) (r' : Nat → Nat), G' h0 = some (12, g', r') → (g' 15).toInt = (g_h0 15).toInt + 20 ∧ v = g' 15)))) args s 0 0 (iv_A base)) (F0 m 18 ls []) := by
      intro n_18
      induction n_18 with
      | zero => intro G8 hM H locs hB g6 r7 a_h0 x5 i_x5 hn_18 gi_18 ls hl; exact absurd hn_18 (Nat.not_lt_zero _)
      | succ n_18 ih_18 =>
        intro G8 hM H locs hB g6 r7 a_h0 x5 i_x5 hn_18 gi_18 ls hl
        refine lv_iload hx hb dX12_feed_18 (lv_at hl 0 rfl) ?_
        refine lv_bipush (v := 20) hx hb dX12_feed_20 (by decide) ?_
        refine lv_icmp_ge (tgt := 115) hx hb dX12_feed_22 (by decide) (fun c9 => ?_) (fun c9 => ?_)
        · skip
          have i9_x5 : iv_R 20 20 x5 := (i_x5.cutLo (n := 20) (iv_le_l c9 q_20))
          refine lv_aload_n hx hb dX12_feed_115 rfl (lv_at hl 1 rfl) ?_
          refine iv_geti X ft_X12 hB a_h0 sh_12 15 (by decide) rfl k_fl_X12_82 dX12_feed_116 (fun x11 e_x11 i_x11 => ?_)
          exact iv_iret X hr hlocks hB ⟨hM, (i_x11.wk (by decide)), ⟨fun h => absurd h (by have w3 := i3_x2.2; have w4 : x2.toInt = x1.toInt + 20 := e_x2; have w5 := congrArg Int32.toInt e_x1; omega), fun _ => fun g9 r9 h9 => by have h8 := a_h0.symm.trans h9; cases h8; exact ⟨by have w1 := gi_18; have w2 := i9_x5.1; have w3 := i9_x5.2; omega, e_x11⟩⟩⟩ dX12_feed_119
        · skip
          have i11_x5 : iv_R 0 19 x5 := (i_x5.cutHi (n := 19) (iv_lt_r (iv_nle c9) q_20 (by decide)))
          refine lv_iload hx hb dX12_feed_25 (lv_at hl 0 rfl) ?_
          refine lv_iconst (v := 4) hx hb dX12_feed_27 (by decide) ?_
          refine lv_icmp_ge (tgt := 35) hx hb dX12_feed_28 (by decide) (fun c13 => ?_) (fun c13 => ?_)
          · skip
            have i13_x5 : iv_R 4 19 x5 := (i11_x5.cutLo (n := 4) (iv_le_l c13 q_4))
            refine lv_iload hx hb dX12_feed_35 (lv_at hl 0 rfl) ?_
            refine lv_bipush (v := 8) hx hb dX12_feed_37 (by decide) ?_
            refine lv_icmp_ge (tgt := 46) hx hb dX12_feed_39 (by decide) (fun c15 => ?_) (fun c15 => ?_)
            · skip
              have i15_x5 : iv_R 8 19 x5 := (i13_x5.cutLo (n := 8) (iv_le_l c15 q_8))
              refine lv_iload hx hb dX12_feed_46 (lv_at hl 0 rfl) ?_
              refine lv_bipush (v := 12) hx hb dX12_feed_48 (by decide) ?_
              refine lv_icmp_ge (tgt := 57) hx hb dX12_feed_50 (by decide) (fun c17 => ?_) (fun c17 => ?_)
              · skip
                have i17_x5 : iv_R 12 19 x5 := (i15_x5.cutLo (n := 12) (iv_le_l c17 q_12))
                refine lv_iload hx hb dX12_feed_57 (lv_at hl 0 rfl) ?_
                refine lv_bipush (v := 16) hx hb dX12_feed_59 (by decide) ?_
                refine lv_icmp_ge (tgt := 69) hx hb dX12_feed_61 (by decide) (fun c19 => ?_) (fun c19 => ?_)
                · skip
                  have i19_x5 : iv_R 16 19 x5 := (i17_x5.cutLo (n := 16) (iv_le_l c19 q_16))
                  refine lv_iload hx hb dX12_feed_69 (lv_at hl 6 rfl) ?_
                  refine lv_istore (lv' := [(7, .int x_4), (6, .int x5), (0, .ref h0), (1, .int x_0), (2, .int x_1), (3, .int x_2), (4, .int x_3), (5, .int x_4)]) hx hb dX12_feed_71 hl (by decide) rfl (fun ls hl => ?_)
                  refine lv_aload_n hx hb dX12_feed_73 rfl (lv_at hl 2 rfl) ?_
                  refine iv_getr X ft_X12 hB a_h0 sh_12 8 (by decide) rfl k_fl_X12_28 dX12_feed_74 (fun b21 g_b21 r_b21 e_b21 a_b21 => ?_)
                  refine lv_aload_n hx hb dX12_feed_77 rfl (lv_at hl 2 rfl) ?_
                  refine iv_geti X ft_X12 hB a_h0 sh_12 15 (by decide) rfl k_fl_X12_82 dX12_feed_78 (fun x22 e_x22 i_x22 => ?_)
                  have i22_x22 : iv_R 0 399 x22 := ⟨i_x22.1, by have w1 := congrArg Int32.toInt e_x22; have w2 := gi_18; have w3 := i3_x2.2; have w4 : x2.toInt = x1.toInt + 20 := e_x2; have w5 := congrArg Int32.toInt e_x1; have w6 := i19_x5.2; omega⟩
                  refine lv_iload hx hb dX12_feed_81 (lv_at hl 0 rfl) ?_
                  refine lv_bipush (v := 24) hx hb dX12_feed_83 (by decide) ?_
                  refine lv_bipush (v := 8) hx hb dX12_feed_85 (by decide) ?_
                  refine lv_iload hx hb dX12_feed_87 (lv_at hl 1 rfl) ?_
                  refine lv_iconst (v := 4) hx hb dX12_feed_89 (by decide) ?_
                  refine iv_iremp hx hb i19_x5 q_4 (lo := 0) (hi := 3) (by decide) dX12_feed_90 (fun x24 e_x24 i_x24 => ?_)
                  refine iv_imul hx hb q_8 i_x24 (lo := 0) (hi := 24) (by decide) dX12_feed_91 (fun x25 e_x25 i_x25 => ?_)
                  have e_x25 : x25.toInt = 8 * x24.toInt := e_x25
                  refine iv_isub hx hb q_24 i_x25 (lo := 0) (hi := 24) (by decide) dX12_feed_92 (fun x26 e_x26 i_x26 => ?_)
                  have e_x26 : x26.toInt = 24 - x25.toInt := e_x26
                  refine lv_ishr hx hb dX12_feed_93 ?_
                  refine lv_topi (fun x27 e_x27 => ?_)
                  have i_x27 := iv_R.all x27
                  refine lv_sipush (v := 255) hx hb dX12_feed_94 (by decide) ?_
                  refine iv_iand_r hx hb q_255 (by decide) dX12_feed_97 (fun x28 e_x28 i_x28 => ?_)
                  refine iv_ast X hB a_b21 sh_66 (iv_in i22_x22 (by decide)) i_x28 dX12_feed_98 (fun H locs hB => ?_)
                  have hm := iv_Md.ast (j := x22.toNatClampNeg) (x := x28) a_b21 rfl (by decide)
                  have h9 := iv_up_eq (G := G8) (a := b21) (k := (66, upd g_b21 x22.toNatClampNeg x28, r_b21))
                  generalize iv_up G8 b21 _ = G29 at hB hm h9
                  have hM := hM.stp (iv_MdT.of hm) (by decide)
                  have a_h0 := hm.at a_h0 (by decide)
                  refine lv_aload_n hx hb dX12_feed_99 rfl (lv_at hl 2 rfl) ?_
                  refine lv_dup hx hb dX12_feed_100 rfl ?_
                  refine iv_geti0 X ft_X12 hB a_h0 sh_12 15 (by decide) rfl k_fl_X12_82 dX12_feed_101 e_x22 ?_
                  refine lv_iconst (v := 1) hx hb dX12_feed_104 (by decide) ?_
                  refine iv_iadd hx hb i22_x22 q_1 (lo := 1) (hi := 400) (by decide) dX12_feed_105 (fun x31 e_x31 i_x31 => ?_)
                  have e_x31 : x31.toInt = x22.toInt + 1 := e_x31
                  refine iv_puti X ft_X12 hB a_h0 sh_12 15 (by decide) rfl rfl k_fl_X12_82 rfl (i_x31.wk (by decide)) rfl rfl dX12_feed_106 (fun H locs hB => ?_)
                  have hm := iv_MdT.put (x := x31) a_h0 (j := 15) (by decide)
                  have h9 := iv_up_eq (G := G29) (a := h0) (k := (12, upd g6 15 x31, r7))
                  generalize iv_up G29 h0 _ = G32 at hB hm h9
                  have hM := hM.stp hm (by decide)
                  generalize hgn_g33 : upd g6 _ _ = g33 at h9
                  have a_h0 := h9
                  have e9_g33 : x31 = g33 15 := by rw [← hgn_g33]; simp [upd]
                  refine iv_iinc hx hb i19_x5 (lo := 17) (hi := 20) (by decide) dX12_feed_109 hl (k := 1) rfl (by decide) (fun x34 ls e_x34 i_x34 hl => ?_)
                  have hl : lv_has ls 8 [(6, .int x34), (7, .int x_4), (0, .ref h0), (1, .int x_0), (2, .int x_1), (3, .int x_2), (4, .int x_3), (5, .int x_4)] := hl
                  refine lv_goto (tgt := 18) hx hb dX12_feed_112 (by decide) ?_
                  exact ih_18 G32 hM _ _ hB g33 r7 a_h0 x34 (i_x34.wk (by decide)) (iv_mup (c := 1) i_x5 (by decide) (by decide) (by omega) hn_18) (by have w1 := congrArg Int32.toInt e9_g33; have w2 := congrArg Int32.toInt e_x22; have w3 : x31.toInt = x22.toInt + 1 := e_x31; have w4 := gi_18; have w5 : x34.toInt = x5.toInt + 1 := e_x34; omega) _ (lv_sub hl [0, 2, 3, 4, 5, 6, 7] rfl)
                · skip
                  have i34_x5 : iv_R 12 15 x5 := (i17_x5.cutHi (n := 15) (iv_lt_r (iv_nle c19) q_16 (by decide)))
                  refine lv_iload hx hb dX12_feed_64 (lv_at hl 5 rfl) ?_
                  refine lv_goto (tgt := 71) hx hb dX12_feed_66 (by decide) ?_
                  refine lv_istore (lv' := [(7, .int x_3), (6, .int x5), (0, .ref h0), (1, .int x_0), (2, .int x_1), (3, .int x_2), (4, .int x_3), (5, .int x_4)]) hx hb dX12_feed_71 hl (by decide) rfl (fun ls hl => ?_)
                  refine lv_aload_n hx hb dX12_feed_73 rfl (lv_at hl 2 rfl) ?_
                  refine iv_getr X ft_X12 hB a_h0 sh_12 8 (by decide) rfl k_fl_X12_28 dX12_feed_74 (fun b36 g_b36 r_b36 e_b36 a_b36 => ?_)
                  refine lv_aload_n hx hb dX12_feed_77 rfl (lv_at hl 2 rfl) ?_
                  refine iv_geti X ft_X12 hB a_h0 sh_12 15 (by decide) rfl k_fl_X12_82 dX12_feed_78 (fun x37 e_x37 i_x37 => ?_)
                  have i37_x37 : iv_R 0 399 x37 := ⟨i_x37.1, by have w1 := congrArg Int32.toInt e_x37; have w2 := gi_18; have w3 := i3_x2.2; have w4 : x2.toInt = x1.toInt + 20 := e_x2; have w5 := congrArg Int32.toInt e_x1; have w6 := i34_x5.2; omega⟩
                  refine lv_iload hx hb dX12_feed_81 (lv_at hl 0 rfl) ?_
                  refine lv_bipush (v := 24) hx hb dX12_feed_83 (by decide) ?_
                  refine lv_bipush (v := 8) hx hb dX12_feed_85 (by decide) ?_
                  refine lv_iload hx hb dX12_feed_87 (lv_at hl 1 rfl) ?_
                  refine lv_iconst (v := 4) hx hb dX12_feed_89 (by decide) ?_
                  refine iv_iremp hx hb i34_x5 q_4 (lo := 0) (hi := 3) (by decide) dX12_feed_90 (fun x39 e_x39 i_x39 => ?_)
                  refine iv_imul hx hb q_8 i_x39 (lo := 0) (hi := 24) (by decide) dX12_feed_91 (fun x40 e_x40 i_x40 => ?_)
                  have e_x40 : x40.toInt = 8 * x39.toInt := e_x40
                  refine iv_isub hx hb q_24 i_x40 (lo := 0) (hi := 24) (by decide) dX12_feed_92 (fun x41 e_x41 i_x41 => ?_)
                  have e_x41 : x41.toInt = 24 - x40.toInt := e_x41
                  refine lv_ishr hx hb dX12_feed_93 ?_
                  refine lv_topi (fun x42 e_x42 => ?_)
                  have i_x42 := iv_R.all x42
                  refine lv_sipush (v := 255) hx hb dX12_feed_94 (by decide) ?_
                  refine iv_iand_r hx hb q_255 (by decide) dX12_feed_97 (fun x43 e_x43 i_x43 => ?_)
                  refine iv_ast X hB a_b36 sh_66 (iv_in i37_x37 (by decide)) i_x43 dX12_feed_98 (fun H locs hB => ?_)
                  have hm := iv_Md.ast (j := x37.toNatClampNeg) (x := x43) a_b36 rfl (by decide)
                  have h9 := iv_up_eq (G := G8) (a := b36) (k := (66, upd g_b36 x37.toNatClampNeg x43, r_b36))
                  generalize iv_up G8 b36 _ = G44 at hB hm h9
                  have hM := hM.stp (iv_MdT.of hm) (by decide)
                  have a_h0 := hm.at a_h0 (by decide)
                  refine lv_aload_n hx hb dX12_feed_99 rfl (lv_at hl 2 rfl) ?_
                  refine lv_dup hx hb dX12_feed_100 rfl ?_
                  refine iv_geti0 X ft_X12 hB a_h0 sh_12 15 (by decide) rfl k_fl_X12_82 dX12_feed_101 e_x37 ?_
                  refine lv_iconst (v := 1) hx hb dX12_feed_104 (by decide) ?_
                  refine iv_iadd hx hb i37_x37 q_1 (lo := 1) (hi := 400) (by decide) dX12_feed_105 (fun x46 e_x46 i_x46 => ?_)
                  have e_x46 : x46.toInt = x37.toInt + 1 := e_x46
                  refine iv_puti X ft_X12 hB a_h0 sh_12 15 (by decide) rfl rfl k_fl_X12_82 rfl (i_x46.wk (by decide)) rfl rfl dX12_feed_106 (fun H locs hB => ?_)
                  have hm := iv_MdT.put (x := x46) a_h0 (j := 15) (by decide)
                  have h9 := iv_up_eq (G := G44) (a := h0) (k := (12, upd g6 15 x46, r7))
                  generalize iv_up G44 h0 _ = G47 at hB hm h9
                  have hM := hM.stp hm (by decide)
                  generalize hgn_g48 : upd g6 _ _ = g48 at h9
                  have a_h0 := h9
                  have e9_g48 : x46 = g48 15 := by rw [← hgn_g48]; simp [upd]
                  refine iv_iinc hx hb i34_x5 (lo := 13) (hi := 16) (by decide) dX12_feed_109 hl (k := 1) rfl (by decide) (fun x49 ls e_x49 i_x49 hl => ?_)
                  have hl : lv_has ls 8 [(6, .int x49), (7, .int x_3), (0, .ref h0), (1, .int x_0), (2, .int x_1), (3, .int x_2), (4, .int x_3), (5, .int x_4)] := hl
                  refine lv_goto (tgt := 18) hx hb dX12_feed_112 (by decide) ?_
                  exact ih_18 G47 hM _ _ hB g48 r7 a_h0 x49 (i_x49.wk (by decide)) (iv_mup (c := 1) i_x5 (by decide) (by decide) (by omega) hn_18) (by have w1 := congrArg Int32.toInt e9_g48; have w2 := congrArg Int32.toInt e_x37; have w3 : x46.toInt = x37.toInt + 1 := e_x46; have w4 := gi_18; have w5 : x49.toInt = x5.toInt + 1 := e_x49; omega) _ (lv_sub hl [0, 2, 3, 4, 5, 6, 7] rfl)
              · skip
                have i49_x5 : iv_R 8 11 x5 := (i15_x5.cutHi (n := 11) (iv_lt_r (iv_nle c17) q_12 (by decide)))
                refine lv_iload_n hx hb dX12_feed_53 rfl (lv_at hl 4 rfl) ?_
                refine lv_goto (tgt := 71) hx hb dX12_feed_54 (by decide) ?_
                refine lv_istore (lv' := [(7, .int x_2), (6, .int x5), (0, .ref h0), (1, .int x_0), (2, .int x_1), (3, .int x_2), (4, .int x_3), (5, .int x_4)]) hx hb dX12_feed_71 hl (by decide) rfl (fun ls hl => ?_)
                refine lv_aload_n hx hb dX12_feed_73 rfl (lv_at hl 2 rfl) ?_
                refine iv_getr X ft_X12 hB a_h0 sh_12 8 (by decide) rfl k_fl_X12_28 dX12_feed_74 (fun b51 g_b51 r_b51 e_b51 a_b51 => ?_)
                refine lv_aload_n hx hb dX12_feed_77 rfl (lv_at hl 2 rfl) ?_
                refine iv_geti X ft_X12 hB a_h0 sh_12 15 (by decide) rfl k_fl_X12_82 dX12_feed_78 (fun x52 e_x52 i_x52 => ?_)
                have i52_x52 : iv_R 0 399 x52 := ⟨i_x52.1, by have w1 := congrArg Int32.toInt e_x52; have w2 := gi_18; have w3 := i3_x2.2; have w4 : x2.toInt = x1.toInt + 20 := e_x2; have w5 := congrArg Int32.toInt e_x1; have w6 := i49_x5.2; omega⟩
                refine lv_iload hx hb dX12_feed_81 (lv_at hl 0 rfl) ?_
                refine lv_bipush (v := 24) hx hb dX12_feed_83 (by decide) ?_
                refine lv_bipush (v := 8) hx hb dX12_feed_85 (by decide) ?_
                refine lv_iload hx hb dX12_feed_87 (lv_at hl 1 rfl) ?_
                refine lv_iconst (v := 4) hx hb dX12_feed_89 (by decide) ?_
                refine iv_iremp hx hb i49_x5 q_4 (lo := 0) (hi := 3) (by decide) dX12_feed_90 (fun x54 e_x54 i_x54 => ?_)
                refine iv_imul hx hb q_8 i_x54 (lo := 0) (hi := 24) (by decide) dX12_feed_91 (fun x55 e_x55 i_x55 => ?_)
                have e_x55 : x55.toInt = 8 * x54.toInt := e_x55
                refine iv_isub hx hb q_24 i_x55 (lo := 0) (hi := 24) (by decide) dX12_feed_92 (fun x56 e_x56 i_x56 => ?_)
                have e_x56 : x56.toInt = 24 - x55.toInt := e_x56
                refine lv_ishr hx hb dX12_feed_93 ?_
                refine lv_topi (fun x57 e_x57 => ?_)
                have i_x57 := iv_R.all x57
                refine lv_sipush (v := 255) hx hb dX12_feed_94 (by decide) ?_
                refine iv_iand_r hx hb q_255 (by decide) dX12_feed_97 (fun x58 e_x58 i_x58 => ?_)
                refine iv_ast X hB a_b51 sh_66 (iv_in i52_x52 (by decide)) i_x58 dX12_feed_98 (fun H locs hB => ?_)
                have hm := iv_Md.ast (j := x52.toNatClampNeg) (x := x58) a_b51 rfl (by decide)
                have h9 := iv_up_eq (G := G8) (a := b51) (k := (66, upd g_b51 x52.toNatClampNeg x58, r_b51))
                generalize iv_up G8 b51 _ = G59 at hB hm h9
                have hM := hM.stp (iv_MdT.of hm) (by decide)
                have a_h0 := hm.at a_h0 (by decide)
                refine lv_aload_n hx hb dX12_feed_99 rfl (lv_at hl 2 rfl) ?_
                refine lv_dup hx hb dX12_feed_100 rfl ?_
                refine iv_geti0 X ft_X12 hB a_h0 sh_12 15 (by decide) rfl k_fl_X12_82 dX12_feed_101 e_x52 ?_
                refine lv_iconst (v := 1) hx hb dX12_feed_104 (by decide) ?_
                refine iv_iadd hx hb i52_x52 q_1 (lo := 1) (hi := 400) (by decide) dX12_feed_105 (fun x61 e_x61 i_x61 => ?_)
                have e_x61 : x61.toInt = x52.toInt + 1 := e_x61
                refine iv_puti X ft_X12 hB a_h0 sh_12 15 (by decide) rfl rfl k_fl_X12_82 rfl (i_x61.wk (by decide)) rfl rfl dX12_feed_106 (fun H locs hB => ?_)
                have hm := iv_MdT.put (x := x61) a_h0 (j := 15) (by decide)
                have h9 := iv_up_eq (G := G59) (a := h0) (k := (12, upd g6 15 x61, r7))
                generalize iv_up G59 h0 _ = G62 at hB hm h9
                have hM := hM.stp hm (by decide)
                generalize hgn_g63 : upd g6 _ _ = g63 at h9
                have a_h0 := h9
                have e9_g63 : x61 = g63 15 := by rw [← hgn_g63]; simp [upd]
                refine iv_iinc hx hb i49_x5 (lo := 9) (hi := 12) (by decide) dX12_feed_109 hl (k := 1) rfl (by decide) (fun x64 ls e_x64 i_x64 hl => ?_)
                have hl : lv_has ls 8 [(6, .int x64), (7, .int x_2), (0, .ref h0), (1, .int x_0), (2, .int x_1), (3, .int x_2), (4, .int x_3), (5, .int x_4)] := hl
                refine lv_goto (tgt := 18) hx hb dX12_feed_112 (by decide) ?_
                exact ih_18 G62 hM _ _ hB g63 r7 a_h0 x64 (i_x64.wk (by decide)) (iv_mup (c := 1) i_x5 (by decide) (by decide) (by omega) hn_18) (by have w1 := congrArg Int32.toInt e9_g63; have w2 := congrArg Int32.toInt e_x52; have w3 : x61.toInt = x52.toInt + 1 := e_x61; have w4 := gi_18; have w5 : x64.toInt = x5.toInt + 1 := e_x64; omega) _ (lv_sub hl [0, 2, 3, 4, 5, 6, 7] rfl)
            · skip
              have i64_x5 : iv_R 4 7 x5 := (i13_x5.cutHi (n := 7) (iv_lt_r (iv_nle c15) q_8 (by decide)))
              refine lv_iload_n hx hb dX12_feed_42 rfl (lv_at hl 3 rfl) ?_
              refine lv_goto (tgt := 71) hx hb dX12_feed_43 (by decide) ?_
              refine lv_istore (lv' := [(7, .int x_1), (6, .int x5), (0, .ref h0), (1, .int x_0), (2, .int x_1), (3, .int x_2), (4, .int x_3), (5, .int x_4)]) hx hb dX12_feed_71 hl (by decide) rfl (fun ls hl => ?_)
              refine lv_aload_n hx hb dX12_feed_73 rfl (lv_at hl 2 rfl) ?_
              refine iv_getr X ft_X12 hB a_h0 sh_12 8 (by decide) rfl k_fl_X12_28 dX12_feed_74 (fun b66 g_b66 r_b66 e_b66 a_b66 => ?_)
              refine lv_aload_n hx hb dX12_feed_77 rfl (lv_at hl 2 rfl) ?_
              refine iv_geti X ft_X12 hB a_h0 sh_12 15 (by decide) rfl k_fl_X12_82 dX12_feed_78 (fun x67 e_x67 i_x67 => ?_)
              have i67_x67 : iv_R 0 399 x67 := ⟨i_x67.1, by have w1 := congrArg Int32.toInt e_x67; have w2 := gi_18; have w3 := i3_x2.2; have w4 : x2.toInt = x1.toInt + 20 := e_x2; have w5 := congrArg Int32.toInt e_x1; have w6 := i64_x5.2; omega⟩
              refine lv_iload hx hb dX12_feed_81 (lv_at hl 0 rfl) ?_
              refine lv_bipush (v := 24) hx hb dX12_feed_83 (by decide) ?_
              refine lv_bipush (v := 8) hx hb dX12_feed_85 (by decide) ?_
              refine lv_iload hx hb dX12_feed_87 (lv_at hl 1 rfl) ?_
              refine lv_iconst (v := 4) hx hb dX12_feed_89 (by decide) ?_
              refine iv_iremp hx hb i64_x5 q_4 (lo := 0) (hi := 3) (by decide) dX12_feed_90 (fun x69 e_x69 i_x69 => ?_)
              refine iv_imul hx hb q_8 i_x69 (lo := 0) (hi := 24) (by decide) dX12_feed_91 (fun x70 e_x70 i_x70 => ?_)
              have e_x70 : x70.toInt = 8 * x69.toInt := e_x70
              refine iv_isub hx hb q_24 i_x70 (lo := 0) (hi := 24) (by decide) dX12_feed_92 (fun x71 e_x71 i_x71 => ?_)
              have e_x71 : x71.toInt = 24 - x70.toInt := e_x71
              refine lv_ishr hx hb dX12_feed_93 ?_
              refine lv_topi (fun x72 e_x72 => ?_)
              have i_x72 := iv_R.all x72
              refine lv_sipush (v := 255) hx hb dX12_feed_94 (by decide) ?_
              refine iv_iand_r hx hb q_255 (by decide) dX12_feed_97 (fun x73 e_x73 i_x73 => ?_)
              refine iv_ast X hB a_b66 sh_66 (iv_in i67_x67 (by decide)) i_x73 dX12_feed_98 (fun H locs hB => ?_)
              have hm := iv_Md.ast (j := x67.toNatClampNeg) (x := x73) a_b66 rfl (by decide)
              have h9 := iv_up_eq (G := G8) (a := b66) (k := (66, upd g_b66 x67.toNatClampNeg x73, r_b66))
              generalize iv_up G8 b66 _ = G74 at hB hm h9
              have hM := hM.stp (iv_MdT.of hm) (by decide)
              have a_h0 := hm.at a_h0 (by decide)
              refine lv_aload_n hx hb dX12_feed_99 rfl (lv_at hl 2 rfl) ?_
              refine lv_dup hx hb dX12_feed_100 rfl ?_
              refine iv_geti0 X ft_X12 hB a_h0 sh_12 15 (by decide) rfl k_fl_X12_82 dX12_feed_101 e_x67 ?_
              refine lv_iconst (v := 1) hx hb dX12_feed_104 (by decide) ?_
              refine iv_iadd hx hb i67_x67 q_1 (lo := 1) (hi := 400) (by decide) dX12_feed_105 (fun x76 e_x76 i_x76 => ?_)
              have e_x76 : x76.toInt = x67.toInt + 1 := e_x76
              refine iv_puti X ft_X12 hB a_h0 sh_12 15 (by decide) rfl rfl k_fl_X12_82 rfl (i_x76.wk (by decide)) rfl rfl dX12_feed_106 (fun H locs hB => ?_)
              have hm := iv_MdT.put (x := x76) a_h0 (j := 15) (by decide)
              have h9 := iv_up_eq (G := G74) (a := h0) (k := (12, upd g6 15 x76, r7))
              generalize iv_up G74 h0 _ = G77 at hB hm h9
              have hM := hM.stp hm (by decide)
              generalize hgn_g78 : upd g6 _ _ = g78 at h9
              have a_h0 := h9
              have e9_g78 : x76 = g78 15 := by rw [← hgn_g78]; simp [upd]
              refine iv_iinc hx hb i64_x5 (lo := 5) (hi := 8) (by decide) dX12_feed_109 hl (k := 1) rfl (by decide) (fun x79 ls e_x79 i_x79 hl => ?_)
              have hl : lv_has ls 8 [(6, .int x79), (7, .int x_1), (0, .ref h0), (1, .int x_0), (2, .int x_1), (3, .int x_2), (4, .int x_3), (5, .int x_4)] := hl
              refine lv_goto (tgt := 18) hx hb dX12_feed_112 (by decide) ?_
              exact ih_18 G77 hM _ _ hB g78 r7 a_h0 x79 (i_x79.wk (by decide)) (iv_mup (c := 1) i_x5 (by decide) (by decide) (by omega) hn_18) (by have w1 := congrArg Int32.toInt e9_g78; have w2 := congrArg Int32.toInt e_x67; have w3 : x76.toInt = x67.toInt + 1 := e_x76; have w4 := gi_18; have w5 : x79.toInt = x5.toInt + 1 := e_x79; omega) _ (lv_sub hl [0, 2, 3, 4, 5, 6, 7] rfl)
          · skip
            have i79_x5 : iv_R 0 3 x5 := (i11_x5.cutHi (n := 3) (iv_lt_r (iv_nle c13) q_4 (by decide)))
            refine lv_iload_n hx hb dX12_feed_31 rfl (lv_at hl 2 rfl) ?_
            refine lv_goto (tgt := 71) hx hb dX12_feed_32 (by decide) ?_
            refine lv_istore (lv' := [(7, .int x_0), (6, .int x5), (0, .ref h0), (1, .int x_0), (2, .int x_1), (3, .int x_2), (4, .int x_3), (5, .int x_4)]) hx hb dX12_feed_71 hl (by decide) rfl (fun ls hl => ?_)
            refine lv_aload_n hx hb dX12_feed_73 rfl (lv_at hl 2 rfl) ?_
            refine iv_getr X ft_X12 hB a_h0 sh_12 8 (by decide) rfl k_fl_X12_28 dX12_feed_74 (fun b81 g_b81 r_b81 e_b81 a_b81 => ?_)
            refine lv_aload_n hx hb dX12_feed_77 rfl (lv_at hl 2 rfl) ?_
            refine iv_geti X ft_X12 hB a_h0 sh_12 15 (by decide) rfl k_fl_X12_82 dX12_feed_78 (fun x82 e_x82 i_x82 => ?_)
            have i82_x82 : iv_R 0 399 x82 := ⟨i_x82.1, by have w1 := congrArg Int32.toInt e_x82; have w2 := gi_18; have w3 := i3_x2.2; have w4 : x2.toInt = x1.toInt + 20 := e_x2; have w5 := congrArg Int32.toInt e_x1; have w6 := i79_x5.2; omega⟩
            refine lv_iload hx hb dX12_feed_81 (lv_at hl 0 rfl) ?_
            refine lv_bipush (v := 24) hx hb dX12_feed_83 (by decide) ?_
            refine lv_bipush (v := 8) hx hb dX12_feed_85 (by decide) ?_
            refine lv_iload hx hb dX12_feed_87 (lv_at hl 1 rfl) ?_
            refine lv_iconst (v := 4) hx hb dX12_feed_89 (by decide) ?_
            refine iv_iremp hx hb i79_x5 q_4 (lo := 0) (hi := 3) (by decide) dX12_feed_90 (fun x84 e_x84 i_x84 => ?_)
            refine iv_imul hx hb q_8 i_x84 (lo := 0) (hi := 24) (by decide) dX12_feed_91 (fun x85 e_x85 i_x85 => ?_)
            have e_x85 : x85.toInt = 8 * x84.toInt := e_x85
            refine iv_isub hx hb q_24 i_x85 (lo := 0) (hi := 24) (by decide) dX12_feed_92 (fun x86 e_x86 i_x86 => ?_)
            have e_x86 : x86.toInt = 24 - x85.toInt := e_x86
            refine lv_ishr hx hb dX12_feed_93 ?_
            refine lv_topi (fun x87 e_x87 => ?_)
            have i_x87 := iv_R.all x87
            refine lv_sipush (v := 255) hx hb dX12_feed_94 (by decide) ?_
            refine iv_iand_r hx hb q_255 (by decide) dX12_feed_97 (fun x88 e_x88 i_x88 => ?_)
            refine iv_ast X hB a_b81 sh_66 (iv_in i82_x82 (by decide)) i_x88 dX12_feed_98 (fun H locs hB => ?_)
            have hm := iv_Md.ast (j := x82.toNatClampNeg) (x := x88) a_b81 rfl (by decide)
            have h9 := iv_up_eq (G := G8) (a := b81) (k := (66, upd g_b81 x82.toNatClampNeg x88, r_b81))
            generalize iv_up G8 b81 _ = G89 at hB hm h9
            have hM := hM.stp (iv_MdT.of hm) (by decide)
            have a_h0 := hm.at a_h0 (by decide)
            refine lv_aload_n hx hb dX12_feed_99 rfl (lv_at hl 2 rfl) ?_
            refine lv_dup hx hb dX12_feed_100 rfl ?_
            refine iv_geti0 X ft_X12 hB a_h0 sh_12 15 (by decide) rfl k_fl_X12_82 dX12_feed_101 e_x82 ?_
            refine lv_iconst (v := 1) hx hb dX12_feed_104 (by decide) ?_
            refine iv_iadd hx hb i82_x82 q_1 (lo := 1) (hi := 400) (by decide) dX12_feed_105 (fun x91 e_x91 i_x91 => ?_)
            have e_x91 : x91.toInt = x82.toInt + 1 := e_x91
            refine iv_puti X ft_X12 hB a_h0 sh_12 15 (by decide) rfl rfl k_fl_X12_82 rfl (i_x91.wk (by decide)) rfl rfl dX12_feed_106 (fun H locs hB => ?_)
            have hm := iv_MdT.put (x := x91) a_h0 (j := 15) (by decide)
            have h9 := iv_up_eq (G := G89) (a := h0) (k := (12, upd g6 15 x91, r7))
            generalize iv_up G89 h0 _ = G92 at hB hm h9
            have hM := hM.stp hm (by decide)
            generalize hgn_g93 : upd g6 _ _ = g93 at h9
            have a_h0 := h9
            have e9_g93 : x91 = g93 15 := by rw [← hgn_g93]; simp [upd]
            refine iv_iinc hx hb i79_x5 (lo := 1) (hi := 4) (by decide) dX12_feed_109 hl (k := 1) rfl (by decide) (fun x94 ls e_x94 i_x94 hl => ?_)
            have hl : lv_has ls 8 [(6, .int x94), (7, .int x_0), (0, .ref h0), (1, .int x_0), (2, .int x_1), (3, .int x_2), (4, .int x_3), (5, .int x_4)] := hl
            refine lv_goto (tgt := 18) hx hb dX12_feed_112 (by decide) ?_
            exact ih_18 G92 hM _ _ hB g93 r7 a_h0 x94 (i_x94.wk (by decide)) (iv_mup (c := 1) i_x5 (by decide) (by decide) (by omega) hn_18) (by have w1 := congrArg Int32.toInt e9_g93; have w2 := congrArg Int32.toInt e_x82; have w3 : x91.toInt = x82.toInt + 1 := e_x91; have w4 := gi_18; have w5 : x94.toInt = x5.toInt + 1 := e_x94; omega) _ (lv_sub hl [0, 2, 3, 4, 5, 6, 7] rfl)
    exact L_18 _ G hM _ _ hB g_h0 r_h0 a_h0 0 (q_0.wk (by decide)) (Nat.lt_succ_self _) (by have z0 : (0 : Int32).toInt = 0 := rfl; omega) _ (lv_sub hl [0, 1, 2, 3, 4, 5, 6] rfl)
  · skip
    have i94_x2 : iv_R 401 420 x2 := (i_x2.cutLo (n := 401) (iv_lt_l (iv_nle c3) q_400 (by decide)))
    refine lv_iconst (v := (-1)) hx hb dX12_feed_13 (by decide) ?_
    exact iv_iret X hr hlocks hB ⟨hM, (q_n1.wk (by decide)), ⟨fun _ => ⟨rfl, fun g9 r9 h9 => by have h8 := a_h0.symm.trans h9; cases h8; rfl⟩, fun h => absurd h (by have w1 := i94_x2.1; have w4 : x2.toInt = x1.toInt + 20 := e_x2; have w5 := congrArg Int32.toInt e_x1; omega)⟩⟩ dX12_feed_14
theorem dX12_bell_0 : decode cX12_bell 0 = .ok (.iload_n 1, 1) := by decide +kernel
theorem dX12_bell_1 : decode cX12_bell 1 = .ok (.invokestatic 68, 3) := by decide +kernel
theorem dX12_bell_4 : decode cX12_bell 4 = .ok (.ifCond .eq 47, 3) := by decide +kernel
theorem dX12_bell_7 : decode cX12_bell 7 = .ok (.iload_n 2, 1) := by decide +kernel
theorem dX12_bell_8 : decode cX12_bell 8 = .ok (.iconst 0, 1) := by decide +kernel
theorem dX12_bell_9 : decode cX12_bell 9 = .ok (.bipush 47, 2) := by decide +kernel
theorem dX12_bell_11 : decode cX12_bell 11 = .ok (.invokestatic 56, 3) := by decide +kernel
theorem dX12_bell_14 : decode cX12_bell 14 = .ok (.ifCond .eq 37, 3) := by decide +kernel
theorem dX12_bell_17 : decode cX12_bell 17 = .ok (.iload_n 3, 1) := by decide +kernel
theorem dX12_bell_18 : decode cX12_bell 18 = .ok (.iconst 1, 1) := by decide +kernel
theorem dX12_bell_19 : decode cX12_bell 19 = .ok (.bipush 99, 2) := by decide +kernel
theorem dX12_bell_21 : decode cX12_bell 21 = .ok (.invokestatic 56, 3) := by decide +kernel
theorem dX12_bell_24 : decode cX12_bell 24 = .ok (.ifCond .eq 27, 3) := by decide +kernel
theorem dX12_bell_27 : decode cX12_bell 27 = .ok (.iload 4, 2) := by decide +kernel
theorem dX12_bell_29 : decode cX12_bell 29 = .ok (.iconst 0, 1) := by decide +kernel
theorem dX12_bell_30 : decode cX12_bell 30 = .ok (.bipush 99, 2) := by decide +kernel
theorem dX12_bell_32 : decode cX12_bell 32 = .ok (.invokestatic 56, 3) := by decide +kernel
theorem dX12_bell_35 : decode cX12_bell 35 = .ok (.ifCond .eq 16, 3) := by decide +kernel
theorem dX12_bell_38 : decode cX12_bell 38 = .ok (.aload_n 0, 1) := by decide +kernel
theorem dX12_bell_39 : decode cX12_bell 39 = .ok (.getfield 7, 3) := by decide +kernel
theorem dX12_bell_42 : decode cX12_bell 42 = .ok (.sipush 146, 3) := by decide +kernel
theorem dX12_bell_45 : decode cX12_bell 45 = .ok (.iaload, 1) := by decide +kernel
theorem dX12_bell_46 : decode cX12_bell 46 = .ok (.bipush 10, 2) := by decide +kernel
theorem dX12_bell_48 : decode cX12_bell 48 = .ok (.if_icmp .ne 5, 3) := by decide +kernel
theorem dX12_bell_51 : decode cX12_bell 51 = .ok (.iconst (-1), 1) := by decide +kernel
theorem dX12_bell_52 : decode cX12_bell 52 = .ok (.ireturn, 1) := by decide +kernel
theorem dX12_bell_53 : decode cX12_bell 53 = .ok (.aload_n 0, 1) := by decide +kernel
theorem dX12_bell_54 : decode cX12_bell 54 = .ok (.getfield 7, 3) := by decide +kernel
theorem dX12_bell_57 : decode cX12_bell 57 = .ok (.sipush 146, 3) := by decide +kernel
theorem dX12_bell_60 : decode cX12_bell 60 = .ok (.iaload, 1) := by decide +kernel
theorem dX12_bell_61 : decode cX12_bell 61 = .ok (.istore 5, 2) := by decide +kernel
theorem dX12_bell_63 : decode cX12_bell 63 = .ok (.iconst 0, 1) := by decide +kernel
theorem dX12_bell_64 : decode cX12_bell 64 = .ok (.istore 6, 2) := by decide +kernel
theorem dX12_bell_66 : decode cX12_bell 66 = .ok (.iload 6, 2) := by decide +kernel
theorem dX12_bell_68 : decode cX12_bell 68 = .ok (.bipush 8, 2) := by decide +kernel
theorem dX12_bell_70 : decode cX12_bell 70 = .ok (.if_icmp .ge 18, 3) := by decide +kernel
theorem dX12_bell_73 : decode cX12_bell 73 = .ok (.aload_n 0, 1) := by decide +kernel
theorem dX12_bell_74 : decode cX12_bell 74 = .ok (.iload 5, 2) := by decide +kernel
theorem dX12_bell_76 : decode cX12_bell 76 = .ok (.iload 6, 2) := by decide +kernel
theorem dX12_bell_78 : decode cX12_bell 78 = .ok (.iconst 0, 1) := by decide +kernel
theorem dX12_bell_79 : decode cX12_bell 79 = .ok (.invokevirtual 72, 3) := by decide +kernel
theorem dX12_bell_82 : decode cX12_bell 82 = .ok (.iinc 6 1, 3) := by decide +kernel
theorem dX12_bell_85 : decode cX12_bell 85 = .ok (.goto (-19), 3) := by decide +kernel
theorem dX12_bell_88 : decode cX12_bell 88 = .ok (.aload_n 0, 1) := by decide +kernel
theorem dX12_bell_89 : decode cX12_bell 89 = .ok (.iload 5, 2) := by decide +kernel
theorem dX12_bell_91 : decode cX12_bell 91 = .ok (.iconst 0, 1) := by decide +kernel
theorem dX12_bell_92 : decode cX12_bell 92 = .ok (.iload_n 1, 1) := by decide +kernel
theorem dX12_bell_93 : decode cX12_bell 93 = .ok (.invokevirtual 72, 3) := by decide +kernel
theorem dX12_bell_96 : decode cX12_bell 96 = .ok (.aload_n 0, 1) := by decide +kernel
theorem dX12_bell_97 : decode cX12_bell 97 = .ok (.iload 5, 2) := by decide +kernel
theorem dX12_bell_99 : decode cX12_bell 99 = .ok (.iconst 1, 1) := by decide +kernel
theorem dX12_bell_100 : decode cX12_bell 100 = .ok (.iload_n 2, 1) := by decide +kernel
theorem dX12_bell_101 : decode cX12_bell 101 = .ok (.invokevirtual 72, 3) := by decide +kernel
theorem dX12_bell_104 : decode cX12_bell 104 = .ok (.aload_n 0, 1) := by decide +kernel
theorem dX12_bell_105 : decode cX12_bell 105 = .ok (.iload 5, 2) := by decide +kernel
theorem dX12_bell_107 : decode cX12_bell 107 = .ok (.iconst 2, 1) := by decide +kernel
theorem dX12_bell_108 : decode cX12_bell 108 = .ok (.iload_n 3, 1) := by decide +kernel
theorem dX12_bell_109 : decode cX12_bell 109 = .ok (.invokevirtual 72, 3) := by decide +kernel
theorem dX12_bell_112 : decode cX12_bell 112 = .ok (.aload_n 0, 1) := by decide +kernel
theorem dX12_bell_113 : decode cX12_bell 113 = .ok (.iload 5, 2) := by decide +kernel
theorem dX12_bell_115 : decode cX12_bell 115 = .ok (.iconst 3, 1) := by decide +kernel
theorem dX12_bell_116 : decode cX12_bell 116 = .ok (.iload 4, 2) := by decide +kernel
theorem dX12_bell_118 : decode cX12_bell 118 = .ok (.invokevirtual 72, 3) := by decide +kernel
theorem dX12_bell_121 : decode cX12_bell 121 = .ok (.aload_n 0, 1) := by decide +kernel
theorem dX12_bell_122 : decode cX12_bell 122 = .ok (.getfield 7, 3) := by decide +kernel
theorem dX12_bell_125 : decode cX12_bell 125 = .ok (.sipush 146, 3) := by decide +kernel
theorem dX12_bell_128 : decode cX12_bell 128 = .ok (.dup2, 1) := by decide +kernel
theorem dX12_bell_129 : decode cX12_bell 129 = .ok (.iaload, 1) := by decide +kernel
theorem dX12_bell_130 : decode cX12_bell 130 = .ok (.iconst 1, 1) := by decide +kernel
theorem dX12_bell_131 : decode cX12_bell 131 = .ok (.iadd, 1) := by decide +kernel
theorem dX12_bell_132 : decode cX12_bell 132 = .ok (.iastore, 1) := by decide +kernel
theorem dX12_bell_133 : decode cX12_bell 133 = .ok (.aload_n 0, 1) := by decide +kernel
theorem dX12_bell_134 : decode cX12_bell 134 = .ok (.invokevirtual 63, 3) := by decide +kernel
theorem dX12_bell_137 : decode cX12_bell 137 = .ok (.iload 5, 2) := by decide +kernel
theorem dX12_bell_139 : decode cX12_bell 139 = .ok (.ireturn, 1) := by decide +kernel
set_option maxHeartbeats 4000000 in
set_option maxRecDepth 100000 in
theorem e_X12_bell (l : Launch) (D : va_G) (tys : List (ClassId × FieldType)) (base : Nat) (G : iv_G) (h0 : Nat) (g_h0 : Nat → Int32) (r_h0 : Nat → Nat) (a_h0 : G h0 = some (12, g_h0, r_h0)) (x_0 : Int32) (i_x_0 : iv_R (-2147483648) 2147483647 x_0) (x_1 : Int32) (i_x_1 : iv_R (-2147483648) 2147483647 x_1) (x_2 : Int32) (i_x_2 : iv_R (-2147483648) 2147483647 x_2) (x_3 : Int32) (i_x_3 : iv_R (-2147483648) 2147483647 x_3) : Met l yX12_bell (Cond.code yX12_bell cX12_bell 7 (some .int) :: iv_W0) ({ frames := 2, cells := 0, slots := 0, locals := 42 }) (iv_Pc iv_sh D classes tys base G [.ref h0, .int x_0, .int x_1, .int x_2, .int x_3]) (iv_Qi iv_sh D classes tys base (fun v G' => iv_MdF [12, 60] G G' ∧ iv_R (-1) 9 v ∧ (∀ (g' : Nat → Int32) (r' : Nat → Nat), G' h0 = some (12, g', r') → g' 15 = g_h0 15) ∧ lb_P 60 146 (r_h0 0) x_0 x_1 x_2 x_3 v G G')) 0 0 (iv_A base) := by
  refine iv_head (by decide) (Nat.le_of_ble_eq_true rfl) ?_
  intro p e s m args below meth c ls X hr hlocks hname hB hl
  have X := X
  have a_st := a_h0
  have hx := X.1.1
  have hb := X.1.2.1
  have hM : iv_MdT [12, 60] G G := iv_MdT.rf
  have hl : lv_has ls 7 [(0, .ref h0), (1, .int x_0), (2, .int x_1), (3, .int x_2), (4, .int x_3)] := hl
  obtain ⟨y15, e_y15⟩ : ∃ x, x = g_h0 15 := ⟨_, rfl⟩
  have i_y15 := iv_R.all y15
  refine lv_iload_n hx hb dX12_bell_0 rfl (lv_at hl 1 rfl) ?_
  refine iv_cSi X k_good k_mf_X12_isTower k_st_X12_isTower k_ml_X12_68 hB (As := [.int x_0]) (e_X12_isTower l D tys base G x_0 i_x_0) ⟨rfl, rfl⟩ ⟨Nat.le_of_ble_eq_true rfl, Nat.le_of_ble_eq_true rfl⟩ ⟨Nat.le_of_ble_eq_true rfl, Nat.le_of_ble_eq_true rfl⟩ rfl rfl hl.1 (Nat.le_of_ble_eq_true rfl) dX12_bell_1 (fun x1 G9 H locs hq hB => ?_)
  obtain ⟨rfl, i_x1, hp2⟩ := hq
  refine lv_if_eq (tgt := 51) hx hb dX12_bell_4 (by decide) (fun c3 => ?_) (fun c3 => ?_)
  · skip
    have i3_x1 : iv_R 0 0 x1 := (i_x1.cutHi (n := 0) (iv_eq_r c3 q_0).2)
    refine lv_iconst (v := (-1)) hx hb dX12_bell_51 (by decide) ?_
    exact iv_iret X hr hlocks hB ⟨iv_MdF.of hM, (q_n1.wk (by decide)), (fun g9 r9 h9 => by have h8 := a_h0.symm.trans h9; cases h8; exact e_y15.symm.trans e_y15), lb_no (fun x hx h9 => hp2.2 c3 h9.1)⟩ dX12_bell_52
  · skip
    have i4_x1 : iv_R 1 1 x1 := iv_ne_lo c3 i_x1 q_0 (by decide)
    have i5_x_0 : iv_R 0 3 x_0 := ((i_x_0.cutLo (n := 0) (hp2.1 c3).1).cutHi (n := 3) (hp2.1 c3).2)
    refine lv_iload_n hx hb dX12_bell_7 rfl (lv_at hl 2 rfl) ?_
    refine lv_iconst (v := 0) hx hb dX12_bell_8 (by decide) ?_
    refine lv_bipush (v := 47) hx hb dX12_bell_9 (by decide) ?_
    refine iv_cSi X k_good k_mf_X12_isIn k_st_X12_isIn k_ml_X12_56 hB (As := [.int x_1, .int 0, .int 47]) (c_X12_isIn l D tys base G x_1 i_x_1 0 (q_0.wk (by decide)) 47 (q_47.wk (by decide))) ⟨rfl, rfl⟩ ⟨Nat.le_of_ble_eq_true rfl, Nat.le_of_ble_eq_true rfl⟩ ⟨Nat.le_of_ble_eq_true rfl, Nat.le_of_ble_eq_true rfl⟩ rfl rfl hl.1 (Nat.le_of_ble_eq_true rfl) dX12_bell_11 (fun x7 G9 H locs hq hB => ?_)
    obtain ⟨rfl, i_x7, hp8⟩ := hq
    have k9 : ¬ x7 = 0 → iv_R 0 47 x_1 := fun h => ⟨iv_max i_x_1.1 (Int.le_trans q_0.1 (hp8.1 h).1) (by decide), iv_min i_x_1.2 (Int.le_trans (hp8.1 h).2 q_47.2) (by decide)⟩
    refine lv_if_eq (tgt := 51) hx hb dX12_bell_14 (by decide) (fun c10 => ?_) (fun c10 => ?_)
    · skip
      have i10_x7 : iv_R 0 0 x7 := (i_x7.cutHi (n := 0) (iv_eq_r c10 q_0).2)
      refine lv_iconst (v := (-1)) hx hb dX12_bell_51 (by decide) ?_
      exact iv_iret X hr hlocks hB ⟨iv_MdF.of hM, (q_n1.wk (by decide)), (fun g9 r9 h9 => by have h8 := a_h0.symm.trans h9; cases h8; exact e_y15.symm.trans e_y15), lb_no (fun x hx h9 => by have w1 := hp8.2 c10; have w2 := h9.2.1.1; have w3 := h9.2.1.2; have e0 : (0 : Int32).toInt = 0 := rfl; have e1 : (1 : Int32).toInt = 1 := rfl; have e47 : (47 : Int32).toInt = 47 := rfl; have e99 : (99 : Int32).toInt = 99 := rfl; have e10 : (10 : Int32).toInt = 10 := rfl; omega)⟩ dX12_bell_52
    · skip
      have i11_x7 : iv_R 1 1 x7 := iv_ne_lo c10 i_x7 q_0 (by decide)
      have i12_x_1 : iv_R 0 47 x_1 := ((i_x_1.cutLo (n := 0) (k9 c10).1).cutHi (n := 47) (k9 c10).2)
      refine lv_iload_n hx hb dX12_bell_17 rfl (lv_at hl 3 rfl) ?_
      refine lv_iconst (v := 1) hx hb dX12_bell_18 (by decide) ?_
      refine lv_bipush (v := 99) hx hb dX12_bell_19 (by decide) ?_
      refine iv_cSi X k_good k_mf_X12_isIn k_st_X12_isIn k_ml_X12_56 hB (As := [.int x_2, .int 1, .int 99]) (c_X12_isIn l D tys base G x_2 i_x_2 1 (q_1.wk (by decide)) 99 (q_99.wk (by decide))) ⟨rfl, rfl⟩ ⟨Nat.le_of_ble_eq_true rfl, Nat.le_of_ble_eq_true rfl⟩ ⟨Nat.le_of_ble_eq_true rfl, Nat.le_of_ble_eq_true rfl⟩ rfl rfl hl.1 (Nat.le_of_ble_eq_true rfl) dX12_bell_21 (fun x14 G9 H locs hq hB => ?_)
      obtain ⟨rfl, i_x14, hp15⟩ := hq
      have k16 : ¬ x14 = 0 → iv_R 1 99 x_2 := fun h => ⟨iv_max i_x_2.1 (Int.le_trans q_1.1 (hp15.1 h).1) (by decide), iv_min i_x_2.2 (Int.le_trans (hp15.1 h).2 q_99.2) (by decide)⟩
      refine lv_if_eq (tgt := 51) hx hb dX12_bell_24 (by decide) (fun c17 => ?_) (fun c17 => ?_)
      · skip
        have i17_x14 : iv_R 0 0 x14 := (i_x14.cutHi (n := 0) (iv_eq_r c17 q_0).2)
        refine lv_iconst (v := (-1)) hx hb dX12_bell_51 (by decide) ?_
        exact iv_iret X hr hlocks hB ⟨iv_MdF.of hM, (q_n1.wk (by decide)), (fun g9 r9 h9 => by have h8 := a_h0.symm.trans h9; cases h8; exact e_y15.symm.trans e_y15), lb_no (fun x hx h9 => by have w1 := hp15.2 c17; have w2 := h9.2.2.1.1; have w3 := h9.2.2.1.2; have e0 : (0 : Int32).toInt = 0 := rfl; have e1 : (1 : Int32).toInt = 1 := rfl; have e47 : (47 : Int32).toInt = 47 := rfl; have e99 : (99 : Int32).toInt = 99 := rfl; have e10 : (10 : Int32).toInt = 10 := rfl; omega)⟩ dX12_bell_52
      · skip
        have i18_x14 : iv_R 1 1 x14 := iv_ne_lo c17 i_x14 q_0 (by decide)
        have i19_x_2 : iv_R 1 99 x_2 := ((i_x_2.cutLo (n := 1) (k16 c17).1).cutHi (n := 99) (k16 c17).2)
        refine lv_iload hx hb dX12_bell_27 (lv_at hl 4 rfl) ?_
        refine lv_iconst (v := 0) hx hb dX12_bell_29 (by decide) ?_
        refine lv_bipush (v := 99) hx hb dX12_bell_30 (by decide) ?_
        refine iv_cSi X k_good k_mf_X12_isIn k_st_X12_isIn k_ml_X12_56 hB (As := [.int x_3, .int 0, .int 99]) (c_X12_isIn l D tys base G x_3 i_x_3 0 (q_0.wk (by decide)) 99 (q_99.wk (by decide))) ⟨rfl, rfl⟩ ⟨Nat.le_of_ble_eq_true rfl, Nat.le_of_ble_eq_true rfl⟩ ⟨Nat.le_of_ble_eq_true rfl, Nat.le_of_ble_eq_true rfl⟩ rfl rfl hl.1 (Nat.le_of_ble_eq_true rfl) dX12_bell_32 (fun x21 G9 H locs hq hB => ?_)
        obtain ⟨rfl, i_x21, hp22⟩ := hq
        have k23 : ¬ x21 = 0 → iv_R 0 99 x_3 := fun h => ⟨iv_max i_x_3.1 (Int.le_trans q_0.1 (hp22.1 h).1) (by decide), iv_min i_x_3.2 (Int.le_trans (hp22.1 h).2 q_99.2) (by decide)⟩
        refine lv_if_eq (tgt := 51) hx hb dX12_bell_35 (by decide) (fun c24 => ?_) (fun c24 => ?_)
        · skip
          have i24_x21 : iv_R 0 0 x21 := (i_x21.cutHi (n := 0) (iv_eq_r c24 q_0).2)
          refine lv_iconst (v := (-1)) hx hb dX12_bell_51 (by decide) ?_
          exact iv_iret X hr hlocks hB ⟨iv_MdF.of hM, (q_n1.wk (by decide)), (fun g9 r9 h9 => by have h8 := a_h0.symm.trans h9; cases h8; exact e_y15.symm.trans e_y15), lb_no (fun x hx h9 => by have w1 := hp22.2 c24; have w2 := h9.2.2.2.1.1; have w3 := h9.2.2.2.1.2; have e0 : (0 : Int32).toInt = 0 := rfl; have e1 : (1 : Int32).toInt = 1 := rfl; have e47 : (47 : Int32).toInt = 47 := rfl; have e99 : (99 : Int32).toInt = 99 := rfl; have e10 : (10 : Int32).toInt = 10 := rfl; omega)⟩ dX12_bell_52
        · skip
          have i25_x21 : iv_R 1 1 x21 := iv_ne_lo c24 i_x21 q_0 (by decide)
          have i26_x_3 : iv_R 0 99 x_3 := ((i_x_3.cutLo (n := 0) (k23 c24).1).cutHi (n := 99) (k23 c24).2)
          refine lv_aload_n hx hb dX12_bell_38 rfl (lv_at hl 0 rfl) ?_
          refine iv_getr X ft_X12 hB a_h0 sh_12 0 (by decide) rfl k_fl_X12_7 dX12_bell_39 (fun b28 g_b28 r_b28 e_b28 a_b28 => ?_)
          refine lv_sipush (v := 146) hx hb dX12_bell_42 (by decide) ?_
          refine iv_wald_c X hB a_b28 q_146 (by decide) (lo := 0) (hi' := 10) (by decide) dX12_bell_45 (fun x29 e_x29 i_x29 => ?_)
          have e_x29 : x29 = g_b28 146 := e_x29
          refine lv_bipush (v := 10) hx hb dX12_bell_46 (by decide) ?_
          refine lv_icmp_ne (tgt := 53) hx hb dX12_bell_48 (by decide) (fun c30 => ?_) (fun c30 => ?_)
          · skip
            have i30_x29 : iv_R 0 9 x29 := iv_ne_hi c30 i_x29 q_10 (by decide)
            refine lv_aload_n hx hb dX12_bell_53 rfl (lv_at hl 0 rfl) ?_
            refine iv_getr0 X ft_X12 hB a_h0 sh_12 0 (by decide) rfl k_fl_X12_7 dX12_bell_54 e_b28 ?_
            refine lv_sipush (v := 146) hx hb dX12_bell_57 (by decide) ?_
            refine iv_wald_c X hB a_b28 q_146 (by decide) (lo := 0) (hi' := 10) (by decide) dX12_bell_60 (fun x32 e_x32 k_x32 => ?_)
            obtain rfl : x29 = x32 := e_x29.trans e_x32.symm
            refine lv_istore (lv' := [(5, .int x29), (0, .ref h0), (1, .int x_0), (2, .int x_1), (3, .int x_2), (4, .int x_3)]) hx hb dX12_bell_61 hl (by decide) rfl (fun ls hl => ?_)
            have hF : iv_k146 (r_h0 0) x29 G := ⟨g_b28, r_b28, by rw [← e_b28]; exact a_b28, e_x29.symm⟩
            refine lv_iconst (v := 0) hx hb dX12_bell_63 (by decide) ?_
            refine lv_istore (lv' := [(6, .int 0), (5, .int x29), (0, .ref h0), (1, .int x_0), (2, .int x_1), (3, .int x_2), (4, .int x_3)]) hx hb dX12_bell_64 hl (by decide) rfl (fun ls hl => ?_)
            have L_66 : ∀ (n_66 : Nat) (G36 : iv_G) (hM : iv_MdT [12, 60] G G36) (H : Heap) (locs : List Loc) (hB : iv_B iv_sh D classes tys base G36 s.heap H locs) (g34 : Nat → Int32) (r35 : Nat → Nat) (a_h0 : G36 h0 = some (12, g34, r35)) (x33 : Int32) (i_x33 : iv_R 0 8 x33) (hn_66 : (9 - x33.toInt).toNat < n_66) (gi_66 : iv_k146 (r35 0) x29 G36 ∧ g34 15 = y15) (ls : Array Slot) (hl : lv_has ls 7 [(6, .int x33), (5, .int x29), (0, .ref h0), (1, .int x_0), (2, .int x_1), (3, .int x_2), (4, .int x_3)]), W p l e ({ frames := 2, cells := 0, slots := 0, locals := 42 } : Room) s m args below meth c H locs 0 0 (MQ below (iv_Qi iv_sh D classes tys base (fun v G' => iv_MdF [12, 60] G G' ∧ iv_R (-1) 9 v ∧ (∀ (g' : Nat → Int32) (r' : Nat → Nat), G' h0 = some (12, g', r') → g' 15 = g_h0 15) ∧ lb_P 60 146 (r_h0 0) x_0 x_1 x_2 x_3 v G G')) args s 0 0 (iv_A base)) (F0 m 66 ls []) := by
              intro n_66
              induction n_66 with
              | zero => intro G36 hM H locs hB g34 r35 a_h0 x33 i_x33 hn_66 gi_66 ls hl; exact absurd hn_66 (Nat.not_lt_zero _)
              | succ n_66 ih_66 =>
                intro G36 hM H locs hB g34 r35 a_h0 x33 i_x33 hn_66 gi_66 ls hl
                have hF := gi_66.1
                have er : r35 = r_h0 := iv_refs hM a_st a_h0
                refine lv_iload hx hb dX12_bell_66 (lv_at hl 0 rfl) ?_
                refine lv_bipush (v := 8) hx hb dX12_bell_68 (by decide) ?_
                refine lv_icmp_ge (tgt := 88) hx hb dX12_bell_70 (by decide) (fun c37 => ?_) (fun c37 => ?_)
                · skip
                  have i37_x33 : iv_R 8 8 x33 := (i_x33.cutLo (n := 8) (iv_le_l c37 q_8))
                  refine lv_aload_n hx hb dX12_bell_88 rfl (lv_at hl 2 rfl) ?_
                  refine lv_iload hx hb dX12_bell_89 (lv_at hl 1 rfl) ?_
                  refine lv_iconst (v := 0) hx hb dX12_bell_91 (by decide) ?_
                  refine lv_iload_n hx hb dX12_bell_92 rfl (lv_at hl 3 rfl) ?_
                  refine iv_cVv X k_good k_mf_X12_bells k_im_X12_bells k_sel_X12_bells k_ml_X12_72 ft_X12 hB a_h0 sh_12 (As := [.int x29, .int 0, .int x_0]) (c_X12_bells l D tys base G36 h0 g34 r35 a_h0 x29 i30_x29 0 (q_0.wk (by decide)) x_0 (i5_x_0.wk (by decide)) (fun _ => i5_x_0) (fun h => absurd h (by decide))) ⟨rfl, rfl⟩ ⟨Nat.le_of_ble_eq_true rfl, Nat.le_of_ble_eq_true rfl⟩ ⟨Nat.le_of_ble_eq_true rfl, Nat.le_of_ble_eq_true rfl⟩ rfl rfl hl.1 (Nat.le_of_ble_eq_true rfl) dX12_bell_93 (fun G9 H locs hq hB => ?_)
                  have hm := hq
                  obtain ⟨G39, hG9⟩ : ∃ g, g = G9 := ⟨_, rfl⟩
                  rw [← hG9] at hm hB
                  have hM := hM.stp (iv_MdT.of hm) (by decide)
                  have a_h0 := hm.at a_h0 (by decide)
                  have hF := hF.stp hm
                  refine lv_aload_n hx hb dX12_bell_96 rfl (lv_at hl 2 rfl) ?_
                  refine lv_iload hx hb dX12_bell_97 (lv_at hl 1 rfl) ?_
                  refine lv_iconst (v := 1) hx hb dX12_bell_99 (by decide) ?_
                  refine lv_iload_n hx hb dX12_bell_100 rfl (lv_at hl 4 rfl) ?_
                  refine iv_cVv X k_good k_mf_X12_bells k_im_X12_bells k_sel_X12_bells k_ml_X12_72 ft_X12 hB a_h0 sh_12 (As := [.int x29, .int 1, .int x_1]) (c_X12_bells l D tys base G39 h0 g34 r35 a_h0 x29 i30_x29 1 (q_1.wk (by decide)) x_1 (i12_x_1.wk (by decide)) (fun h => absurd h (by decide)) (fun _ => i12_x_1)) ⟨rfl, rfl⟩ ⟨Nat.le_of_ble_eq_true rfl, Nat.le_of_ble_eq_true rfl⟩ ⟨Nat.le_of_ble_eq_true rfl, Nat.le_of_ble_eq_true rfl⟩ rfl rfl hl.1 (Nat.le_of_ble_eq_true rfl) dX12_bell_101 (fun G9 H locs hq hB => ?_)
                  have hm := hq
                  obtain ⟨G40, hG9⟩ : ∃ g, g = G9 := ⟨_, rfl⟩
                  rw [← hG9] at hm hB
                  have hM := hM.stp (iv_MdT.of hm) (by decide)
                  have a_h0 := hm.at a_h0 (by decide)
                  have hF := hF.stp hm
                  refine lv_aload_n hx hb dX12_bell_104 rfl (lv_at hl 2 rfl) ?_
                  refine lv_iload hx hb dX12_bell_105 (lv_at hl 1 rfl) ?_
                  refine lv_iconst (v := 2) hx hb dX12_bell_107 (by decide) ?_
                  refine lv_iload_n hx hb dX12_bell_108 rfl (lv_at hl 5 rfl) ?_
                  refine iv_cVv X k_good k_mf_X12_bells k_im_X12_bells k_sel_X12_bells k_ml_X12_72 ft_X12 hB a_h0 sh_12 (As := [.int x29, .int 2, .int x_2]) (c_X12_bells l D tys base G40 h0 g34 r35 a_h0 x29 i30_x29 2 (q_2.wk (by decide)) x_2 (i19_x_2.wk (by decide)) (fun h => absurd h (by decide)) (fun h => absurd h (by decide))) ⟨rfl, rfl⟩ ⟨Nat.le_of_ble_eq_true rfl, Nat.le_of_ble_eq_true rfl⟩ ⟨Nat.le_of_ble_eq_true rfl, Nat.le_of_ble_eq_true rfl⟩ rfl rfl hl.1 (Nat.le_of_ble_eq_true rfl) dX12_bell_109 (fun G9 H locs hq hB => ?_)
                  have hm := hq
                  obtain ⟨G41, hG9⟩ : ∃ g, g = G9 := ⟨_, rfl⟩
                  rw [← hG9] at hm hB
                  have hM := hM.stp (iv_MdT.of hm) (by decide)
                  have a_h0 := hm.at a_h0 (by decide)
                  have hF := hF.stp hm
                  refine lv_aload_n hx hb dX12_bell_112 rfl (lv_at hl 2 rfl) ?_
                  refine lv_iload hx hb dX12_bell_113 (lv_at hl 1 rfl) ?_
                  refine lv_iconst (v := 3) hx hb dX12_bell_115 (by decide) ?_
                  refine lv_iload hx hb dX12_bell_116 (lv_at hl 6 rfl) ?_
                  refine iv_cVv X k_good k_mf_X12_bells k_im_X12_bells k_sel_X12_bells k_ml_X12_72 ft_X12 hB a_h0 sh_12 (As := [.int x29, .int 3, .int x_3]) (c_X12_bells l D tys base G41 h0 g34 r35 a_h0 x29 i30_x29 3 (q_3.wk (by decide)) x_3 (i26_x_3.wk (by decide)) (fun h => absurd h (by decide)) (fun h => absurd h (by decide))) ⟨rfl, rfl⟩ ⟨Nat.le_of_ble_eq_true rfl, Nat.le_of_ble_eq_true rfl⟩ ⟨Nat.le_of_ble_eq_true rfl, Nat.le_of_ble_eq_true rfl⟩ rfl rfl hl.1 (Nat.le_of_ble_eq_true rfl) dX12_bell_118 (fun G9 H locs hq hB => ?_)
                  have hm := hq
                  obtain ⟨G42, hG9⟩ : ∃ g, g = G9 := ⟨_, rfl⟩
                  rw [← hG9] at hm hB
                  have hM := hM.stp (iv_MdT.of hm) (by decide)
                  have a_h0 := hm.at a_h0 (by decide)
                  have hF := hF.stp hm
                  refine lv_aload_n hx hb dX12_bell_121 rfl (lv_at hl 2 rfl) ?_
                  refine iv_getr X ft_X12 hB a_h0 sh_12 0 (by decide) rfl k_fl_X12_7 dX12_bell_122 (fun b43 g_b43 r_b43 e_b43 a_b43 => ?_)
                  have eb : b43 = b28 := e_b43.trans ((congrFun er 0).trans e_b28.symm)
                  refine lv_sipush (v := 146) hx hb dX12_bell_125 (by decide) ?_
                  refine lv_dup2_11 hx hb dX12_bell_128 rfl rfl ?_
                  refine iv_wald_c X hB a_b43 q_146 (by decide) (lo := 0) (hi' := 10) (by decide) dX12_bell_129 (fun x44 e_x44 i_x44 => ?_)
                  have q146 : x44 = x29 := e_x44.trans (hF.val e_b43 a_b43)
                  have i44_x44 : iv_R 0 9 x44 := (by rw [q146]; exact i30_x29)
                  refine lv_iconst (v := 1) hx hb dX12_bell_130 (by decide) ?_
                  refine iv_iadd hx hb i44_x44 q_1 (lo := 1) (hi := 10) (by decide) dX12_bell_131 (fun x46 e_x46 i_x46 => ?_)
                  refine iv_wast_c X hB a_b43 q_146 (by decide) (lo := 0) (hi' := 10) (by decide) (i_x46.wk (by decide)) dX12_bell_132 (fun H locs hB => ?_)
                  have hB : iv_B iv_sh D classes tys base (iv_up G42 b43 (60, upd g_b43 146 x46, r_b43)) s.heap H locs := hB
                  have hK : iv_kp 60 146 b43 G G42 := iv_kp.T hM (by decide)
                  have hK := hK.tr (iv_kp.up (b := b43) (k := (60, upd g_b43 146 x46, r_b43)))
                  have hC : iv_kc 60 146 b43 x46 (iv_up G42 b43 (60, upd g_b43 146 x46, r_b43)) := iv_kc.up
                  have hm := iv_MdF.put (x := x46) a_b43 (j := 146) (by decide)
                  have h9 := iv_up_eq (G := G42) (a := b43) (k := (60, upd g_b43 146 x46, r_b43))
                  generalize iv_up G42 b43 _ = G47 at hB hm h9 hK hC
                  have hM := (iv_MdF.of hM).stp hm (by decide)
                  generalize hgn_g48 : upd g_b43 _ _ = g48 at h9
                  have a_h0 := hm.at a_h0 (by decide)
                  have a_b43 := h9
                  have e49 : x46 = g48 146 := by rw [← hgn_g48]; simp [upd]
                  refine lv_aload_n hx hb dX12_bell_133 rfl (lv_at hl 2 rfl) ?_
                  refine iv_cVv X k_good k_mf_X12_forgets k_im_X12_forgets k_sel_X12_forgets k_ml_X12_63 ft_X12 hB a_h0 sh_12 (As := []) (c_X12_forgets l D tys base G47 h0 g34 r35 a_h0) ⟨rfl, rfl⟩ ⟨Nat.le_of_ble_eq_true rfl, Nat.le_of_ble_eq_true rfl⟩ ⟨Nat.le_of_ble_eq_true rfl, Nat.le_of_ble_eq_true rfl⟩ rfl rfl hl.1 (Nat.le_of_ble_eq_true rfl) dX12_bell_134 (fun G9 H locs hq hB => ?_)
                  have hm := hq
                  obtain ⟨G50, hG9⟩ : ∃ g, g = G9 := ⟨_, rfl⟩
                  rw [← hG9] at hm hB
                  have hM := hM.stp (iv_MdF.ofM hm) (by decide)
                  have hK := hK.tr (iv_kp.T (iv_MdT.of hm) (by decide))
                  have hC := hC.T (iv_MdT.of hm) (by decide)
                  obtain ⟨g51, r52, a_h0, f_g51⟩ := hm.ex a_h0
                  have e53 : y15 = g51 15 := gi_66.2.symm.trans (f_g51.2.1 15 (show (15 : Nat) ∈ iv_stab 12 from by decide)).symm
                  have e54 : b43 = r52 0 := e_b43.trans (f_g51.1 0 (fun h => absurd (show (12 : Nat) = 5 from h) (by decide))).symm
                  have a_b43 := hm.at a_b43 (by decide)
                  refine lv_iload hx hb dX12_bell_137 (lv_at hl 1 rfl) ?_
                  exact iv_iret X hr hlocks hB ⟨hM, (i30_x29.wk (by decide)), (fun g9 r9 h9 => by have h8 := a_h0.symm.trans h9; cases h8; exact e53.symm.trans e_y15), (by rw [← e_b28]; exact lb_yes a_b28 ⟨i5_x_0, i12_x_1, i19_x_2, i26_x_3, by rw [← e_x29]; exact i30_x29.2⟩ (eb ▸ hK) (eb ▸ hC) (by have w1 := congrArg Int32.toInt e_x29; have w2 := congrArg Int32.toInt q146; have e1 : (1 : Int32).toInt = 1 := rfl; omega) e_x29)⟩ dX12_bell_139
                · skip
                  have i54_x33 : iv_R 0 7 x33 := (i_x33.cutHi (n := 7) (iv_lt_r (iv_nle c37) q_8 (by decide)))
                  refine lv_aload_n hx hb dX12_bell_73 rfl (lv_at hl 2 rfl) ?_
                  refine lv_iload hx hb dX12_bell_74 (lv_at hl 1 rfl) ?_
                  refine lv_iload hx hb dX12_bell_76 (lv_at hl 0 rfl) ?_
                  refine lv_iconst (v := 0) hx hb dX12_bell_78 (by decide) ?_
                  refine iv_cVv X k_good k_mf_X12_bells k_im_X12_bells k_sel_X12_bells k_ml_X12_72 ft_X12 hB a_h0 sh_12 (As := [.int x29, .int x33, .int 0]) (c_X12_bells l D tys base G36 h0 g34 r35 a_h0 x29 i30_x29 x33 i54_x33 0 (q_0.wk (by decide)) (fun _ => (q_0.wk (by decide))) (fun _ => (q_0.wk (by decide)))) ⟨rfl, rfl⟩ ⟨Nat.le_of_ble_eq_true rfl, Nat.le_of_ble_eq_true rfl⟩ ⟨Nat.le_of_ble_eq_true rfl, Nat.le_of_ble_eq_true rfl⟩ rfl rfl hl.1 (Nat.le_of_ble_eq_true rfl) dX12_bell_79 (fun G9 H locs hq hB => ?_)
                  have hm := hq
                  obtain ⟨G56, hG9⟩ : ∃ g, g = G9 := ⟨_, rfl⟩
                  rw [← hG9] at hm hB
                  have hM := hM.stp (iv_MdT.of hm) (by decide)
                  have a_h0 := hm.at a_h0 (by decide)
                  have hF := hF.stp hm
                  refine iv_iinc hx hb i54_x33 (lo := 1) (hi := 8) (by decide) dX12_bell_82 hl (k := 0) rfl (by decide) (fun x57 ls e_x57 i_x57 hl => ?_)
                  have hl : lv_has ls 7 [(6, .int x57), (5, .int x29), (0, .ref h0), (1, .int x_0), (2, .int x_1), (3, .int x_2), (4, .int x_3)] := hl
                  refine lv_goto (tgt := 66) hx hb dX12_bell_85 (by decide) ?_
                  exact ih_66 G56 hM _ _ hB g34 r35 a_h0 x57 (i_x57.wk (by decide)) (iv_mup (c := 1) i_x33 (by decide) (by decide) (by omega) hn_66) ⟨hF, gi_66.2.symm.symm⟩ _ (lv_sub hl [0, 1, 2, 3, 4, 5, 6] rfl)
            exact L_66 _ G hM _ _ hB g_h0 r_h0 a_h0 0 (q_0.wk (by decide)) (Nat.lt_succ_self _) ⟨hF, e_y15.symm⟩ _ (lv_sub hl [0, 1, 2, 3, 4, 5, 6] rfl)
          · skip
            have i57_x29 : iv_R 10 10 x29 := (i_x29.cutLo (n := 10) (iv_eq_r c30 q_10).1)
            refine lv_iconst (v := (-1)) hx hb dX12_bell_51 (by decide) ?_
            exact iv_iret X hr hlocks hB ⟨iv_MdF.of hM, (q_n1.wk (by decide)), (fun g9 r9 h9 => by have h8 := a_h0.symm.trans h9; cases h8; exact e_y15.symm.trans e_y15), (by rw [← e_b28]; exact lb_no (fun x hx h9 => by have w1 := congrArg Int32.toInt (e_x29.trans (hx.val a_b28)); have w2 := i57_x29.1; have w3 := h9.2.2.2.2; omega))⟩ dX12_bell_52
theorem dX12_image_0 : decode cX12_image 0 = .ok (.iload_n 1, 1) := by decide +kernel
theorem dX12_image_1 : decode cX12_image 1 = .ok (.ifCond .ne 12, 3) := by decide +kernel
theorem dX12_image_4 : decode cX12_image 4 = .ok (.aload_n 0, 1) := by decide +kernel
theorem dX12_image_5 : decode cX12_image 5 = .ok (.getfield 456, 3) := by decide +kernel
theorem dX12_image_8 : decode cX12_image 8 = .ok (.ifCond .ne 5, 3) := by decide +kernel
theorem dX12_image_11 : decode cX12_image 11 = .ok (.iconst 0, 1) := by decide +kernel
theorem dX12_image_12 : decode cX12_image 12 = .ok (.ireturn, 1) := by decide +kernel
theorem dX12_image_13 : decode cX12_image 13 = .ok (.iconst 0, 1) := by decide +kernel
theorem dX12_image_14 : decode cX12_image 14 = .ok (.istore_n 2, 1) := by decide +kernel
theorem dX12_image_15 : decode cX12_image 15 = .ok (.iload_n 2, 1) := by decide +kernel
theorem dX12_image_16 : decode cX12_image 16 = .ok (.sipush 2514, 3) := by decide +kernel
theorem dX12_image_19 : decode cX12_image 19 = .ok (.if_icmp .ge 40, 3) := by decide +kernel
theorem dX12_image_22 : decode cX12_image 22 = .ok (.iload_n 1, 1) := by decide +kernel
theorem dX12_image_23 : decode cX12_image 23 = .ok (.ifCond .eq 18, 3) := by decide +kernel
theorem dX12_image_26 : decode cX12_image 26 = .ok (.aload_n 0, 1) := by decide +kernel
theorem dX12_image_27 : decode cX12_image 27 = .ok (.getfield 13, 3) := by decide +kernel
theorem dX12_image_30 : decode cX12_image 30 = .ok (.iload_n 2, 1) := by decide +kernel
theorem dX12_image_31 : decode cX12_image 31 = .ok (.aload_n 0, 1) := by decide +kernel
theorem dX12_image_32 : decode cX12_image 32 = .ok (.getfield 7, 3) := by decide +kernel
theorem dX12_image_35 : decode cX12_image 35 = .ok (.iload_n 2, 1) := by decide +kernel
theorem dX12_image_36 : decode cX12_image 36 = .ok (.iaload, 1) := by decide +kernel
theorem dX12_image_37 : decode cX12_image 37 = .ok (.iastore, 1) := by decide +kernel
theorem dX12_image_38 : decode cX12_image 38 = .ok (.goto 15, 3) := by decide +kernel
theorem dX12_image_41 : decode cX12_image 41 = .ok (.aload_n 0, 1) := by decide +kernel
theorem dX12_image_42 : decode cX12_image 42 = .ok (.getfield 7, 3) := by decide +kernel
theorem dX12_image_45 : decode cX12_image 45 = .ok (.iload_n 2, 1) := by decide +kernel
theorem dX12_image_46 : decode cX12_image 46 = .ok (.aload_n 0, 1) := by decide +kernel
theorem dX12_image_47 : decode cX12_image 47 = .ok (.getfield 13, 3) := by decide +kernel
theorem dX12_image_50 : decode cX12_image 50 = .ok (.iload_n 2, 1) := by decide +kernel
theorem dX12_image_51 : decode cX12_image 51 = .ok (.iaload, 1) := by decide +kernel
theorem dX12_image_52 : decode cX12_image 52 = .ok (.iastore, 1) := by decide +kernel
theorem dX12_image_53 : decode cX12_image 53 = .ok (.iinc 2 1, 3) := by decide +kernel
theorem dX12_image_56 : decode cX12_image 56 = .ok (.goto (-41), 3) := by decide +kernel
theorem dX12_image_59 : decode cX12_image 59 = .ok (.iload_n 1, 1) := by decide +kernel
theorem dX12_image_60 : decode cX12_image 60 = .ok (.ifCond .ne 7, 3) := by decide +kernel
theorem dX12_image_63 : decode cX12_image 63 = .ok (.aload_n 0, 1) := by decide +kernel
theorem dX12_image_64 : decode cX12_image 64 = .ok (.invokevirtual 63, 3) := by decide +kernel
theorem dX12_image_67 : decode cX12_image 67 = .ok (.aload_n 0, 1) := by decide +kernel
theorem dX12_image_68 : decode cX12_image 68 = .ok (.iconst 1, 1) := by decide +kernel
theorem dX12_image_69 : decode cX12_image 69 = .ok (.putfield 456, 3) := by decide +kernel
theorem dX12_image_72 : decode cX12_image 72 = .ok (.iconst 1, 1) := by decide +kernel
theorem dX12_image_73 : decode cX12_image 73 = .ok (.ireturn, 1) := by decide +kernel
set_option maxHeartbeats 4000000 in
set_option maxRecDepth 100000 in
theorem e_X12_image (l : Launch) (D : va_G) (tys : List (ClassId × FieldType)) (base : Nat) (G : iv_G) (h0 : Nat) (g_h0 : Nat → Int32) (r_h0 : Nat → Nat) (a_h0 : G h0 = some (12, g_h0, r_h0)) (x_0 : Int32) (i_x_0 : iv_R 0 1 x_0) (hne : r_h0 0 ≠ r_h0 1) : Met l yX12_image (Cond.code yX12_image cX12_image 3 (some .boolean) :: iv_W0) ({ frames := 1, cells := 0, slots := 0, locals := 20 }) (iv_Pc iv_sh D classes tys base G [.ref h0, .int x_0]) (iv_Qi iv_sh D classes tys base (fun v G' => iv_MdO [12, 60] G G' ∧ iv_R 0 1 v ∧ (∀ (g' : Nat → Int32) (r' : Nat → Nat), G' h0 = some (12, g', r') → g' 15 = g_h0 15) ∧ (¬ v = 0 ↔ (¬ x_0 = 0 ∨ ¬ g_h0 4 = 0)) ∧ (∀ (g' : Nat → Int32) (r' : Nat → Nat), G' h0 = some (12, g', r') → g' 4 = (if v = 0 then g_h0 4 else 1)) ∧ li_P 60 146 r_h0 x_0 v G G')) 0 0 (iv_A base) := by
  refine iv_head (by decide) (Nat.le_of_ble_eq_true rfl) ?_
  intro p e s m args below meth c ls X hr hlocks hname hB hl
  have X := X
  have hx := X.1.1
  have hb := X.1.2.1
  have hM : iv_MdO [12, 60] G G := iv_MdO.rf
  have a_st := a_h0
  have hBs := hB
  obtain ⟨gw, r_gw, h_gw⟩ := iv_getw hB a_h0
  obtain ⟨gk, r_gk, h_gk⟩ := iv_getk hB a_h0
  have h0w := h_gw
  have h0k := h_gk
  have h_gw0 := h_gw
  have h_gk0 := h_gk
  have hO : iv_only2 (r_h0 0) (r_h0 1) G G := iv_only2.rf
  have hB := hB.toU
  obtain ⟨src, hs1, hs0⟩ : ∃ src : Nat → Int32, (¬ x_0 = 0 → src = gw) ∧ (x_0 = 0 → src = gk) := by
    by_cases h : x_0 = 0
    · exact ⟨gk, fun q => absurd h q, fun _ => rfl⟩
    · exact ⟨gw, fun _ => rfl, fun q => absurd q h⟩
  have hl : lv_has ls 3 [(0, .ref h0), (1, .int x_0)] := hl
  obtain ⟨y15, e_y15⟩ : ∃ x, x = g_h0 15 := ⟨_, rfl⟩
  have i_y15 := iv_R.all y15
  refine lv_iload_n hx hb dX12_image_0 rfl (lv_at hl 1 rfl) ?_
  refine lv_if_ne (tgt := 13) hx hb dX12_image_1 (by decide) (fun c1 => ?_) (fun c1 => ?_)
  · skip
    have i1_x_0 : iv_R 1 1 x_0 := iv_ne_lo c1 i_x_0 q_0 (by decide)
    refine lv_iconst (v := 0) hx hb dX12_image_13 (by decide) ?_
    refine lv_istore_n (lv' := [(2, .int 0), (0, .ref h0), (1, .int x_0)]) hx hb dX12_image_14 rfl hl (by decide) rfl (fun ls hl => ?_)
    have L_15 : ∀ (n_15 : Nat) (G10 : iv_G) (hM : iv_MdO [12, 60] G G10) (H : Heap) (locs : List Loc) (hB : iv_B iv_shU D classes tys base G10 s.heap H locs) (g4 : Nat → Int32) (r5 : Nat → Nat) (a_h0 : G10 h0 = some (12, g4, r5)) (g6 : Nat → Int32) (r7 : Nat → Nat) (h_gw : G10 (r_h0 0) = some (60, g6, r7)) (g8 : Nat → Int32) (r9 : Nat → Nat) (h_gk : G10 (r_h0 1) = some (60, g8, r9)) (x3 : Int32) (i_x3 : iv_R 0 2514 x3) (hn_15 : (2515 - x3.toInt).toNat < n_15) (gi_15 : iv_only2 (r_h0 0) (r_h0 1) G G10 ∧ iv_im gw gk src x3.toInt.toNat g6 g8) (ls : Array Slot) (hl : lv_has ls 3 [(2, .int x3), (0, .ref h0), (1, .int x_0)]), W p l e ({ frames := 1, cells := 0, slots := 0, locals := 20 } : Room) s m args below meth c H locs 0 0 (MQ below (iv_Qi iv_sh D classes tys base (fun v G' => iv_MdO [12, 60] G G' ∧ iv_R 0 1 v ∧ (∀ (g' : Nat → Int32) (r' : Nat → Nat), G' h0 = some (12, g', r') → g' 15 = g_h0 15) ∧ (¬ v = 0 ↔ (¬ x_0 = 0 ∨ ¬ g_h0 4 = 0)) ∧ (∀ (g' : Nat → Int32) (r' : Nat → Nat), G' h0 = some (12, g', r') → g' 4 = (if v = 0 then g_h0 4 else 1)) ∧ li_P 60 146 r_h0 x_0 v G G')) args s 0 0 (iv_A base)) (F0 m 15 ls []) := by
      intro n_15
      induction n_15 with
      | zero => intro G10 hM H locs hB g4 r5 a_h0 g6 r7 h_gw g8 r9 h_gk x3 i_x3 hn_15 gi_15 ls hl; exact absurd hn_15 (Nat.not_lt_zero _)
      | succ n_15 ih_15 =>
        intro G10 hM H locs hB g4 r5 a_h0 g6 r7 h_gw g8 r9 h_gk x3 i_x3 hn_15 gi_15 ls hl
        have hO := gi_15.1
        have eg : g4 = g_h0 := iv_eqg hO a_st a_h0 h_gw0 h_gk0
        have er : r5 = r_h0 := iv_refsO hM a_st a_h0
        refine lv_iload_n hx hb dX12_image_15 rfl (lv_at hl 0 rfl) ?_
        refine lv_sipush (v := 2514) hx hb dX12_image_16 (by decide) ?_
        refine lv_icmp_ge (tgt := 59) hx hb dX12_image_19 (by decide) (fun c11 => ?_) (fun c11 => ?_)
        · skip
          have i11_x3 : iv_R 2514 2514 x3 := (i_x3.cutLo (n := 2514) (iv_le_l c11 q_2514))
          have h9i := i11_x3.1
          have hsrc : iv_wP src := Classical.byCases (p := x_0 = 0) (fun h => by rw [hs0 h]; exact hBs.wP h0k) (fun h => by rw [hs1 h]; exact hBs.wP h0w)
          have hB := hB.ofU (fun a9 g9 r9 h9 => by
            by_cases e9 : a9 = r_h0 0
            · subst e9; have q1 := h_gw.symm.trans h9; cases q1; exact hsrc.cong (fun j hj => (gi_15.2.1 j (by omega)).1)
            · by_cases e8 : a9 = r_h0 1
              · subst e8; have q1 := h_gk.symm.trans h9; cases q1; exact hsrc.cong (fun j hj => (gi_15.2.1 j (by omega)).2)
              · rw [gi_15.1 a9 e9 e8] at h9; exact hBs.wP h9)
          refine lv_iload_n hx hb dX12_image_59 rfl (lv_at hl 2 rfl) ?_
          refine lv_if_ne (tgt := 67) hx hb dX12_image_60 (by decide) (fun c13 => ?_) (fun c13 => ?_)
          · skip
            refine lv_aload_n hx hb dX12_image_67 rfl (lv_at hl 1 rfl) ?_
            refine lv_iconst (v := 1) hx hb dX12_image_68 (by decide) ?_
            refine iv_puti X ft_X12 hB a_h0 sh_12 4 (by decide) rfl rfl k_fl_X12_456 rfl (q_1.wk (by decide)) (iv_nar (q_1.wk (by decide))) rfl dX12_image_69 (fun H locs hB => ?_)
            have hm := iv_MdO.put (x := 1) a_h0 (j := 4)
            have h9 := iv_up_eq (G := G10) (a := h0) (k := (12, upd g4 4 1, r5))
            generalize iv_up G10 h0 _ = G14 at hB hm h9
            have hM := hM.stp hm (by decide)
            generalize hgn_g15 : upd g4 _ _ = g15 at h9
            have h_gw := hm.at h_gw (by decide)
            have h_gk := hm.at h_gk (by decide)
            have a_h0 := h9
            have e16 : y15 = g15 15 := by rw [← hgn_g15]; exact (e_y15.trans (congrFun eg 15).symm)
            have e9_g15 : 1 = g15 4 := by rw [← hgn_g15]; simp [upd]
            refine lv_iconst (v := 1) hx hb dX12_image_72 (by decide) ?_
            exact iv_zret X hr hlocks hB (q_1.wk (by decide)) ⟨hM, (q_1.wk (by decide)), (fun g9 r9 h9 => by have h8 := a_h0.symm.trans h9; cases h8; exact e16.symm.trans e_y15), ⟨fun _ => Or.inl c1, fun _ h => absurd h (by decide)⟩, (fun g9 r9 h9 => by have h8 := a_h0.symm.trans h9; cases h8; rw [if_neg (show ¬ (1 : Int32) = 0 by decide), ← hgn_g15]; simp [upd]), li_take c1 (fun hne n hn => by have w1 := hn.val h0w; exact ⟨⟨_, _, h_gw, ((gi_15.2.1 146 (by omega)).1.trans (congrFun (hs1 c1) 146)).trans w1⟩, ⟨_, _, h_gk, ((gi_15.2.1 146 (by omega)).2.trans (congrFun (hs1 c1) 146)).trans w1⟩⟩)⟩ dX12_image_73
          · skip
            exact absurd c13 c1
        · skip
          have i16_x3 : iv_R 0 2513 x3 := (i_x3.cutHi (n := 2513) (iv_lt_r (iv_nle c11) q_2514 (by decide)))
          refine lv_iload_n hx hb dX12_image_22 rfl (lv_at hl 2 rfl) ?_
          refine lv_if_eq (tgt := 41) hx hb dX12_image_23 (by decide) (fun c18 => ?_) (fun c18 => ?_)
          · skip
            exact absurd c18 c1
          · skip
            refine lv_aload_n hx hb dX12_image_26 rfl (lv_at hl 1 rfl) ?_
            refine iv_getr0 X ft_X12 hB a_h0 shU_12 1 (by decide) rfl k_fl_X12_13 dX12_image_27 (congrFun er 1).symm ?_
            refine lv_iload_n hx hb dX12_image_30 rfl (lv_at hl 0 rfl) ?_
            refine lv_aload_n hx hb dX12_image_31 rfl (lv_at hl 1 rfl) ?_
            refine iv_getr0 X ft_X12 hB a_h0 shU_12 0 (by decide) rfl k_fl_X12_7 dX12_image_32 (congrFun er 0).symm ?_
            refine lv_iload_n hx hb dX12_image_35 rfl (lv_at hl 0 rfl) ?_
            refine iv_aldP X hB h_gw shU_60 (iv_in i16_x3 (by decide)) dX12_image_36 (fun hP => ?_)
            refine lv_topi (fun x19 e_x19 => ?_)
            have i_x19 := iv_R.all x19
            refine iv_astP X hB h_gk shU_60 (iv_in i16_x3 (by decide)) (fun _ => trivial) dX12_image_37 (fun H locs hB => ?_)
            have hm := iv_MdO.put (x := x19) h_gk (j := x3.toNatClampNeg)
            have h9 := iv_up_eq (G := G10) (a := (r_h0 1)) (k := (60, upd g8 x3.toNatClampNeg x19, r9))
            have hO := hO.up (a := (r_h0 1)) (k := (60, upd g8 x3.toNatClampNeg x19, r9)) (by first | exact Or.inl rfl | exact Or.inr rfl)
            have hW21 := (iv_up_ne (G := G10) (k := (60, upd g8 x3.toNatClampNeg x19, r9)) hne).trans h_gw
            generalize iv_up G10 (r_h0 1) _ = G20 at hB hm h9 hO hW21
            have hM := hM.stp hm (by decide)
            generalize hgn_g22 : upd g8 _ _ = g22 at h9
            have a_h0 := hm.at a_h0 (by decide)
            obtain ⟨g23, r24, h_gw, f_g23⟩ := hm.ex h_gw
            have h_gk := h9
            refine lv_goto (tgt := 53) hx hb dX12_image_38 (by decide) ?_
            refine iv_iinc hx hb i16_x3 (lo := 1) (hi := 2514) (by decide) dX12_image_53 hl (k := 0) rfl (by decide) (fun x25 ls e_x25 i_x25 hl => ?_)
            have hl : lv_has ls 3 [(2, .int x25), (0, .ref h0), (1, .int x_0)] := hl
            refine lv_goto (tgt := 15) hx hb dX12_image_56 (by decide) ?_
            exact ih_15 G20 hM _ _ hB g4 r5 a_h0 g6 r7 hW21 g22 r9 h_gk x25 (i_x25.wk (by decide)) (iv_mup (c := 1) i_x3 (by decide) (by decide) (by omega) hn_15) ⟨hO, by rw [← hgn_g22, e_x19, show x25.toInt.toNat = x3.toInt.toNat + 1 from (by have := i16_x3.1; have w9 : x25.toInt = x3.toInt + 1 := e_x25; omega)]; exact gi_15.2.one (hs1 c18) rfl rfl⟩ _ (lv_sub hl [0, 1, 2] rfl)
    exact L_15 _ G hM _ _ hB g_h0 r_h0 a_h0 gw r_gw h_gw gk r_gk h_gk 0 (q_0.wk (by decide)) (Nat.lt_succ_self _) ⟨hO, iv_im.zero⟩ _ (lv_sub hl [0, 1, 2] rfl)
  · skip
    have i25_x_0 : iv_R 0 0 x_0 := (i_x_0.cutHi (n := 0) (iv_eq_r c1 q_0).2)
    refine lv_aload_n hx hb dX12_image_4 rfl (lv_at hl 0 rfl) ?_
    refine iv_geti X ft_X12 hB a_h0 shU_12 4 (by decide) rfl k_fl_X12_456 dX12_image_5 (fun x27 e_x27 i_x27 => ?_)
    refine lv_if_ne (tgt := 13) hx hb dX12_image_8 (by decide) (fun c28 => ?_) (fun c28 => ?_)
    · skip
      have i28_x27 : iv_R 1 1 x27 := iv_ne_lo c28 i_x27 q_0 (by decide)
      refine lv_iconst (v := 0) hx hb dX12_image_13 (by decide) ?_
      refine lv_istore_n (lv' := [(2, .int 0), (0, .ref h0), (1, .int x_0)]) hx hb dX12_image_14 rfl hl (by decide) rfl (fun ls hl => ?_)
      have L_15 : ∀ (n_15 : Nat) (G37 : iv_G) (hM : iv_MdO [12, 60] G G37) (H : Heap) (locs : List Loc) (hB : iv_B iv_shU D classes tys base G37 s.heap H locs) (g31 : Nat → Int32) (r32 : Nat → Nat) (a_h0 : G37 h0 = some (12, g31, r32)) (g33 : Nat → Int32) (r34 : Nat → Nat) (h_gw : G37 (r_h0 0) = some (60, g33, r34)) (g35 : Nat → Int32) (r36 : Nat → Nat) (h_gk : G37 (r_h0 1) = some (60, g35, r36)) (x30 : Int32) (i_x30 : iv_R 0 2514 x30) (hn_15 : (2515 - x30.toInt).toNat < n_15) (gi_15 : iv_only2 (r_h0 0) (r_h0 1) G G37 ∧ iv_im gw gk src x30.toInt.toNat g33 g35) (ls : Array Slot) (hl : lv_has ls 3 [(2, .int x30), (0, .ref h0), (1, .int x_0)]), W p l e ({ frames := 1, cells := 0, slots := 0, locals := 20 } : Room) s m args below meth c H locs 0 0 (MQ below (iv_Qi iv_sh D classes tys base (fun v G' => iv_MdO [12, 60] G G' ∧ iv_R 0 1 v ∧ (∀ (g' : Nat → Int32) (r' : Nat → Nat), G' h0 = some (12, g', r') → g' 15 = g_h0 15) ∧ (¬ v = 0 ↔ (¬ x_0 = 0 ∨ ¬ g_h0 4 = 0)) ∧ (∀ (g' : Nat → Int32) (r' : Nat → Nat), G' h0 = some (12, g', r') → g' 4 = (if v = 0 then g_h0 4 else 1)) ∧ li_P 60 146 r_h0 x_0 v G G')) args s 0 0 (iv_A base)) (F0 m 15 ls []) := by
        intro n_15
        induction n_15 with
        | zero => intro G37 hM H locs hB g31 r32 a_h0 g33 r34 h_gw g35 r36 h_gk x30 i_x30 hn_15 gi_15 ls hl; exact absurd hn_15 (Nat.not_lt_zero _)
        | succ n_15 ih_15 =>
          intro G37 hM H locs hB g31 r32 a_h0 g33 r34 h_gw g35 r36 h_gk x30 i_x30 hn_15 gi_15 ls hl
          have hO := gi_15.1
          have eg : g31 = g_h0 := iv_eqg hO a_st a_h0 h_gw0 h_gk0
          have er : r32 = r_h0 := iv_refsO hM a_st a_h0
          refine lv_iload_n hx hb dX12_image_15 rfl (lv_at hl 0 rfl) ?_
          refine lv_sipush (v := 2514) hx hb dX12_image_16 (by decide) ?_
          refine lv_icmp_ge (tgt := 59) hx hb dX12_image_19 (by decide) (fun c38 => ?_) (fun c38 => ?_)
          · skip
            have i38_x30 : iv_R 2514 2514 x30 := (i_x30.cutLo (n := 2514) (iv_le_l c38 q_2514))
            have h9i := i38_x30.1
            have hsrc : iv_wP src := Classical.byCases (p := x_0 = 0) (fun h => by rw [hs0 h]; exact hBs.wP h0k) (fun h => by rw [hs1 h]; exact hBs.wP h0w)
            have hB := hB.ofU (fun a9 g9 r9 h9 => by
              by_cases e9 : a9 = r_h0 0
              · subst e9; have q1 := h_gw.symm.trans h9; cases q1; exact hsrc.cong (fun j hj => (gi_15.2.1 j (by omega)).1)
              · by_cases e8 : a9 = r_h0 1
                · subst e8; have q1 := h_gk.symm.trans h9; cases q1; exact hsrc.cong (fun j hj => (gi_15.2.1 j (by omega)).2)
                · rw [gi_15.1 a9 e9 e8] at h9; exact hBs.wP h9)
            refine lv_iload_n hx hb dX12_image_59 rfl (lv_at hl 2 rfl) ?_
            refine lv_if_ne (tgt := 67) hx hb dX12_image_60 (by decide) (fun c40 => ?_) (fun c40 => ?_)
            · skip
              exact (iv_ne_lo c40 i25_x_0 q_0 (a' := 1) (by decide)).no (by decide)
            · skip
              refine lv_aload_n hx hb dX12_image_63 rfl (lv_at hl 1 rfl) ?_
              refine iv_cVv X k_good k_mf_X12_forgets k_im_X12_forgets k_sel_X12_forgets k_ml_X12_63 ft_X12 hB a_h0 sh_12 (As := []) (c_X12_forgets l D tys base G37 h0 g31 r32 a_h0) ⟨rfl, rfl⟩ ⟨Nat.le_of_ble_eq_true rfl, Nat.le_of_ble_eq_true rfl⟩ ⟨Nat.le_of_ble_eq_true rfl, Nat.le_of_ble_eq_true rfl⟩ rfl rfl hl.1 (Nat.le_of_ble_eq_true rfl) dX12_image_64 (fun G9 H locs hq hB => ?_)
              have hm := hq
              obtain ⟨G41, hG9⟩ : ∃ g, g = G9 := ⟨_, rfl⟩
              rw [← hG9] at hm hB
              have hM := hM.stp (iv_MdO.ofM hm) (by decide)
              obtain ⟨g42, r43, a_h0, f_g42⟩ := hm.ex a_h0
              have e44 : y15 = g42 15 := (e_y15.trans (congrFun eg 15).symm).trans (f_g42.2.1 15 (show (15 : Nat) ∈ iv_stab 12 from by decide)).symm
              have e45 : (r_h0 0) = r43 0 := (congrFun er 0).symm.trans (f_g42.1 0 (fun h => absurd (show (12 : Nat) = 5 from h) (by decide))).symm
              have e46 : (r_h0 1) = r43 1 := (congrFun er 1).symm.trans (f_g42.1 1 (fun h => absurd (show (12 : Nat) = 5 from h) (by decide))).symm
              have h_gw := hm.at h_gw (by decide)
              have h_gk := hm.at h_gk (by decide)
              refine lv_aload_n hx hb dX12_image_67 rfl (lv_at hl 1 rfl) ?_
              refine lv_iconst (v := 1) hx hb dX12_image_68 (by decide) ?_
              refine iv_puti X ft_X12 hB a_h0 sh_12 4 (by decide) rfl rfl k_fl_X12_456 rfl (q_1.wk (by decide)) (iv_nar (q_1.wk (by decide))) rfl dX12_image_69 (fun H locs hB => ?_)
              have hm := iv_MdO.put (x := 1) a_h0 (j := 4)
              have h9 := iv_up_eq (G := G41) (a := h0) (k := (12, upd g42 4 1, r43))
              generalize iv_up G41 h0 _ = G47 at hB hm h9
              have hM := hM.stp hm (by decide)
              generalize hgn_g48 : upd g42 _ _ = g48 at h9
              have h_gw := hm.at h_gw (by decide)
              have h_gk := hm.at h_gk (by decide)
              have a_h0 := h9
              have e49 : y15 = g48 15 := by rw [← hgn_g48]; exact e44
              have e9_g48 : 1 = g48 4 := by rw [← hgn_g48]; simp [upd]
              refine lv_iconst (v := 1) hx hb dX12_image_72 (by decide) ?_
              exact iv_zret X hr hlocks hB (q_1.wk (by decide)) ⟨hM, (q_1.wk (by decide)), (fun g9 r9 h9 => by have h8 := a_h0.symm.trans h9; cases h8; exact e49.symm.trans e_y15), ⟨fun _ => Or.inr (fun q => c28 (e_x27.trans q)), fun _ h => absurd h (by decide)⟩, (fun g9 r9 h9 => by have h8 := a_h0.symm.trans h9; cases h8; rw [if_neg (show ¬ (1 : Int32) = 0 by decide), ← hgn_g48]; simp [upd]), li_back c1 (by decide) (fun hne p hp => by have w1 := hp.val h0k; exact ⟨⟨_, _, h_gw, ((gi_15.2.1 146 (by omega)).1.trans (congrFun (hs0 c1) 146)).trans w1⟩, ⟨_, _, h_gk, ((gi_15.2.1 146 (by omega)).2.trans (congrFun (hs0 c1) 146)).trans w1⟩⟩)⟩ dX12_image_73
          · skip
            have i49_x30 : iv_R 0 2513 x30 := (i_x30.cutHi (n := 2513) (iv_lt_r (iv_nle c38) q_2514 (by decide)))
            refine lv_iload_n hx hb dX12_image_22 rfl (lv_at hl 2 rfl) ?_
            refine lv_if_eq (tgt := 41) hx hb dX12_image_23 (by decide) (fun c51 => ?_) (fun c51 => ?_)
            · skip
              refine lv_aload_n hx hb dX12_image_41 rfl (lv_at hl 1 rfl) ?_
              refine iv_getr0 X ft_X12 hB a_h0 shU_12 0 (by decide) rfl k_fl_X12_7 dX12_image_42 (congrFun er 0).symm ?_
              refine lv_iload_n hx hb dX12_image_45 rfl (lv_at hl 0 rfl) ?_
              refine lv_aload_n hx hb dX12_image_46 rfl (lv_at hl 1 rfl) ?_
              refine iv_getr0 X ft_X12 hB a_h0 shU_12 1 (by decide) rfl k_fl_X12_13 dX12_image_47 (congrFun er 1).symm ?_
              refine lv_iload_n hx hb dX12_image_50 rfl (lv_at hl 0 rfl) ?_
              refine iv_aldP X hB h_gk shU_60 (iv_in i49_x30 (by decide)) dX12_image_51 (fun hP => ?_)
              refine lv_topi (fun x52 e_x52 => ?_)
              have i_x52 := iv_R.all x52
              refine iv_astP X hB h_gw shU_60 (iv_in i49_x30 (by decide)) (fun _ => trivial) dX12_image_52 (fun H locs hB => ?_)
              have hm := iv_MdO.put (x := x52) h_gw (j := x30.toNatClampNeg)
              have h9 := iv_up_eq (G := G37) (a := (r_h0 0)) (k := (60, upd g33 x30.toNatClampNeg x52, r34))
              have hO := hO.up (a := (r_h0 0)) (k := (60, upd g33 x30.toNatClampNeg x52, r34)) (by first | exact Or.inl rfl | exact Or.inr rfl)
              have hW54 := (iv_up_ne (G := G37) (k := (60, upd g33 x30.toNatClampNeg x52, r34)) (Ne.symm hne)).trans h_gk
              generalize iv_up G37 (r_h0 0) _ = G53 at hB hm h9 hO hW54
              have hM := hM.stp hm (by decide)
              generalize hgn_g55 : upd g33 _ _ = g55 at h9
              have a_h0 := hm.at a_h0 (by decide)
              obtain ⟨g56, r57, h_gk, f_g56⟩ := hm.ex h_gk
              have h_gw := h9
              refine iv_iinc hx hb i49_x30 (lo := 1) (hi := 2514) (by decide) dX12_image_53 hl (k := 0) rfl (by decide) (fun x58 ls e_x58 i_x58 hl => ?_)
              have hl : lv_has ls 3 [(2, .int x58), (0, .ref h0), (1, .int x_0)] := hl
              refine lv_goto (tgt := 15) hx hb dX12_image_56 (by decide) ?_
              exact ih_15 G53 hM _ _ hB g31 r32 a_h0 g55 r34 h_gw g35 r36 hW54 x58 (i_x58.wk (by decide)) (iv_mup (c := 1) i_x30 (by decide) (by decide) (by omega) hn_15) ⟨hO, by rw [← hgn_g55, e_x52, show x58.toInt.toNat = x30.toInt.toNat + 1 from (by have := i49_x30.1; have w9 : x58.toInt = x30.toInt + 1 := e_x58; omega)]; exact gi_15.2.two (hs0 (by assumption)) rfl rfl⟩ _ (lv_sub hl [0, 1, 2] rfl)
            · skip
              exact (iv_ne_lo c51 i25_x_0 q_0 (a' := 1) (by decide)).no (by decide)
      exact L_15 _ G hM _ _ hB g_h0 r_h0 a_h0 gw r_gw h_gw gk r_gk h_gk 0 (q_0.wk (by decide)) (Nat.lt_succ_self _) ⟨hO, iv_im.zero⟩ _ (lv_sub hl [0, 1, 2] rfl)
    · skip
      have i58_x27 : iv_R 0 0 x27 := (i_x27.cutHi (n := 0) (iv_eq_r c28 q_0).2)
      have hB := hBs
      refine lv_iconst (v := 0) hx hb dX12_image_11 (by decide) ?_
      exact iv_zret X hr hlocks hB (q_0.wk (by decide)) ⟨hM, (q_0.wk (by decide)), (fun g9 r9 h9 => by have h8 := a_h0.symm.trans h9; cases h8; exact e_y15.symm.trans e_y15), ⟨fun h => absurd rfl h, fun h => h.elim (fun q => absurd c1 q) (fun q => absurd (e_x27.symm.trans c28) q)⟩, (fun g9 r9 h9 => by have h8 := a_h0.symm.trans h9; cases h8; exact (if_pos rfl).symm), li_none c1⟩ dX12_image_12
