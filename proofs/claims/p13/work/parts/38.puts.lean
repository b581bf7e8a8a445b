/-! what was read is put in its place -/
theorem iv_J.pt {g : Nat → Int32} {j : Nat} {x : Int32} (h : iv_J g) (hj : j ∉ [16, 17, 18]) : iv_J (upd g j x) := by
  have ne : ∀ i, i ∈ [16, 17, 18] → upd g j x i = g i := fun i hi => by
    have q : i ≠ j := fun e => hj (e ▸ hi)
    simp [upd, q]
  unfold iv_J
  rw [ne 16 (by decide), ne 17 (by decide), ne 18 (by decide)]
  exact h
theorem iv_FL.zero {h : Nat} {G : iv_G} {g : Nat → Int32} {r : Nat → Nat} (ha : G h = some (12, g, r)) (e : (g 12).toInt ≤ 0) : iv_FL h G := fun g' r' fl ql f q b c d i hi => by
  have e2 := ha.symm.trans b
  cases e2
  exact absurd hi (by omega)
theorem iv_FL.put {h : Nat} {G : iv_G} {g : Nat → Int32} {r : Nat → Nat} {j : Nat} {x : Int32} (hF : iv_FL h G) (ha : G h = some (12, g, r)) (hj : (12 : Nat) ≠ j ∧ (13 : Nat) ≠ j) : iv_FL h (iv_up G h (12, upd g j x, r)) := fun g2 r2 fl ql f q b2 c2 d2 => by
  have e := (iv_up_eq (G := G) (a := h) (k := (12, upd g j x, r))).symm.trans b2
  cases e
  have ne : ∀ j' : Nat, ∀ k : iv_K, k.1 ≠ 12 → iv_up G h (12, upd g j x, r) j' = some k → G j' = some k := fun j' k hk hj' => by
    by_cases e : j' = h
    · subst e
      rw [iv_up_eq] at hj'
      cases hj'
      exact absurd rfl hk
    · rw [iv_up_ne e] at hj'
      exact hj'
  have c3 := ne _ _ (show (63 : Nat) ≠ 12 from by decide) c2
  have d3 := ne _ _ (show (64 : Nat) ≠ 12 from by decide) d2
  have n12 : upd g j x 12 = g 12 := by simp [upd, hj.1]
  have n13 : upd g j x 13 = g 13 := by simp [upd, hj.2]
  rw [n12, n13]
  exact hF _ _ _ _ _ _ ha c3 d3
/-- the store with the laws' array free -/
def iv_shU : Nat → iv_Sh := fun c => if c = 60 then .inr (.inl (2514, fun _ => True)) else iv_sh c
theorem shU_60 : iv_shU 60 = .inr (.inl (2514, fun _ => True)) := rfl
theorem shU_12 : iv_shU 12 = .inl (12, ts_12) := rfl
theorem shU_63 : iv_shU 63 = .inr (.inl (64, iv_E (-2147483648) 2147483647 64)) := rfl
theorem shU_64 : iv_shU 64 = .inr (.inl (820, iv_E (-2147483648) 2147483647 820)) := rfl
theorem iv_B.toU {D : va_G} {tys : List (ClassId × FieldType)} {base : Nat} {G : iv_G} {H0 H : Heap} {locs : List Loc} (hB : iv_B iv_sh D classes tys base G H0 H locs) : iv_B iv_shU D classes tys base G H0 H locs := by
  refine ⟨fun a k ha => ⟨(hB.1 a k ha).1, ?_⟩, hB.2⟩
  have h := (hB.1 a k ha).2
  obtain ⟨c, g, r⟩ := k
  by_cases e : c = 60
  · subst e
    obtain ⟨cA, h1, h2, h3⟩ := iv_C.arr h sh_60
    exact ⟨cA, h1, h2, trivial⟩
  · unfold iv_C at h ⊢
    have e2 : iv_shU (c, g, r).1 = iv_sh (c, g, r).1 := if_neg e
    rw [e2]
    exact h
theorem iv_B.ofU {D : va_G} {tys : List (ClassId × FieldType)} {base : Nat} {G : iv_G} {H0 H : Heap} {locs : List Loc} (hB : iv_B iv_shU D classes tys base G H0 H locs) (hw : ∀ (a : Nat) (g : Nat → Int32) (r : Nat → Nat), G a = some (60, g, r) → iv_wP g) : iv_B iv_sh D classes tys base G H0 H locs := by
  refine ⟨fun a k ha => ⟨(hB.1 a k ha).1, ?_⟩, hB.2⟩
  have h := (hB.1 a k ha).2
  obtain ⟨c, g, r⟩ := k
  by_cases e : c = 60
  · subst e
    obtain ⟨cA, h1, h2, h3⟩ := iv_C.arr h shU_60
    have e3 : iv_sh ((60, g, r) : iv_K).1 = .inr (.inl (2514, iv_wP)) := sh_60
    unfold iv_C
    rw [e3]
    exact ⟨cA, h1, h2, hw a g r ha⟩
  · unfold iv_C at h ⊢
    have e2 : iv_shU (c, g, r).1 = iv_sh (c, g, r).1 := if_neg e
    rw [e2] at h
    exact h
theorem iv_B.wP {D : va_G} {tys : List (ClassId × FieldType)} {base : Nat} {G : iv_G} {H0 H : Heap} {locs : List Loc} (hB : iv_B iv_sh D classes tys base G H0 H locs) {a : Nat} {g : Nat → Int32} {r : Nat → Nat} (ha : G a = some (60, g, r)) : iv_wP g := by
  obtain ⟨cA, h1, h2, h3⟩ := (hB.got ha).arr sh_60
  exact h3
def iv_only (b : Nat) (G G' : iv_G) : Prop := ∀ a, a ≠ b → G' a = G a
theorem iv_only.rf {b : Nat} {G : iv_G} : iv_only b G G := fun _ _ => rfl
theorem iv_only.up {b : Nat} {G G' : iv_G} {k : iv_K} (h : iv_only b G G') : iv_only b G (iv_up G' b k) := fun a ha => by rw [iv_up_ne ha]; exact h a ha
def iv_pw (g0 fl : Nat → Int32) (k : Nat) (y : Int32) (i : Nat) (g : Nat → Int32) : Prop := g (150 + k) = y ∧ (∀ j, j < i → g (746 + 16 * k + j) = fl (4 * j) ∧ g (778 + 16 * k + j) = fl (4 * j + 1) ∧ g (810 + 16 * k + j) = fl (4 * j + 2)) ∧ ∀ q, q ≠ 150 + k → ¬ (746 + 16 * k ≤ q ∧ q < 762 + 16 * k) → ¬ (778 + 16 * k ≤ q ∧ q < 794 + 16 * k) → ¬ (810 + 16 * k ≤ q ∧ q < 826 + 16 * k) → ¬ (842 + 16 * k ≤ q ∧ q < 858 + 16 * k) → g q = g0 q
theorem iv_pw.zero {g0 fl : Nat → Int32} {k : Nat} {y : Int32} : iv_pw g0 fl k y 0 (upd g0 (150 + k) y) := ⟨by simp [upd], fun j hj => absurd hj (Nat.not_lt_zero _), fun q h _ _ _ _ => by simp [upd, h]⟩
theorem iv_pw.step {g0 fl g : Nat → Int32} {k : Nat} {y x : Int32} {i a1 a2 a3 a4 b1 b2 b3 : Nat} (h : iv_pw g0 fl k y i g) (hi : i < 16) (hk : k < 2) (e1 : a1 = 746 + 16 * k + i) (e2 : a2 = 778 + 16 * k + i) (e3 : a3 = 810 + 16 * k + i) (e4 : a4 = 842 + 16 * k + i) (f1 : b1 = 4 * i) (f2 : b2 = 4 * i + 1) (f3 : b3 = 4 * i + 2) : iv_pw g0 fl k y (i + 1) (upd (upd (upd (upd g a1 (fl b1)) a2 (fl b2)) a3 (fl b3)) a4 x) := by
  subst e1 e2 e3 e4 f1 f2 f3
  refine ⟨?_, fun j hj => ?_, fun q h1 h2 h3 h4 h5 => ?_⟩
  · simp only [upd]
    rw [if_neg (by omega), if_neg (by omega), if_neg (by omega), if_neg (by omega)]
    exact h.1
  · simp only [upd]
    by_cases e : j = i
    · subst e
      refine ⟨?_, ?_, ?_⟩
      · rw [if_neg (by omega), if_neg (by omega), if_neg (by omega), if_pos rfl]
      · rw [if_neg (by omega), if_neg (by omega), if_pos rfl]
      · rw [if_neg (by omega), if_pos rfl]
    · have w := h.2.1 j (by omega)
      refine ⟨?_, ?_, ?_⟩
      · rw [if_neg (by omega), if_neg (by omega), if_neg (by omega), if_neg (by omega)]; exact w.1
      · rw [if_neg (by omega), if_neg (by omega), if_neg (by omega), if_neg (by omega)]; exact w.2.1
      · rw [if_neg (by omega), if_neg (by omega), if_neg (by omega), if_neg (by omega)]; exact w.2.2
  · simp only [upd]
    rw [if_neg (by omega), if_neg (by omega), if_neg (by omega), if_neg (by omega)]
    exact h.2.2 q h1 h2 h3 h4 h5
def iv_ps (g1 f : Nat → Int32) (k i : Nat) (g : Nat → Int32) : Prop := (∀ j, j < i → g (874 + 820 * k + j) = f j) ∧ ∀ q, ¬ (874 + 820 * k ≤ q ∧ q < 1694 + 820 * k) → g q = g1 q
theorem iv_ps.zero {g1 f : Nat → Int32} {k : Nat} : iv_ps g1 f k 0 g1 := ⟨fun j hj => absurd hj (Nat.not_lt_zero _), fun _ _ => rfl⟩
theorem iv_ps.step {g1 f g : Nat → Int32} {k i a1 b1 : Nat} (h : iv_ps g1 f k i g) (hi : i < 820) (e1 : a1 = 874 + 820 * k + i) (f1 : b1 = i) : iv_ps g1 f k (i + 1) (upd g a1 (f b1)) := by
  subst e1 f1
  refine ⟨fun j hj => ?_, fun q hq => ?_⟩
  · simp only [upd]
    by_cases e : j = b1
    · subst e
      rw [if_pos rfl]
    · rw [if_neg (by omega)]
      exact h.1 j (by omega)
  · simp only [upd]
    rw [if_neg (by omega)]
    exact h.2 q hq
theorem iv_sg_mv {f g : Nat → Int32} {o o' : Nat} : ∀ (n b t : Nat), (∀ i, 2 * b ≤ i → i < 2 * (b + n) → g (o + i) = f (o' + i)) → iv_sg f o' n b t → iv_sg g o n b t := by
  intro n
  induction n with
  | zero => intro b t _ h; unfold iv_sg; trivial
  | succ n ih =>
    intro b t e h
    have e0 := e (2 * b) (by omega) (by omega)
    have e1 : g (o + 2 * b + 1) = f (o' + 2 * b + 1) := e (2 * b + 1) (by omega) (by omega)
    have e2 : ∀ i, 2 * (b + 1) ≤ i → i < 2 * (b + 1 + n) → g (o + i) = f (o' + i) := fun i h1 h2 => e i (by omega) (by omega)
    unfold iv_sg at h ⊢
    rw [e0, e1]
    rcases h with h | h | h | h
    · exact Or.inl ⟨h.1, h.2.1, ih _ _ e2 h.2.2⟩
    · exact Or.inr (Or.inl ⟨h.1, h.2.1, h.2.2.1, ih _ _ e2 h.2.2.2⟩)
    · exact Or.inr (Or.inr (Or.inl ⟨h.1, h.2.1, ih _ _ e2 h.2.2⟩))
    · exact Or.inr (Or.inr (Or.inr ⟨h.1, h.2.1, h.2.2.1, h.2.2.2.1, h.2.2.2.2.1, ih _ _ e2 h.2.2.2.2.2⟩))
/-- the laws stand well once all is put -/
theorem iv_puts {g0 fl f g1 g : Nat → Int32} {k : Nat} {y : Int32} {u : Int} (h0 : iv_wP g0) (hk : k < 2) (hy : 0 ≤ y.toInt ∧ y.toInt ≤ 16) (hu : 0 ≤ u ∧ u ≤ 410) (hp : iv_pw g0 fl k y y.toInt.toNat g1) (hs : iv_ps g1 f k (2 * u.toNat) g) (hf : ∀ i : Nat, (i : Int) < y.toInt → iv_lf fl f u i) : iv_wP g := by
  have lw : iv_lw g k := fun i hi => by
    have e0 : g (150 + k) = y := (hs.2 _ (by omega)).trans hp.1
    rw [e0] at hi
    obtain ⟨b, m, e, l1, l2, l3, l4, l5, l6, l7, l8⟩ := hf i hi
    have w := hp.2.1 i (by omega)
    refine ⟨b, m, e, ?_, ?_, ?_, l4, l5, by omega, ?_, ?_⟩
    · rw [hs.2 _ (by omega), w.1]; exact l1
    · rw [hs.2 _ (by omega), w.2.1]; exact l2
    · rw [hs.2 _ (by omega), w.2.2]; exact l3
    · exact iv_sg_mv _ _ _ (fun j h1 h2 => by rw [Nat.zero_add]; exact hs.1 j (by omega)) l7
    · exact iv_sg_mv _ _ _ (fun j h1 h2 => by rw [Nat.zero_add]; exact hs.1 j (by omega)) l8
  have lo : ∀ k', k' < 2 → k' ≠ k → iv_lw g0 k' → iv_lw g k' := fun k' h1 h2 h3 i hi => by
    have same : ∀ q, q ≠ 150 + k → ¬ (746 + 16 * k ≤ q ∧ q < 762 + 16 * k) → ¬ (778 + 16 * k ≤ q ∧ q < 794 + 16 * k) → ¬ (810 + 16 * k ≤ q ∧ q < 826 + 16 * k) → ¬ (842 + 16 * k ≤ q ∧ q < 858 + 16 * k) → ¬ (874 + 820 * k ≤ q ∧ q < 1694 + 820 * k) → g q = g0 q := fun q q1 q2 q3 q4 q5 q6 => (hs.2 q q6).trans (hp.2.2 q q1 q2 q3 q4 q5)
    have hb := (h0.1 (150 + k') (by omega)).2
    rw [same _ (by omega) (by omega) (by omega) (by omega) (by omega) (by omega)] at hi
    have hb2 : (g0 (150 + k')).toInt ≤ 16 := by
      rcases (show k' = 0 ∨ k' = 1 from by omega) with e | e
      · subst e; rw [show (iv_wb (150 + 0)).2 = 16 from by decide] at hb; exact hb
      · subst e; rw [show (iv_wb (150 + 1)).2 = 16 from by decide] at hb; exact hb
    obtain ⟨b, m, e, l1, l2, l3, l4, l5, l6, l7, l8⟩ := h3 i hi
    refine ⟨b, m, e, ?_, ?_, ?_, l4, l5, l6, ?_, ?_⟩
    · rw [same _ (by omega) (by omega) (by omega) (by omega) (by omega) (by omega)]; exact l1
    · rw [same _ (by omega) (by omega) (by omega) (by omega) (by omega) (by omega)]; exact l2
    · rw [same _ (by omega) (by omega) (by omega) (by omega) (by omega) (by omega)]; exact l3
    · exact iv_sg_cong _ _ _ (fun j h1 h2 => same _ (by omega) (by omega) (by omega) (by omega) (by omega) (by omega)) l7
    · exact iv_sg_cong _ _ _ (fun j h1 h2 => same _ (by omega) (by omega) (by omega) (by omega) (by omega) (by omega)) l8
  refine ⟨fun i hi => ?_, ?_, ?_⟩
  · have e1 : g i = g1 i := hs.2 i (by omega)
    rw [e1]
    by_cases e : i = 150 + k
    · subst e
      rw [hp.1]
      rcases (show k = 0 ∨ k = 1 from by omega) with e | e
      · subst e; rw [show iv_wb (150 + 0) = (0, 16) from by decide]; exact hy
      · subst e; rw [show iv_wb (150 + 1) = (0, 16) from by decide]; exact hy
    · rw [hp.2.2 i e (by omega) (by omega) (by omega) (by omega)]
      exact h0.1 i hi
  · rcases (show k = 0 ∨ k = 1 from by omega) with e | e
    · subst e; exact lw
    · subst e; exact lo 0 (by omega) (by omega) h0.2.1
  · rcases (show k = 0 ∨ k = 1 from by omega) with e | e
    · subst e; exact lo 1 (by omega) (by omega) h0.2.2
    · subst e; exact lw

theorem dX12_readsLaw_0 : decode cX12_readsLaw 0 = .ok (.aload_n 0, 1) := by decide +kernel
theorem dX12_readsLaw_1 : decode cX12_readsLaw 1 = .ok (.iconst 0, 1) := by decide +kernel
theorem dX12_readsLaw_2 : decode cX12_readsLaw 2 = .ok (.putfield 227, 3) := by decide +kernel
theorem dX12_readsLaw_5 : decode cX12_readsLaw 5 = .ok (.aload_n 0, 1) := by decide +kernel
theorem dX12_readsLaw_6 : decode cX12_readsLaw 6 = .ok (.iconst 0, 1) := by decide +kernel
theorem dX12_readsLaw_7 : decode cX12_readsLaw 7 = .ok (.putfield 192, 3) := by decide +kernel
theorem dX12_readsLaw_10 : decode cX12_readsLaw 10 = .ok (.iconst 1, 1) := by decide +kernel
theorem dX12_readsLaw_11 : decode cX12_readsLaw 11 = .ok (.istore_n 1, 1) := by decide +kernel
theorem dX12_readsLaw_12 : decode cX12_readsLaw 12 = .ok (.iload_n 1, 1) := by decide +kernel
theorem dX12_readsLaw_13 : decode cX12_readsLaw 13 = .ok (.ifCond .eq 36, 3) := by decide +kernel
theorem dX12_readsLaw_16 : decode cX12_readsLaw 16 = .ok (.aload_n 0, 1) := by decide +kernel
theorem dX12_readsLaw_17 : decode cX12_readsLaw 17 = .ok (.getfield 165, 3) := by decide +kernel
theorem dX12_readsLaw_20 : decode cX12_readsLaw 20 = .ok (.ifCond .eq 29, 3) := by decide +kernel
theorem dX12_readsLaw_23 : decode cX12_readsLaw 23 = .ok (.aload_n 0, 1) := by decide +kernel
theorem dX12_readsLaw_24 : decode cX12_readsLaw 24 = .ok (.invokevirtual 230, 3) := by decide +kernel
theorem dX12_readsLaw_27 : decode cX12_readsLaw 27 = .ok (.istore_n 1, 1) := by decide +kernel
theorem dX12_readsLaw_28 : decode cX12_readsLaw 28 = .ok (.aload_n 0, 1) := by decide +kernel
theorem dX12_readsLaw_29 : decode cX12_readsLaw 29 = .ok (.dup, 1) := by decide +kernel
theorem dX12_readsLaw_30 : decode cX12_readsLaw 30 = .ok (.getfield 227, 3) := by decide +kernel
theorem dX12_readsLaw_33 : decode cX12_readsLaw 33 = .ok (.iload_n 1, 1) := by decide +kernel
theorem dX12_readsLaw_34 : decode cX12_readsLaw 34 = .ok (.ifCond .eq 7, 3) := by decide +kernel
theorem dX12_readsLaw_37 : decode cX12_readsLaw 37 = .ok (.iconst 1, 1) := by decide +kernel
theorem dX12_readsLaw_38 : decode cX12_readsLaw 38 = .ok (.goto 4, 3) := by decide +kernel
theorem dX12_readsLaw_41 : decode cX12_readsLaw 41 = .ok (.iconst 0, 1) := by decide +kernel
theorem dX12_readsLaw_42 : decode cX12_readsLaw 42 = .ok (.iadd, 1) := by decide +kernel
theorem dX12_readsLaw_43 : decode cX12_readsLaw 43 = .ok (.putfield 227, 3) := by decide +kernel
theorem dX12_readsLaw_46 : decode cX12_readsLaw 46 = .ok (.goto (-34), 3) := by decide +kernel
theorem dX12_readsLaw_49 : decode cX12_readsLaw 49 = .ok (.iload_n 1, 1) := by decide +kernel
theorem dX12_readsLaw_50 : decode cX12_readsLaw 50 = .ok (.ireturn, 1) := by decide +kernel
set_option maxHeartbeats 4000000 in
set_option maxRecDepth 100000 in
theorem c_X12_readsLaw (l : Launch) (D : va_G) (tys : List (ClassId × FieldType)) (base : Nat) (G : iv_G) (h0 : Nat) (g_h0 : Nat → Int32) (r_h0 : Nat → Nat) (a_h0 : G h0 = some (12, g_h0, r_h0)) (hJ : iv_J g_h0) : Met l yX12_readsLaw (Cond.code yX12_readsLaw cX12_readsLaw 2 (some .boolean) :: iv_W0) ({ frames := 1222, cells := 0, slots := 0, locals := 24857 }) (iv_Pc iv_sh D classes tys base G [.ref h0]) (iv_Qi iv_sh D classes tys base (fun v G' => iv_MdT [12, 63, 64] G G' ∧ iv_R 0 1 v ∧ (¬ v = 0 → iv_FL h0 G'))) 0 0 (iv_A base) := by
  refine iv_head (by decide) (Nat.le_of_ble_eq_true rfl) ?_
  intro p e s m args below meth c ls X hr hlocks hname hB hl
  have X := X
  have hx := X.1.1
  have hb := X.1.2.1
  have hM : iv_MdT [12, 63, 64] G G := iv_MdT.rf
  have hs18 := iv_s18 hB a_h0
  have hl : lv_has ls 2 [(0, .ref h0)] := hl
  refine lv_aload_n hx hb dX12_readsLaw_0 rfl (lv_at hl 0 rfl) ?_
  refine lv_iconst (v := 0) hx hb dX12_readsLaw_1 (by decide) ?_
  refine iv_puti X ft_X12 hB a_h0 sh_12 12 (by decide) rfl rfl k_fl_X12_227 rfl (q_0.wk (by decide)) rfl rfl dX12_readsLaw_2 (fun H locs hB => ?_)
  have hm := iv_MdT.put (x := 0) a_h0 (j := 12) (by decide)
  have h9 := iv_up_eq (G := G) (a := h0) (k := (12, upd g_h0 12 0, r_h0))
  generalize iv_up G h0 _ = G1 at hB hm h9
  have hM := hM.stp hm (by decide)
  generalize hgn_g2 : upd g_h0 _ _ = g2 at h9
  have a_h0 := h9
  have e9_g2 : 0 = g2 12 := by rw [← hgn_g2]; simp [upd]
  refine lv_aload_n hx hb dX12_readsLaw_5 rfl (lv_at hl 0 rfl) ?_
  refine lv_iconst (v := 0) hx hb dX12_readsLaw_6 (by decide) ?_
  refine iv_puti X ft_X12 hB a_h0 sh_12 13 (by decide) rfl rfl k_fl_X12_192 rfl (q_0.wk (by decide)) rfl rfl dX12_readsLaw_7 (fun H locs hB => ?_)
  have hm := iv_MdT.put (x := 0) a_h0 (j := 13) (by decide)
  have h9 := iv_up_eq (G := G1) (a := h0) (k := (12, upd g2 13 0, r_h0))
  generalize iv_up G1 h0 _ = G3 at hB hm h9
  have hM := hM.stp hm (by decide)
  generalize hgn_g4 : upd g2 _ _ = g4 at h9
  have a_h0 := h9
  have e5 : 0 = g4 12 := by rw [← hgn_g4]; exact e9_g2
  have e9_g4 : 0 = g4 13 := by rw [← hgn_g4]; simp [upd]
  refine lv_iconst (v := 1) hx hb dX12_readsLaw_10 (by decide) ?_
  refine lv_istore_n (lv' := [(1, .int 1), (0, .ref h0)]) hx hb dX12_readsLaw_11 rfl hl (by decide) rfl (fun ls hl => ?_)
  have L_12 : ∀ (n_12 : Nat) (G9 : iv_G) (hM : iv_MdT [12, 63, 64] G G9) (H : Heap) (locs : List Loc) (hB : iv_B iv_sh D classes tys base G9 s.heap H locs) (g7 : Nat → Int32) (r8 : Nat → Nat) (a_h0 : G9 h0 = some (12, g7, r8)) (x6 : Int32) (i_x6 : iv_R 0 1 x6) (hn_12 : (401 - (g7 18).toInt).toNat + x6.toInt.toNat < n_12) (gi_12 : iv_J g7 ∧ (g7 13).toInt ≤ (g7 18).toInt ∧ (¬ x6 = 0 → iv_FL h0 G9)) (ls : Array Slot) (hl : lv_has ls 2 [(1, .int x6), (0, .ref h0)]), W p l e ({ frames := 1222, cells := 0, slots := 0, locals := 24857 } : Room) s m args below meth c H locs 0 0 (MQ below (iv_Qi iv_sh D classes tys base (fun v G' => iv_MdT [12, 63, 64] G G' ∧ iv_R 0 1 v ∧ (¬ v = 0 → iv_FL h0 G'))) args s 0 0 (iv_A base)) (F0 m 12 ls []) := by
    intro n_12
    induction n_12 with
    | zero => intro G9 hM H locs hB g7 r8 a_h0 x6 i_x6 hn_12 gi_12 ls hl; exact absurd hn_12 (Nat.not_lt_zero _)
    | succ n_12 ih_12 =>
      intro G9 hM H locs hB g7 r8 a_h0 x6 i_x6 hn_12 gi_12 ls hl
      refine lv_iload_n hx hb dX12_readsLaw_12 rfl (lv_at hl 0 rfl) ?_
      refine lv_if_eq (tgt := 49) hx hb dX12_readsLaw_13 (by decide) (fun c10 => ?_) (fun c10 => ?_)
      · skip
        have i10_x6 : iv_R 0 0 x6 := (i_x6.cutHi (n := 0) (iv_eq_r c10 q_0).2)
        refine lv_iload_n hx hb dX12_readsLaw_49 rfl (lv_at hl 0 rfl) ?_
        exact iv_zret X hr hlocks hB (i10_x6.wk (by decide)) ⟨hM, (i10_x6.wk (by decide)), gi_12.2.2⟩ dX12_readsLaw_50
      · skip
        have i11_x6 : iv_R 1 1 x6 := iv_ne_lo c10 i_x6 q_0 (by decide)
        refine lv_aload_n hx hb dX12_readsLaw_16 rfl (lv_at hl 1 rfl) ?_
        refine iv_geti X ft_X12 hB a_h0 sh_12 17 (by decide) rfl k_fl_X12_165 dX12_readsLaw_17 (fun x13 e_x13 i_x13 => ?_)
        refine lv_if_eq (tgt := 49) hx hb dX12_readsLaw_20 (by decide) (fun c14 => ?_) (fun c14 => ?_)
        · skip
          have i14_x13 : iv_R 0 0 x13 := ((i_x13.cutLo (n := 0) (iv_eq_r c14 q_0).1).cutHi (n := 0) (iv_eq_r c14 q_0).2)
          refine lv_iload_n hx hb dX12_readsLaw_49 rfl (lv_at hl 0 rfl) ?_
          exact iv_zret X hr hlocks hB (i11_x6.wk (by decide)) ⟨hM, (i11_x6.wk (by decide)), gi_12.2.2⟩ dX12_readsLaw_50
        · skip
          refine lv_aload_n hx hb dX12_readsLaw_23 rfl (lv_at hl 1 rfl) ?_
          have a_bf := a_h0
          have hx5 := iv_get63 hB a_h0
          have hx6 := iv_get64 hB a_h0
          have hs18 := iv_s18 hB a_h0
          have h12 := iv_sl12 hB a_h0 12 (by decide) rfl
          refine iv_cVi X k_good k_mf_X12_aLine k_im_X12_aLine k_sel_X12_aLine k_ml_X12_230 ft_X12 hB a_h0 sh_12 (As := []) (c_X12_aLine l D tys base G9 h0 g7 r8 a_h0 gi_12.1 gi_12.2.1) ⟨rfl, rfl⟩ ⟨Nat.le_of_ble_eq_true rfl, Nat.le_of_ble_eq_true rfl⟩ ⟨Nat.le_of_ble_eq_true rfl, Nat.le_of_ble_eq_true rfl⟩ rfl rfl hl.1 (Nat.le_of_ble_eq_true rfl) dX12_readsLaw_24 (fun x16 G9 H locs hq hB => ?_)
          obtain ⟨hm, i_x16, xp17⟩ := hq
          obtain ⟨G18, hG9⟩ : ∃ g, g = G9 := ⟨_, rfl⟩
          rw [← hG9] at hm hB xp17
          have hM := hM.stp hm (by decide)
          obtain ⟨g19, r20, a_h0, f_g19⟩ := hm.ex a_h0
          refine lv_istore_n (lv' := [(1, .int x16), (0, .ref h0)]) hx hb dX12_readsLaw_27 rfl hl (by decide) rfl (fun ls hl => ?_)
          refine lv_aload_n hx hb dX12_readsLaw_28 rfl (lv_at hl 1 rfl) ?_
          refine lv_dup hx hb dX12_readsLaw_29 rfl ?_
          refine iv_geti X ft_X12 hB a_h0 sh_12 12 (by decide) rfl k_fl_X12_227 dX12_readsLaw_30 (fun x21 e_x21 i_x21 => ?_)
          refine lv_iload_n hx hb dX12_readsLaw_33 rfl (lv_at hl 0 rfl) ?_
          refine lv_if_eq (tgt := 41) hx hb dX12_readsLaw_34 (by decide) (fun c22 => ?_) (fun c22 => ?_)
          · skip
            have i22_x16 : iv_R 0 0 x16 := (i_x16.cutHi (n := 0) (iv_eq_r c22 q_0).2)
            refine lv_iconst (v := 0) hx hb dX12_readsLaw_41 (by decide) ?_
            refine iv_iadd hx hb i_x21 q_0 (lo := 0) (hi := 16) (by decide) dX12_readsLaw_42 (fun x24 e_x24 i_x24 => ?_)
            have e_x24 : x24.toInt = x21.toInt + 0 := e_x24
            have a_b6 := a_h0
            refine iv_puti X ft_X12 hB a_h0 sh_12 12 (by decide) rfl rfl k_fl_X12_227 rfl i_x24 rfl rfl dX12_readsLaw_43 (fun H locs hB => ?_)
            have hm := iv_MdT.put (x := x24) a_h0 (j := 12) (by decide)
            have h9 := iv_up_eq (G := G18) (a := h0) (k := (12, upd g19 12 x24, r20))
            generalize iv_up G18 h0 _ = G25 at hB hm h9
            have hM := hM.stp hm (by decide)
            generalize hgn_g26 : upd g19 _ _ = g26 at h9
            have a_h0 := h9
            have e9_g26 : x24 = g26 12 := by rw [← hgn_g26]; simp [upd]
            refine lv_goto (tgt := 12) hx hb dX12_readsLaw_46 (by decide) ?_
            exact ih_12 G25 hM _ _ hB g26 r20 a_h0 x16 (i22_x16.wk (by decide)) (by have w1 := (xp17.1).ge (by decide) a_bf a_b6; have w2 : g26 18 = g19 18 := (by rw [← hgn_g26]; simp [upd]); have w3 := i22_x16.2; have w4 := i11_x6.1; have w5 := hs18.1.2; rw [w2]; omega) ⟨by rw [← hgn_g26]; exact ((xp17.1).J a_bf a_b6).pt (by decide), by rw [← hgn_g26]; simp only [upd]; rw [if_neg (by decide), if_neg (by decide)]; exact (xp17.1).le (by decide) a_bf a_b6 gi_12.2.1, fun h => absurd (by assumption) h⟩ _ (lv_sub hl [0, 1] rfl)
          · skip
            have i26_x16 : iv_R 1 1 x16 := iv_ne_lo c22 i_x16 q_0 (by decide)
            refine lv_iconst (v := 1) hx hb dX12_readsLaw_37 (by decide) ?_
            refine lv_goto (tgt := 42) hx hb dX12_readsLaw_38 (by decide) ?_
            have i27_x21 : iv_R 0 15 x21 := ⟨i_x21.1, by rw [e_x21, (xp17.1).s12 a_bf a_h0]; exact (xp17.2 c22).2.1⟩
            refine iv_iadd hx hb i27_x21 q_1 (lo := 1) (hi := 16) (by decide) dX12_readsLaw_42 (fun x29 e_x29 i_x29 => ?_)
            have e_x29 : x29.toInt = x21.toInt + 1 := e_x29
            have a_b6 := a_h0
            have hF := iv_FL.step (x := x29) (gi_12.2.2 c10) (xp17.2 c22).2.2 (xp17.2 c22).1 a_bf hx5 hx6 a_h0 h12.1 (by have w1 := congrArg Int32.toInt ((e_x21).trans ((xp17.1).s12 a_bf a_h0)); omega)
            refine iv_puti X ft_X12 hB a_h0 sh_12 12 (by decide) rfl rfl k_fl_X12_227 rfl (i_x29.wk (by decide)) rfl rfl dX12_readsLaw_43 (fun H locs hB => ?_)
            have hm := iv_MdT.put (x := x29) a_h0 (j := 12) (by decide)
            have h9 := iv_up_eq (G := G18) (a := h0) (k := (12, upd g19 12 x29, r20))
            generalize iv_up G18 h0 _ = G30 at hB hm h9 hF
            have hM := hM.stp hm (by decide)
            generalize hgn_g31 : upd g19 _ _ = g31 at h9
            have a_h0 := h9
            have e9_g31 : x29 = g31 12 := by rw [← hgn_g31]; simp [upd]
            refine lv_goto (tgt := 12) hx hb dX12_readsLaw_46 (by decide) ?_
            exact ih_12 G30 hM _ _ hB g31 r20 a_h0 x16 (i26_x16.wk (by decide)) (by have w1 := (xp17.2 c22).1.gt (by decide) a_bf a_b6; have w2 : g31 18 = g19 18 := (by rw [← hgn_g31]; simp [upd]); have w3 := i26_x16.2; have w4 := i11_x6.1; have w5 := hs18.1.2; rw [w2]; omega) ⟨by rw [← hgn_g31]; exact ((xp17.1).J a_bf a_b6).pt (by decide), by rw [← hgn_g31]; simp only [upd]; rw [if_neg (by decide), if_neg (by decide)]; exact (xp17.1).le (by decide) a_bf a_b6 gi_12.2.1, fun _ => hF⟩ _ (lv_sub hl [0, 1] rfl)
  exact L_12 _ G3 hM _ _ hB g4 r_h0 a_h0 1 (q_1.wk (by decide)) (Nat.lt_succ_self _) ⟨by rw [← hgn_g4, ← hgn_g2]; exact (hJ.pt (by decide)).pt (by decide), by rw [← hgn_g4, ← hgn_g2]; simp [upd]; exact hs18.1.1, fun _ => iv_FL.zero a_h0 (by rw [← hgn_g4, ← hgn_g2]; simp [upd])⟩ _ (lv_sub hl [0, 1] rfl)
theorem dX12_readsRings_0 : decode cX12_readsRings 0 = .ok (.aload_n 0, 1) := by decide +kernel
theorem dX12_readsRings_1 : decode cX12_readsRings 1 = .ok (.iconst 0, 1) := by decide +kernel
theorem dX12_readsRings_2 : decode cX12_readsRings 2 = .ok (.putfield 240, 3) := by decide +kernel
theorem dX12_readsRings_5 : decode cX12_readsRings 5 = .ok (.iconst 1, 1) := by decide +kernel
theorem dX12_readsRings_6 : decode cX12_readsRings 6 = .ok (.istore_n 1, 1) := by decide +kernel
theorem dX12_readsRings_7 : decode cX12_readsRings 7 = .ok (.iload_n 1, 1) := by decide +kernel
theorem dX12_readsRings_8 : decode cX12_readsRings 8 = .ok (.ifCond .eq 18, 3) := by decide +kernel
theorem dX12_readsRings_11 : decode cX12_readsRings 11 = .ok (.aload_n 0, 1) := by decide +kernel
theorem dX12_readsRings_12 : decode cX12_readsRings 12 = .ok (.getfield 165, 3) := by decide +kernel
theorem dX12_readsRings_15 : decode cX12_readsRings 15 = .ok (.ifCond .eq 11, 3) := by decide +kernel
theorem dX12_readsRings_18 : decode cX12_readsRings 18 = .ok (.aload_n 0, 1) := by decide +kernel
theorem dX12_readsRings_19 : decode cX12_readsRings 19 = .ok (.invokevirtual 247, 3) := by decide +kernel
theorem dX12_readsRings_22 : decode cX12_readsRings 22 = .ok (.istore_n 1, 1) := by decide +kernel
theorem dX12_readsRings_23 : decode cX12_readsRings 23 = .ok (.goto (-16), 3) := by decide +kernel
theorem dX12_readsRings_26 : decode cX12_readsRings 26 = .ok (.iload_n 1, 1) := by decide +kernel
theorem dX12_readsRings_27 : decode cX12_readsRings 27 = .ok (.ireturn, 1) := by decide +kernel
set_option maxHeartbeats 4000000 in
set_option maxRecDepth 100000 in
theorem c_X12_readsRings (l : Launch) (D : va_G) (tys : List (ClassId × FieldType)) (base : Nat) (G : iv_G) (h0 : Nat) (g_h0 : Nat → Int32) (r_h0 : Nat → Nat) (a_h0 : G h0 = some (12, g_h0, r_h0)) (hJ : iv_J g_h0) : Met l yX12_readsRings (Cond.code yX12_readsRings cX12_readsRings 2 (some .boolean) :: iv_W0) ({ frames := 12, cells := 0, slots := 0, locals := 256 }) (iv_Pc iv_sh D classes tys base G [.ref h0]) (iv_Qi iv_sh D classes tys base (fun v G' => iv_MdT [12, 65] G G' ∧ iv_R 0 1 v)) 0 0 (iv_A base) := by
  refine iv_head (by decide) (Nat.le_of_ble_eq_true rfl) ?_
  intro p e s m args below meth c ls X hr hlocks hname hB hl
  have X := X
  have hx := X.1.1
  have hb := X.1.2.1
  have hM : iv_MdT [12, 65] G G := iv_MdT.rf
  have hl : lv_has ls 2 [(0, .ref h0)] := hl
  refine lv_aload_n hx hb dX12_readsRings_0 rfl (lv_at hl 0 rfl) ?_
  refine lv_iconst (v := 0) hx hb dX12_readsRings_1 (by decide) ?_
  refine iv_puti X ft_X12 hB a_h0 sh_12 14 (by decide) rfl rfl k_fl_X12_240 rfl (q_0.wk (by decide)) rfl rfl dX12_readsRings_2 (fun H locs hB => ?_)
  have hm := iv_MdT.put (x := 0) a_h0 (j := 14) (by decide)
  have h9 := iv_up_eq (G := G) (a := h0) (k := (12, upd g_h0 14 0, r_h0))
  generalize iv_up G h0 _ = G1 at hB hm h9
  have hM := hM.stp hm (by decide)
  generalize hgn_g2 : upd g_h0 _ _ = g2 at h9
  have a_h0 := h9
  have e9_g2 : 0 = g2 14 := by rw [← hgn_g2]; simp [upd]
  refine lv_iconst (v := 1) hx hb dX12_readsRings_5 (by decide) ?_
  refine lv_istore_n (lv' := [(1, .int 1), (0, .ref h0)]) hx hb dX12_readsRings_6 rfl hl (by decide) rfl (fun ls hl => ?_)
  have L_7 : ∀ (n_7 : Nat) (G6 : iv_G) (hM : iv_MdT [12, 65] G G6) (H : Heap) (locs : List Loc) (hB : iv_B iv_sh D classes tys base G6 s.heap H locs) (g4 : Nat → Int32) (r5 : Nat → Nat) (a_h0 : G6 h0 = some (12, g4, r5)) (x3 : Int32) (i_x3 : iv_R 0 1 x3) (hn_7 : (401 - (g4 18).toInt).toNat + x3.toInt.toNat < n_7) (gi_7 : iv_J g4) (ls : Array Slot) (hl : lv_has ls 2 [(1, .int x3), (0, .ref h0)]), W p l e ({ frames := 12, cells := 0, slots := 0, locals := 256 } : Room) s m args below meth c H locs 0 0 (MQ below (iv_Qi iv_sh D classes tys base (fun v G' => iv_MdT [12, 65] G G' ∧ iv_R 0 1 v)) args s 0 0 (iv_A base)) (F0 m 7 ls []) := by
    intro n_7
    induction n_7 with
    | zero => intro G6 hM H locs hB g4 r5 a_h0 x3 i_x3 hn_7 gi_7 ls hl; exact absurd hn_7 (Nat.not_lt_zero _)
    | succ n_7 ih_7 =>
      intro G6 hM H locs hB g4 r5 a_h0 x3 i_x3 hn_7 gi_7 ls hl
      refine lv_iload_n hx hb dX12_readsRings_7 rfl (lv_at hl 0 rfl) ?_
      refine lv_if_eq (tgt := 26) hx hb dX12_readsRings_8 (by decide) (fun c7 => ?_) (fun c7 => ?_)
      · skip
        have i7_x3 : iv_R 0 0 x3 := (i_x3.cutHi (n := 0) (iv_eq_r c7 q_0).2)
        refine lv_iload_n hx hb dX12_readsRings_26 rfl (lv_at hl 0 rfl) ?_
        exact iv_zret X hr hlocks hB (i7_x3.wk (by decide)) ⟨hM, (i7_x3.wk (by decide))⟩ dX12_readsRings_27
      · skip
        have i8_x3 : iv_R 1 1 x3 := iv_ne_lo c7 i_x3 q_0 (by decide)
        refine lv_aload_n hx hb dX12_readsRings_11 rfl (lv_at hl 1 rfl) ?_
        refine iv_geti X ft_X12 hB a_h0 sh_12 17 (by decide) rfl k_fl_X12_165 dX12_readsRings_12 (fun x10 e_x10 i_x10 => ?_)
        refine lv_if_eq (tgt := 26) hx hb dX12_readsRings_15 (by decide) (fun c11 => ?_) (fun c11 => ?_)
        · skip
          have i11_x10 : iv_R 0 0 x10 := ((i_x10.cutLo (n := 0) (iv_eq_r c11 q_0).1).cutHi (n := 0) (iv_eq_r c11 q_0).2)
          refine lv_iload_n hx hb dX12_readsRings_26 rfl (lv_at hl 0 rfl) ?_
          exact iv_zret X hr hlocks hB (i8_x3.wk (by decide)) ⟨hM, (i8_x3.wk (by decide))⟩ dX12_readsRings_27
        · skip
          refine lv_aload_n hx hb dX12_readsRings_18 rfl (lv_at hl 1 rfl) ?_
          have a_bf := a_h0
          have hs18 := iv_s18 hB a_h0
          refine iv_cVi X k_good k_mf_X12_aRing k_im_X12_aRing k_sel_X12_aRing k_ml_X12_247 ft_X12 hB a_h0 sh_12 (As := []) (c_X12_aRing l D tys base G6 h0 g4 r5 a_h0 gi_7) ⟨rfl, rfl⟩ ⟨Nat.le_of_ble_eq_true rfl, Nat.le_of_ble_eq_true rfl⟩ ⟨Nat.le_of_ble_eq_true rfl, Nat.le_of_ble_eq_true rfl⟩ rfl rfl hl.1 (Nat.le_of_ble_eq_true rfl) dX12_readsRings_19 (fun x13 G9 H locs hq hB => ?_)
          obtain ⟨hm, i_x13, xp14⟩ := hq
          obtain ⟨G15, hG9⟩ : ∃ g, g = G9 := ⟨_, rfl⟩
          rw [← hG9] at hm hB xp14
          have hM := hM.stp hm (by decide)
          obtain ⟨g16, r17, a_h0, f_g16⟩ := hm.ex a_h0
          refine lv_istore_n (lv' := [(1, .int x13), (0, .ref h0)]) hx hb dX12_readsRings_22 rfl hl (by decide) rfl (fun ls hl => ?_)
          refine lv_goto (tgt := 7) hx hb dX12_readsRings_23 (by decide) ?_
          exact ih_7 G15 hM _ _ hB g16 r17 a_h0 x13 i_x13 (by have w1 := ((xp14.1).at a_bf a_h0).2; have w2 := fun h => ((xp14.2 h).at a_bf a_h0).2; have w3 := i_x13.2; have w4 := i8_x3.1; have w5 := hs18.1.2; exact Classical.byCases (p := x13 = 0) (fun hv => by have w6 : x13.toInt = 0 := (by rw [hv]; rfl); omega) (fun hv => by have w6 := w2 hv; omega)) ((xp14.1).J a_bf a_h0) _ (lv_sub hl [0, 1] rfl)
  exact L_7 _ G1 hM _ _ hB g2 r_h0 a_h0 1 (q_1.wk (by decide)) (Nat.lt_succ_self _) (by rw [← hgn_g2]; exact hJ.pt (by decide)) _ (lv_sub hl [0, 1] rfl)
theorem dX12_putsLaw_0 : decode cX12_putsLaw 0 = .ok (.aload_n 0, 1) := by decide +kernel
theorem dX12_putsLaw_1 : decode cX12_putsLaw 1 = .ok (.getfield 7, 3) := by decide +kernel
theorem dX12_putsLaw_4 : decode cX12_putsLaw 4 = .ok (.sipush 150, 3) := by decide +kernel
theorem dX12_putsLaw_7 : decode cX12_putsLaw 7 = .ok (.iload_n 1, 1) := by decide +kernel
theorem dX12_putsLaw_8 : decode cX12_putsLaw 8 = .ok (.iadd, 1) := by decide +kernel
theorem dX12_putsLaw_9 : decode cX12_putsLaw 9 = .ok (.aload_n 0, 1) := by decide +kernel
theorem dX12_putsLaw_10 : decode cX12_putsLaw 10 = .ok (.getfield 227, 3) := by decide +kernel
theorem dX12_putsLaw_13 : decode cX12_putsLaw 13 = .ok (.iastore, 1) := by decide +kernel
theorem dX12_putsLaw_14 : decode cX12_putsLaw 14 = .ok (.iconst 0, 1) := by decide +kernel
theorem dX12_putsLaw_15 : decode cX12_putsLaw 15 = .ok (.istore_n 2, 1) := by decide +kernel
theorem dX12_putsLaw_16 : decode cX12_putsLaw 16 = .ok (.iload_n 2, 1) := by decide +kernel
theorem dX12_putsLaw_17 : decode cX12_putsLaw 17 = .ok (.aload_n 0, 1) := by decide +kernel
theorem dX12_putsLaw_18 : decode cX12_putsLaw 18 = .ok (.getfield 227, 3) := by decide +kernel
theorem dX12_putsLaw_21 : decode cX12_putsLaw 21 = .ok (.if_icmp .ge 107, 3) := by decide +kernel
theorem dX12_putsLaw_24 : decode cX12_putsLaw 24 = .ok (.aload_n 0, 1) := by decide +kernel
theorem dX12_putsLaw_25 : decode cX12_putsLaw 25 = .ok (.getfield 7, 3) := by decide +kernel
theorem dX12_putsLaw_28 : decode cX12_putsLaw 28 = .ok (.sipush 746, 3) := by decide +kernel
theorem dX12_putsLaw_31 : decode cX12_putsLaw 31 = .ok (.bipush 16, 2) := by decide +kernel
theorem dX12_putsLaw_33 : decode cX12_putsLaw 33 = .ok (.iload_n 1, 1) := by decide +kernel
theorem dX12_putsLaw_34 : decode cX12_putsLaw 34 = .ok (.imul, 1) := by decide +kernel
theorem dX12_putsLaw_35 : decode cX12_putsLaw 35 = .ok (.iadd, 1) := by decide +kernel
theorem dX12_putsLaw_36 : decode cX12_putsLaw 36 = .ok (.iload_n 2, 1) := by decide +kernel
theorem dX12_putsLaw_37 : decode cX12_putsLaw 37 = .ok (.iadd, 1) := by decide +kernel
theorem dX12_putsLaw_38 : decode cX12_putsLaw 38 = .ok (.aload_n 0, 1) := by decide +kernel
theorem dX12_putsLaw_39 : decode cX12_putsLaw 39 = .ok (.getfield 19, 3) := by decide +kernel
theorem dX12_putsLaw_42 : decode cX12_putsLaw 42 = .ok (.iconst 4, 1) := by decide +kernel
theorem dX12_putsLaw_43 : decode cX12_putsLaw 43 = .ok (.iload_n 2, 1) := by decide +kernel
theorem dX12_putsLaw_44 : decode cX12_putsLaw 44 = .ok (.imul, 1) := by decide +kernel
theorem dX12_putsLaw_45 : decode cX12_putsLaw 45 = .ok (.iaload, 1) := by decide +kernel
theorem dX12_putsLaw_46 : decode cX12_putsLaw 46 = .ok (.iastore, 1) := by decide +kernel
theorem dX12_putsLaw_47 : decode cX12_putsLaw 47 = .ok (.aload_n 0, 1) := by decide +kernel
theorem dX12_putsLaw_48 : decode cX12_putsLaw 48 = .ok (.getfield 7, 3) := by decide +kernel
theorem dX12_putsLaw_51 : decode cX12_putsLaw 51 = .ok (.sipush 778, 3) := by decide +kernel
theorem dX12_putsLaw_54 : decode cX12_putsLaw 54 = .ok (.bipush 16, 2) := by decide +kernel
theorem dX12_putsLaw_56 : decode cX12_putsLaw 56 = .ok (.iload_n 1, 1) := by decide +kernel
theorem dX12_putsLaw_57 : decode cX12_putsLaw 57 = .ok (.imul, 1) := by decide +kernel
theorem dX12_putsLaw_58 : decode cX12_putsLaw 58 = .ok (.iadd, 1) := by decide +kernel
theorem dX12_putsLaw_59 : decode cX12_putsLaw 59 = .ok (.iload_n 2, 1) := by decide +kernel
theorem dX12_putsLaw_60 : decode cX12_putsLaw 60 = .ok (.iadd, 1) := by decide +kernel
theorem dX12_putsLaw_61 : decode cX12_putsLaw 61 = .ok (.aload_n 0, 1) := by decide +kernel
theorem dX12_putsLaw_62 : decode cX12_putsLaw 62 = .ok (.getfield 19, 3) := by decide +kernel
theorem dX12_putsLaw_65 : decode cX12_putsLaw 65 = .ok (.iconst 4, 1) := by decide +kernel
theorem dX12_putsLaw_66 : decode cX12_putsLaw 66 = .ok (.iload_n 2, 1) := by decide +kernel
theorem dX12_putsLaw_67 : decode cX12_putsLaw 67 = .ok (.imul, 1) := by decide +kernel
theorem dX12_putsLaw_68 : decode cX12_putsLaw 68 = .ok (.iconst 1, 1) := by decide +kernel
theorem dX12_putsLaw_69 : decode cX12_putsLaw 69 = .ok (.iadd, 1) := by decide +kernel
theorem dX12_putsLaw_70 : decode cX12_putsLaw 70 = .ok (.iaload, 1) := by decide +kernel
theorem dX12_putsLaw_71 : decode cX12_putsLaw 71 = .ok (.iastore, 1) := by decide +kernel
theorem dX12_putsLaw_72 : decode cX12_putsLaw 72 = .ok (.aload_n 0, 1) := by decide +kernel
theorem dX12_putsLaw_73 : decode cX12_putsLaw 73 = .ok (.getfield 7, 3) := by decide +kernel
theorem dX12_putsLaw_76 : decode cX12_putsLaw 76 = .ok (.sipush 810, 3) := by decide +kernel
theorem dX12_putsLaw_79 : decode cX12_putsLaw 79 = .ok (.bipush 16, 2) := by decide +kernel
theorem dX12_putsLaw_81 : decode cX12_putsLaw 81 = .ok (.iload_n 1, 1) := by decide +kernel
theorem dX12_putsLaw_82 : decode cX12_putsLaw 82 = .ok (.imul, 1) := by decide +kernel
theorem dX12_putsLaw_83 : decode cX12_putsLaw 83 = .ok (.iadd, 1) := by decide +kernel
theorem dX12_putsLaw_84 : decode cX12_putsLaw 84 = .ok (.iload_n 2, 1) := by decide +kernel
theorem dX12_putsLaw_85 : decode cX12_putsLaw 85 = .ok (.iadd, 1) := by decide +kernel
theorem dX12_putsLaw_86 : decode cX12_putsLaw 86 = .ok (.aload_n 0, 1) := by decide +kernel
theorem dX12_putsLaw_87 : decode cX12_putsLaw 87 = .ok (.getfield 19, 3) := by decide +kernel
theorem dX12_putsLaw_90 : decode cX12_putsLaw 90 = .ok (.iconst 4, 1) := by decide +kernel
theorem dX12_putsLaw_91 : decode cX12_putsLaw 91 = .ok (.iload_n 2, 1) := by decide +kernel
theorem dX12_putsLaw_92 : decode cX12_putsLaw 92 = .ok (.imul, 1) := by decide +kernel
theorem dX12_putsLaw_93 : decode cX12_putsLaw 93 = .ok (.iconst 2, 1) := by decide +kernel
theorem dX12_putsLaw_94 : decode cX12_putsLaw 94 = .ok (.iadd, 1) := by decide +kernel
theorem dX12_putsLaw_95 : decode cX12_putsLaw 95 = .ok (.iaload, 1) := by decide +kernel
theorem dX12_putsLaw_96 : decode cX12_putsLaw 96 = .ok (.iastore, 1) := by decide +kernel
theorem dX12_putsLaw_97 : decode cX12_putsLaw 97 = .ok (.aload_n 0, 1) := by decide +kernel
theorem dX12_putsLaw_98 : decode cX12_putsLaw 98 = .ok (.getfield 7, 3) := by decide +kernel
theorem dX12_putsLaw_101 : decode cX12_putsLaw 101 = .ok (.sipush 842, 3) := by decide +kernel
theorem dX12_putsLaw_104 : decode cX12_putsLaw 104 = .ok (.bipush 16, 2) := by decide +kernel
theorem dX12_putsLaw_106 : decode cX12_putsLaw 106 = .ok (.iload_n 1, 1) := by decide +kernel
theorem dX12_putsLaw_107 : decode cX12_putsLaw 107 = .ok (.imul, 1) := by decide +kernel
theorem dX12_putsLaw_108 : decode cX12_putsLaw 108 = .ok (.iadd, 1) := by decide +kernel
theorem dX12_putsLaw_109 : decode cX12_putsLaw 109 = .ok (.iload_n 2, 1) := by decide +kernel
theorem dX12_putsLaw_110 : decode cX12_putsLaw 110 = .ok (.iadd, 1) := by decide +kernel
theorem dX12_putsLaw_111 : decode cX12_putsLaw 111 = .ok (.aload_n 0, 1) := by decide +kernel
theorem dX12_putsLaw_112 : decode cX12_putsLaw 112 = .ok (.getfield 19, 3) := by decide +kernel
theorem dX12_putsLaw_115 : decode cX12_putsLaw 115 = .ok (.iconst 4, 1) := by decide +kernel
theorem dX12_putsLaw_116 : decode cX12_putsLaw 116 = .ok (.iload_n 2, 1) := by decide +kernel
theorem dX12_putsLaw_117 : decode cX12_putsLaw 117 = .ok (.imul, 1) := by decide +kernel
theorem dX12_putsLaw_118 : decode cX12_putsLaw 118 = .ok (.iconst 3, 1) := by decide +kernel
theorem dX12_putsLaw_119 : decode cX12_putsLaw 119 = .ok (.iadd, 1) := by decide +kernel
theorem dX12_putsLaw_120 : decode cX12_putsLaw 120 = .ok (.iaload, 1) := by decide +kernel
theorem dX12_putsLaw_121 : decode cX12_putsLaw 121 = .ok (.iastore, 1) := by decide +kernel
theorem dX12_putsLaw_122 : decode cX12_putsLaw 122 = .ok (.iinc 2 1, 3) := by decide +kernel
theorem dX12_putsLaw_125 : decode cX12_putsLaw 125 = .ok (.goto (-109), 3) := by decide +kernel
theorem dX12_putsLaw_128 : decode cX12_putsLaw 128 = .ok (.iconst 0, 1) := by decide +kernel
theorem dX12_putsLaw_129 : decode cX12_putsLaw 129 = .ok (.istore_n 2, 1) := by decide +kernel
theorem dX12_putsLaw_130 : decode cX12_putsLaw 130 = .ok (.iload_n 2, 1) := by decide +kernel
theorem dX12_putsLaw_131 : decode cX12_putsLaw 131 = .ok (.iconst 2, 1) := by decide +kernel
theorem dX12_putsLaw_132 : decode cX12_putsLaw 132 = .ok (.aload_n 0, 1) := by decide +kernel
theorem dX12_putsLaw_133 : decode cX12_putsLaw 133 = .ok (.getfield 192, 3) := by decide +kernel
theorem dX12_putsLaw_136 : decode cX12_putsLaw 136 = .ok (.imul, 1) := by decide +kernel
theorem dX12_putsLaw_137 : decode cX12_putsLaw 137 = .ok (.if_icmp .ge 31, 3) := by decide +kernel
theorem dX12_putsLaw_140 : decode cX12_putsLaw 140 = .ok (.aload_n 0, 1) := by decide +kernel
theorem dX12_putsLaw_141 : decode cX12_putsLaw 141 = .ok (.getfield 7, 3) := by decide +kernel
theorem dX12_putsLaw_144 : decode cX12_putsLaw 144 = .ok (.sipush 874, 3) := by decide +kernel
theorem dX12_putsLaw_147 : decode cX12_putsLaw 147 = .ok (.sipush 820, 3) := by decide +kernel
theorem dX12_putsLaw_150 : decode cX12_putsLaw 150 = .ok (.iload_n 1, 1) := by decide +kernel
theorem dX12_putsLaw_151 : decode cX12_putsLaw 151 = .ok (.imul, 1) := by decide +kernel
theorem dX12_putsLaw_152 : decode cX12_putsLaw 152 = .ok (.iadd, 1) := by decide +kernel
theorem dX12_putsLaw_153 : decode cX12_putsLaw 153 = .ok (.iload_n 2, 1) := by decide +kernel
theorem dX12_putsLaw_154 : decode cX12_putsLaw 154 = .ok (.iadd, 1) := by decide +kernel
theorem dX12_putsLaw_155 : decode cX12_putsLaw 155 = .ok (.aload_n 0, 1) := by decide +kernel
theorem dX12_putsLaw_156 : decode cX12_putsLaw 156 = .ok (.getfield 22, 3) := by decide +kernel
theorem dX12_putsLaw_159 : decode cX12_putsLaw 159 = .ok (.iload_n 2, 1) := by decide +kernel
theorem dX12_putsLaw_160 : decode cX12_putsLaw 160 = .ok (.iaload, 1) := by decide +kernel
theorem dX12_putsLaw_161 : decode cX12_putsLaw 161 = .ok (.iastore, 1) := by decide +kernel
theorem dX12_putsLaw_162 : decode cX12_putsLaw 162 = .ok (.iinc 2 1, 3) := by decide +kernel
theorem dX12_putsLaw_165 : decode cX12_putsLaw 165 = .ok (.goto (-35), 3) := by decide +kernel
theorem dX12_putsLaw_168 : decode cX12_putsLaw 168 = .ok (.aload_n 0, 1) := by decide +kernel
theorem dX12_putsLaw_169 : decode cX12_putsLaw 169 = .ok (.getfield 227, 3) := by decide +kernel
theorem dX12_putsLaw_172 : decode cX12_putsLaw 172 = .ok (.ireturn, 1) := by decide +kernel
set_option maxHeartbeats 4000000 in
set_option maxRecDepth 100000 in
theorem c_X12_putsLaw (l : Launch) (D : va_G) (tys : List (ClassId × FieldType)) (base : Nat) (G : iv_G) (h0 : Nat) (g_h0 : Nat → Int32) (r_h0 : Nat → Nat) (a_h0 : G h0 = some (12, g_h0, r_h0)) (x_0 : Int32) (i_x_0 : iv_R 0 1 x_0) (hF : iv_FL h0 G) : Met l yX12_putsLaw (Cond.code yX12_putsLaw cX12_putsLaw 3 (some .int) :: iv_W0) ({ frames := 0, cells := 0, slots := 0, locals := 0 }) (iv_Pc iv_sh D classes tys base G [.ref h0, .int x_0]) (iv_Qi iv_sh D classes tys base (fun v G' => iv_MdT [60] G G' ∧ iv_R 0 16 v)) 0 0 (iv_A base) := by
  refine iv_head (by decide) (Nat.le_of_ble_eq_true rfl) ?_
  intro p e s m args below meth c ls X hr hlocks hname hB hl
  have X := X
  have hx := X.1.1
  have hb := X.1.2.1
  have hM : iv_MdT [60] G G := iv_MdT.rf
  have a_st := a_h0
  have hBs := hB
  obtain ⟨gw, r_gw, h_gw⟩ := iv_getw hB a_h0
  obtain ⟨fl, r_fl, h_fl⟩ := iv_get63 hB a_h0
  obtain ⟨fs, r_fs, h_fs⟩ := iv_get64 hB a_h0
  have h0w := h_gw
  have h0f := h_fl
  have h0s := h_fs
  have hO : iv_only (r_h0 0) G G := iv_only.rf
  have hB := hB.toU
  have hl : lv_has ls 3 [(0, .ref h0), (1, .int x_0)] := hl
  obtain ⟨y12, e_y12⟩ : ∃ x, x = g_h0 12 := ⟨_, rfl⟩
  have i_y12 : iv_R 0 16 y12 := by rw [e_y12]; exact iv_sl12 hBs a_h0 12 (by decide) rfl
  obtain ⟨y13, e_y13⟩ : ∃ x, x = g_h0 13 := ⟨_, rfl⟩
  have i_y13 : iv_R 0 410 y13 := by rw [e_y13]; exact iv_sl12 hBs a_h0 13 (by decide) rfl
  refine lv_aload_n hx hb dX12_putsLaw_0 rfl (lv_at hl 0 rfl) ?_
  refine iv_getr0 X ft_X12 hB a_h0 shU_12 0 (by decide) rfl k_fl_X12_7 dX12_putsLaw_1 (rfl : r_h0 0 = r_h0 0) ?_
  refine lv_sipush (v := 150) hx hb dX12_putsLaw_4 (by decide) ?_
  refine lv_iload_n hx hb dX12_putsLaw_7 rfl (lv_at hl 1 rfl) ?_
  refine iv_iadd hx hb q_150 i_x_0 (lo := 150) (hi := 151) (by decide) dX12_putsLaw_8 (fun x1 e_x1 i_x1 => ?_)
  have e_x1 : x1.toInt = 150 + x_0.toInt := e_x1
  refine lv_aload_n hx hb dX12_putsLaw_9 rfl (lv_at hl 0 rfl) ?_
  refine iv_geti0 X ft_X12 hB a_h0 shU_12 12 (by decide) rfl k_fl_X12_227 dX12_putsLaw_10 e_y12 ?_
  refine iv_astP X hB h_gw shU_60 (iv_in i_x1 (by decide)) (fun _ => trivial) dX12_putsLaw_13 (fun H locs hB => ?_)
  have hm := iv_Md.put (x := y12) h_gw (j := x1.toNatClampNeg) (iv_n146 i_x1 (by decide)) (fun h => absurd h (by decide))
  have h9 := iv_up_eq (G := G) (a := (r_h0 0)) (k := (60, upd gw x1.toNatClampNeg y12, r_gw))
  have hO := hO.up (k := (60, upd gw x1.toNatClampNeg y12, r_gw))
  generalize iv_up G (r_h0 0) _ = G2 at hB hm h9 hO
  have hM := hM.stp (iv_MdT.of hm) (by decide)
  generalize hgn_g3 : upd gw _ _ = g3 at h9
  have a_h0 := hm.at a_h0 (by decide)
  have h_fl := hm.at h_fl (by decide)
  have h_fs := hm.at h_fs (by decide)
  have h_gw := h9
  refine lv_iconst (v := 0) hx hb dX12_putsLaw_14 (by decide) ?_
  refine lv_istore_n (lv' := [(2, .int 0), (0, .ref h0), (1, .int x_0)]) hx hb dX12_putsLaw_15 rfl hl (by decide) rfl (fun ls hl => ?_)
  have L_16 : ∀ (n_16 : Nat) (G7 : iv_G) (hM : iv_MdT [60] G G7) (H : Heap) (locs : List Loc) (hB : iv_B iv_shU D classes tys base G7 s.heap H locs) (a_h0 : G7 h0 = some (12, g_h0, r_h0)) (h_fl : G7 (r_h0 5) = some (63, fl, r_fl)) (h_fs : G7 (r_h0 6) = some (64, fs, r_fs)) (g5 : Nat → Int32) (r6 : Nat → Nat) (h_gw : G7 (r_h0 0) = some (60, g5, r6)) (x4 : Int32) (i_x4 : iv_R 0 16 x4) (hn_16 : (17 - x4.toInt).toNat < n_16) (gi_16 : iv_only (r_h0 0) G G7 ∧ iv_pw gw fl x_0.toInt.toNat y12 x4.toInt.toNat g5 ∧ x4.toInt ≤ y12.toInt) (ls : Array Slot) (hl : lv_has ls 3 [(2, .int x4), (0, .ref h0), (1, .int x_0)]), W p l e ({ frames := 0, cells := 0, slots := 0, locals := 0 } : Room) s m args below meth c H locs 0 0 (MQ below (iv_Qi iv_sh D classes tys base (fun v G' => iv_MdT [60] G G' ∧ iv_R 0 16 v)) args s 0 0 (iv_A base)) (F0 m 16 ls []) := by
    intro n_16
    induction n_16 with
    | zero => intro G7 hM H locs hB a_h0 h_fl h_fs g5 r6 h_gw x4 i_x4 hn_16 gi_16 ls hl; exact absurd hn_16 (Nat.not_lt_zero _)
    | succ n_16 ih_16 =>
      intro G7 hM H locs hB a_h0 h_fl h_fs g5 r6 h_gw x4 i_x4 hn_16 gi_16 ls hl
      have hO := gi_16.1
      refine lv_iload_n hx hb dX12_putsLaw_16 rfl (lv_at hl 0 rfl) ?_
      refine lv_aload_n hx hb dX12_putsLaw_17 rfl (lv_at hl 1 rfl) ?_
      refine iv_geti0 X ft_X12 hB a_h0 shU_12 12 (by decide) rfl k_fl_X12_227 dX12_putsLaw_18 e_y12 ?_
      refine lv_icmp_ge (tgt := 128) hx hb dX12_putsLaw_21 (by decide) (fun c8 => ?_) (fun c8 => ?_)
      · skip
        refine lv_iconst (v := 0) hx hb dX12_putsLaw_128 (by decide) ?_
        refine lv_istore_n (lv' := [(2, .int 0), (0, .ref h0), (1, .int x_0)]) hx hb dX12_putsLaw_129 rfl hl (by decide) rfl (fun ls hl => ?_)
        have L_130 : ∀ (n_130 : Nat) (G12 : iv_G) (hM : iv_MdT [60] G G12) (H : Heap) (locs : List Loc) (hB : iv_B iv_shU D classes tys base G12 s.heap H locs) (a_h0 : G12 h0 = some (12, g_h0, r_h0)) (h_fl : G12 (r_h0 5) = some (63, fl, r_fl)) (h_fs : G12 (r_h0 6) = some (64, fs, r_fs)) (g10 : Nat → Int32) (r11 : Nat → Nat) (h_gw : G12 (r_h0 0) = some (60, g10, r11)) (x9 : Int32) (i_x9 : iv_R 0 999 x9) (hn_130 : (1000 - x9.toInt).toNat < n_130) (gi_130 : iv_only (r_h0 0) G G12 ∧ iv_ps g5 fs x_0.toInt.toNat x9.toInt.toNat g10 ∧ x9.toInt ≤ 2 * y13.toInt) (ls : Array Slot) (hl : lv_has ls 3 [(2, .int x9), (0, .ref h0), (1, .int x_0)]), W p l e ({ frames := 0, cells := 0, slots := 0, locals := 0 } : Room) s m args below meth c H locs 0 0 (MQ below (iv_Qi iv_sh D classes tys base (fun v G' => iv_MdT [60] G G' ∧ iv_R 0 16 v)) args s 0 0 (iv_A base)) (F0 m 130 ls []) := by
          intro n_130
          induction n_130 with
          | zero => intro G12 hM H locs hB a_h0 h_fl h_fs g10 r11 h_gw x9 i_x9 hn_130 gi_130 ls hl; exact absurd hn_130 (Nat.not_lt_zero _)
          | succ n_130 ih_130 =>
            intro G12 hM H locs hB a_h0 h_fl h_fs g10 r11 h_gw x9 i_x9 hn_130 gi_130 ls hl
            have hO := gi_130.1
            refine lv_iload_n hx hb dX12_putsLaw_130 rfl (lv_at hl 0 rfl) ?_
            refine lv_iconst (v := 2) hx hb dX12_putsLaw_131 (by decide) ?_
            refine lv_aload_n hx hb dX12_putsLaw_132 rfl (lv_at hl 1 rfl) ?_
            refine iv_geti0 X ft_X12 hB a_h0 shU_12 13 (by decide) rfl k_fl_X12_192 dX12_putsLaw_133 e_y13 ?_
            refine iv_imul hx hb q_2 i_y13 (lo := 0) (hi := 820) (by decide) dX12_putsLaw_136 (fun x13 e_x13 i_x13 => ?_)
            have e_x13 : x13.toInt = 2 * y13.toInt := e_x13
            refine lv_icmp_ge (tgt := 168) hx hb dX12_putsLaw_137 (by decide) (fun c14 => ?_) (fun c14 => ?_)
            · skip
              have hB := hB.ofU (fun a9 g9 r9 h9 => by
                by_cases e9 : a9 = r_h0 0
                · subst e9; have q1 := h_gw.symm.trans h9; cases q1
                  have wy := congrArg Int32.toInt e_y12; have wz := congrArg Int32.toInt e_y13
                  have hle : y12.toInt.toNat = x4.toInt.toNat := by have w1 := Int32.le_iff_toInt_le.mp c8; have w2 := gi_16.2.2; have w3 := i_y12.1; omega
                  have hle2 : 2 * y13.toInt.toNat = x9.toInt.toNat := by have w1 := Int32.le_iff_toInt_le.mp c14; have w2 := gi_130.2.2; have w3 := i_y13.1; have w4 : x13.toInt = 2 * y13.toInt := e_x13; omega
                  exact iv_puts (k := x_0.toInt.toNat) (hBs.wP h0w) (by have := i_x_0.1; have := i_x_0.2; omega) ⟨i_y12.1, i_y12.2⟩ (u := y13.toInt) ⟨i_y13.1, i_y13.2⟩ (by rw [hle]; exact gi_16.2.1) (by rw [hle2]; exact gi_130.2.1) (fun i hi => by have q := hF _ _ _ _ _ _ a_st h0f h0s i (by rw [← e_y12]; exact hi); rw [← e_y13] at q; exact q)
                · rw [gi_130.1 a9 e9] at h9; exact hBs.wP h9)
              refine lv_aload_n hx hb dX12_putsLaw_168 rfl (lv_at hl 1 rfl) ?_
              refine iv_geti0 X ft_X12 hB a_h0 shU_12 12 (by decide) rfl k_fl_X12_227 dX12_putsLaw_169 e_y12 ?_
              exact iv_iret X hr hlocks hB ⟨hM, i_y12⟩ dX12_putsLaw_172
            · skip
              have i14_x9 : iv_R 0 819 x9 := (i_x9.cutHi (n := 819) (iv_lt_r (iv_nle c14) i_x13 (by decide)))
              have i15_x13 : iv_R 1 820 x13 := (i_x13.cutLo (n := 1) (iv_lt_l (iv_nle c14) i_x9 (by decide)))
              refine lv_aload_n hx hb dX12_putsLaw_140 rfl (lv_at hl 1 rfl) ?_
              refine iv_getr0 X ft_X12 hB a_h0 shU_12 0 (by decide) rfl k_fl_X12_7 dX12_putsLaw_141 (rfl : r_h0 0 = r_h0 0) ?_
              refine lv_sipush (v := 874) hx hb dX12_putsLaw_144 (by decide) ?_
              refine lv_sipush (v := 820) hx hb dX12_putsLaw_147 (by decide) ?_
              refine lv_iload_n hx hb dX12_putsLaw_150 rfl (lv_at hl 2 rfl) ?_
              refine iv_imul hx hb q_820 i_x_0 (lo := 0) (hi := 820) (by decide) dX12_putsLaw_151 (fun x17 e_x17 i_x17 => ?_)
              have e_x17 : x17.toInt = 820 * x_0.toInt := e_x17
              refine iv_iadd hx hb q_874 i_x17 (lo := 874) (hi := 1694) (by decide) dX12_putsLaw_152 (fun x18 e_x18 i_x18 => ?_)
              have e_x18 : x18.toInt = 874 + x17.toInt := e_x18
              refine lv_iload_n hx hb dX12_putsLaw_153 rfl (lv_at hl 0 rfl) ?_
              refine iv_iadd hx hb i_x18 i14_x9 (lo := 874) (hi := 2513) (by decide) dX12_putsLaw_154 (fun x19 e_x19 i_x19 => ?_)
              refine lv_aload_n hx hb dX12_putsLaw_155 rfl (lv_at hl 1 rfl) ?_
              refine iv_getr0 X ft_X12 hB a_h0 shU_12 6 (by decide) rfl k_fl_X12_22 dX12_putsLaw_156 (rfl : r_h0 6 = r_h0 6) ?_
              refine lv_iload_n hx hb dX12_putsLaw_159 rfl (lv_at hl 0 rfl) ?_
              refine iv_ald X hB h_fs shU_64 (iv_in i14_x9 (by decide)) dX12_putsLaw_160 (fun x20 e_x20 i_x20 => ?_)
              refine iv_astP X hB h_gw shU_60 (iv_in i_x19 (by decide)) (fun _ => trivial) dX12_putsLaw_161 (fun H locs hB => ?_)
              have hm := iv_Md.put (x := x20) h_gw (j := x19.toNatClampNeg) (iv_n146 i_x19 (by decide)) (fun h => absurd h (by decide))
              have h9 := iv_up_eq (G := G12) (a := (r_h0 0)) (k := (60, upd g10 x19.toNatClampNeg x20, r11))
              have hO := hO.up (k := (60, upd g10 x19.toNatClampNeg x20, r11))
              generalize iv_up G12 (r_h0 0) _ = G21 at hB hm h9 hO
              have hM := hM.stp (iv_MdT.of hm) (by decide)
              generalize hgn_g22 : upd g10 _ _ = g22 at h9
              have a_h0 := hm.at a_h0 (by decide)
              have h_fl := hm.at h_fl (by decide)
              have h_fs := hm.at h_fs (by decide)
              have h_gw := h9
              refine iv_iinc hx hb i14_x9 (lo := 1) (hi := 820) (by decide) dX12_putsLaw_162 hl (k := 0) rfl (by decide) (fun x23 ls e_x23 i_x23 hl => ?_)
              have hl : lv_has ls 3 [(2, .int x23), (0, .ref h0), (1, .int x_0)] := hl
              refine lv_goto (tgt := 130) hx hb dX12_putsLaw_165 (by decide) ?_
              exact ih_130 G21 hM _ _ hB a_h0 h_fl h_fs g22 r11 h_gw x23 (i_x23.wk (by decide)) (iv_mup (c := 1) i_x9 (by decide) (by decide) (by omega) hn_130) ⟨hO, (by rw [← hgn_g22, e_x20, show x23.toInt.toNat = x9.toInt.toNat + 1 from (by have q0 := i_x_0.1; have q1 := i_x_0.2; have q2 := i14_x9.1; have q3 := i14_x9.2; omega)]; exact gi_130.2.1.step (by have q0 := i_x_0.1; have q1 := i_x_0.2; have q2 := i14_x9.1; have q3 := i14_x9.2; omega) (by show x19.toInt.toNat = _; have q0 := i_x_0.1; have q1 := i_x_0.2; have q2 := i14_x9.1; have q3 := i14_x9.2; omega) (by show x9.toInt.toNat = _; have q0 := i_x_0.1; have q1 := i_x_0.2; have q2 := i14_x9.1; have q3 := i14_x9.2; omega)), (by have w1 := Int32.lt_iff_toInt_lt.mp (iv_nle c14); have w2 : x23.toInt = x9.toInt + 1 := e_x23; have w3 : x13.toInt = 2 * y13.toInt := e_x13; omega)⟩ _ (lv_sub hl [0, 1, 2] rfl)
        exact L_130 _ G7 hM _ _ hB a_h0 h_fl h_fs g5 r6 h_gw 0 (q_0.wk (by decide)) (Nat.lt_succ_self _) ⟨hO, iv_ps.zero, (by have w1 := i_y13.1; have z0 : (0 : Int32).toInt = 0 := rfl; omega)⟩ _ (lv_sub hl [0, 1, 2] rfl)
      · skip
        have i23_x4 : iv_R 0 15 x4 := (i_x4.cutHi (n := 15) (iv_lt_r (iv_nle c8) i_y12 (by decide)))
        have i24_y12 : iv_R 1 16 y12 := (i_y12.cutLo (n := 1) (iv_lt_l (iv_nle c8) i_x4 (by decide)))
        refine lv_aload_n hx hb dX12_putsLaw_24 rfl (lv_at hl 1 rfl) ?_
        refine iv_getr0 X ft_X12 hB a_h0 shU_12 0 (by decide) rfl k_fl_X12_7 dX12_putsLaw_25 (rfl : r_h0 0 = r_h0 0) ?_
        refine lv_sipush (v := 746) hx hb dX12_putsLaw_28 (by decide) ?_
        refine lv_bipush (v := 16) hx hb dX12_putsLaw_31 (by decide) ?_
        refine lv_iload_n hx hb dX12_putsLaw_33 rfl (lv_at hl 2 rfl) ?_
        refine iv_imul hx hb q_16 i_x_0 (lo := 0) (hi := 16) (by decide) dX12_putsLaw_34 (fun x26 e_x26 i_x26 => ?_)
        have e_x26 : x26.toInt = 16 * x_0.toInt := e_x26
        refine iv_iadd hx hb q_746 i_x26 (lo := 746) (hi := 762) (by decide) dX12_putsLaw_35 (fun x27 e_x27 i_x27 => ?_)
        have e_x27 : x27.toInt = 746 + x26.toInt := e_x27
        refine lv_iload_n hx hb dX12_putsLaw_36 rfl (lv_at hl 0 rfl) ?_
        refine iv_iadd hx hb i_x27 i23_x4 (lo := 746) (hi := 777) (by decide) dX12_putsLaw_37 (fun x28 e_x28 i_x28 => ?_)
        refine lv_aload_n hx hb dX12_putsLaw_38 rfl (lv_at hl 1 rfl) ?_
        refine iv_getr0 X ft_X12 hB a_h0 shU_12 5 (by decide) rfl k_fl_X12_19 dX12_putsLaw_39 (rfl : r_h0 5 = r_h0 5) ?_
        refine lv_iconst (v := 4) hx hb dX12_putsLaw_42 (by decide) ?_
        refine lv_iload_n hx hb dX12_putsLaw_43 rfl (lv_at hl 0 rfl) ?_
        refine iv_imul hx hb q_4 i23_x4 (lo := 0) (hi := 60) (by decide) dX12_putsLaw_44 (fun x29 e_x29 i_x29 => ?_)
        have e_x29 : x29.toInt = 4 * x4.toInt := e_x29
        refine iv_ald X hB h_fl shU_63 (iv_in i_x29 (by decide)) dX12_putsLaw_45 (fun x30 e_x30 i_x30 => ?_)
        refine iv_astP X hB h_gw shU_60 (iv_in i_x28 (by decide)) (fun _ => trivial) dX12_putsLaw_46 (fun H locs hB => ?_)
        have hm := iv_Md.put (x := x30) h_gw (j := x28.toNatClampNeg) (iv_n146 i_x28 (by decide)) (fun h => absurd h (by decide))
        have h9 := iv_up_eq (G := G7) (a := (r_h0 0)) (k := (60, upd g5 x28.toNatClampNeg x30, r6))
        have hO := hO.up (k := (60, upd g5 x28.toNatClampNeg x30, r6))
        generalize iv_up G7 (r_h0 0) _ = G31 at hB hm h9 hO
        have hM := hM.stp (iv_MdT.of hm) (by decide)
        generalize hgn_g32 : upd g5 _ _ = g32 at h9
        have a_h0 := hm.at a_h0 (by decide)
        have h_fl := hm.at h_fl (by decide)
        have h_fs := hm.at h_fs (by decide)
        have h_gw := h9
        refine lv_aload_n hx hb dX12_putsLaw_47 rfl (lv_at hl 1 rfl) ?_
        refine iv_getr0 X ft_X12 hB a_h0 shU_12 0 (by decide) rfl k_fl_X12_7 dX12_putsLaw_48 (rfl : r_h0 0 = r_h0 0) ?_
        refine lv_sipush (v := 778) hx hb dX12_putsLaw_51 (by decide) ?_
        refine lv_bipush (v := 16) hx hb dX12_putsLaw_54 (by decide) ?_
        refine lv_iload_n hx hb dX12_putsLaw_56 rfl (lv_at hl 2 rfl) ?_
        refine iv_imul hx hb q_16 i_x_0 (lo := 0) (hi := 16) (by decide) dX12_putsLaw_57 (fun x33 e_x33 i_x33 => ?_)
        have e_x33 : x33.toInt = 16 * x_0.toInt := e_x33
        refine iv_iadd hx hb q_778 i_x33 (lo := 778) (hi := 794) (by decide) dX12_putsLaw_58 (fun x34 e_x34 i_x34 => ?_)
        have e_x34 : x34.toInt = 778 + x33.toInt := e_x34
        refine lv_iload_n hx hb dX12_putsLaw_59 rfl (lv_at hl 0 rfl) ?_
        refine iv_iadd hx hb i_x34 i23_x4 (lo := 778) (hi := 809) (by decide) dX12_putsLaw_60 (fun x35 e_x35 i_x35 => ?_)
        refine lv_aload_n hx hb dX12_putsLaw_61 rfl (lv_at hl 1 rfl) ?_
        refine iv_getr0 X ft_X12 hB a_h0 shU_12 5 (by decide) rfl k_fl_X12_19 dX12_putsLaw_62 (rfl : r_h0 5 = r_h0 5) ?_
        refine lv_iconst (v := 4) hx hb dX12_putsLaw_65 (by decide) ?_
        refine lv_iload_n hx hb dX12_putsLaw_66 rfl (lv_at hl 0 rfl) ?_
        refine iv_imul hx hb q_4 i23_x4 (lo := 0) (hi := 60) (by decide) dX12_putsLaw_67 (fun x36 e_x36 i_x36 => ?_)
        have e_x36 : x36.toInt = 4 * x4.toInt := e_x36
        refine lv_iconst (v := 1) hx hb dX12_putsLaw_68 (by decide) ?_
        refine iv_iadd hx hb i_x36 q_1 (lo := 1) (hi := 61) (by decide) dX12_putsLaw_69 (fun x37 e_x37 i_x37 => ?_)
        have e_x37 : x37.toInt = x36.toInt + 1 := e_x37
        refine iv_ald X hB h_fl shU_63 (iv_in i_x37 (by decide)) dX12_putsLaw_70 (fun x38 e_x38 i_x38 => ?_)
        refine iv_astP X hB h_gw shU_60 (iv_in i_x35 (by decide)) (fun _ => trivial) dX12_putsLaw_71 (fun H locs hB => ?_)
        have hm := iv_Md.put (x := x38) h_gw (j := x35.toNatClampNeg) (iv_n146 i_x35 (by decide)) (fun h => absurd h (by decide))
        have h9 := iv_up_eq (G := G31) (a := (r_h0 0)) (k := (60, upd g32 x35.toNatClampNeg x38, r6))
        have hO := hO.up (k := (60, upd g32 x35.toNatClampNeg x38, r6))
        generalize iv_up G31 (r_h0 0) _ = G39 at hB hm h9 hO
        have hM := hM.stp (iv_MdT.of hm) (by decide)
        generalize hgn_g40 : upd g32 _ _ = g40 at h9
        have a_h0 := hm.at a_h0 (by decide)
        have h_fl := hm.at h_fl (by decide)
        have h_fs := hm.at h_fs (by decide)
        have h_gw := h9
        refine lv_aload_n hx hb dX12_putsLaw_72 rfl (lv_at hl 1 rfl) ?_
        refine iv_getr0 X ft_X12 hB a_h0 shU_12 0 (by decide) rfl k_fl_X12_7 dX12_putsLaw_73 (rfl : r_h0 0 = r_h0 0) ?_
        refine lv_sipush (v := 810) hx hb dX12_putsLaw_76 (by decide) ?_
        refine lv_bipush (v := 16) hx hb dX12_putsLaw_79 (by decide) ?_
        refine lv_iload_n hx hb dX12_putsLaw_81 rfl (lv_at hl 2 rfl) ?_
        refine iv_imul hx hb q_16 i_x_0 (lo := 0) (hi := 16) (by decide) dX12_putsLaw_82 (fun x41 e_x41 i_x41 => ?_)
        have e_x41 : x41.toInt = 16 * x_0.toInt := e_x41
        refine iv_iadd hx hb q_810 i_x41 (lo := 810) (hi := 826) (by decide) dX12_putsLaw_83 (fun x42 e_x42 i_x42 => ?_)
        have e_x42 : x42.toInt = 810 + x41.toInt := e_x42
        refine lv_iload_n hx hb dX12_putsLaw_84 rfl (lv_at hl 0 rfl) ?_
        refine iv_iadd hx hb i_x42 i23_x4 (lo := 810) (hi := 841) (by decide) dX12_putsLaw_85 (fun x43 e_x43 i_x43 => ?_)
        refine lv_aload_n hx hb dX12_putsLaw_86 rfl (lv_at hl 1 rfl) ?_
        refine iv_getr0 X ft_X12 hB a_h0 shU_12 5 (by decide) rfl k_fl_X12_19 dX12_putsLaw_87 (rfl : r_h0 5 = r_h0 5) ?_
        refine lv_iconst (v := 4) hx hb dX12_putsLaw_90 (by decide) ?_
        refine lv_iload_n hx hb dX12_putsLaw_91 rfl (lv_at hl 0 rfl) ?_
        refine iv_imul hx hb q_4 i23_x4 (lo := 0) (hi := 60) (by decide) dX12_putsLaw_92 (fun x44 e_x44 i_x44 => ?_)
        have e_x44 : x44.toInt = 4 * x4.toInt := e_x44
        refine lv_iconst (v := 2) hx hb dX12_putsLaw_93 (by decide) ?_
        refine iv_iadd hx hb i_x44 q_2 (lo := 2) (hi := 62) (by decide) dX12_putsLaw_94 (fun x45 e_x45 i_x45 => ?_)
        have e_x45 : x45.toInt = x44.toInt + 2 := e_x45
        refine iv_ald X hB h_fl shU_63 (iv_in i_x45 (by decide)) dX12_putsLaw_95 (fun x46 e_x46 i_x46 => ?_)
        refine iv_astP X hB h_gw shU_60 (iv_in i_x43 (by decide)) (fun _ => trivial) dX12_putsLaw_96 (fun H locs hB => ?_)
        have hm := iv_Md.put (x := x46) h_gw (j := x43.toNatClampNeg) (iv_n146 i_x43 (by decide)) (fun h => absurd h (by decide))
        have h9 := iv_up_eq (G := G39) (a := (r_h0 0)) (k := (60, upd g40 x43.toNatClampNeg x46, r6))
        have hO := hO.up (k := (60, upd g40 x43.toNatClampNeg x46, r6))
        generalize iv_up G39 (r_h0 0) _ = G47 at hB hm h9 hO
        have hM := hM.stp (iv_MdT.of hm) (by decide)
        generalize hgn_g48 : upd g40 _ _ = g48 at h9
        have a_h0 := hm.at a_h0 (by decide)
        have h_fl := hm.at h_fl (by decide)
        have h_fs := hm.at h_fs (by decide)
        have h_gw := h9
        refine lv_aload_n hx hb dX12_putsLaw_97 rfl (lv_at hl 1 rfl) ?_
        refine iv_getr0 X ft_X12 hB a_h0 shU_12 0 (by decide) rfl k_fl_X12_7 dX12_putsLaw_98 (rfl : r_h0 0 = r_h0 0) ?_
        refine lv_sipush (v := 842) hx hb dX12_putsLaw_101 (by decide) ?_
        refine lv_bipush (v := 16) hx hb dX12_putsLaw_104 (by decide) ?_
        refine lv_iload_n hx hb dX12_putsLaw_106 rfl (lv_at hl 2 rfl) ?_
        refine iv_imul hx hb q_16 i_x_0 (lo := 0) (hi := 16) (by decide) dX12_putsLaw_107 (fun x49 e_x49 i_x49 => ?_)
        have e_x49 : x49.toInt = 16 * x_0.toInt := e_x49
        refine iv_iadd hx hb q_842 i_x49 (lo := 842) (hi := 858) (by decide) dX12_putsLaw_108 (fun x50 e_x50 i_x50 => ?_)
        have e_x50 : x50.toInt = 842 + x49.toInt := e_x50
        refine lv_iload_n hx hb dX12_putsLaw_109 rfl (lv_at hl 0 rfl) ?_
        refine iv_iadd hx hb i_x50 i23_x4 (lo := 842) (hi := 873) (by decide) dX12_putsLaw_110 (fun x51 e_x51 i_x51 => ?_)
        refine lv_aload_n hx hb dX12_putsLaw_111 rfl (lv_at hl 1 rfl) ?_
        refine iv_getr0 X ft_X12 hB a_h0 shU_12 5 (by decide) rfl k_fl_X12_19 dX12_putsLaw_112 (rfl : r_h0 5 = r_h0 5) ?_
        refine lv_iconst (v := 4) hx hb dX12_putsLaw_115 (by decide) ?_
        refine lv_iload_n hx hb dX12_putsLaw_116 rfl (lv_at hl 0 rfl) ?_
        refine iv_imul hx hb q_4 i23_x4 (lo := 0) (hi := 60) (by decide) dX12_putsLaw_117 (fun x52 e_x52 i_x52 => ?_)
        have e_x52 : x52.toInt = 4 * x4.toInt := e_x52
        refine lv_iconst (v := 3) hx hb dX12_putsLaw_118 (by decide) ?_
        refine iv_iadd hx hb i_x52 q_3 (lo := 3) (hi := 63) (by decide) dX12_putsLaw_119 (fun x53 e_x53 i_x53 => ?_)
        have e_x53 : x53.toInt = x52.toInt + 3 := e_x53
        refine iv_ald X hB h_fl shU_63 (iv_in i_x53 (by decide)) dX12_putsLaw_120 (fun x54 e_x54 i_x54 => ?_)
        refine iv_astP X hB h_gw shU_60 (iv_in i_x51 (by decide)) (fun _ => trivial) dX12_putsLaw_121 (fun H locs hB => ?_)
        have hm := iv_Md.put (x := x54) h_gw (j := x51.toNatClampNeg) (iv_n146 i_x51 (by decide)) (fun h => absurd h (by decide))
        have h9 := iv_up_eq (G := G47) (a := (r_h0 0)) (k := (60, upd g48 x51.toNatClampNeg x54, r6))
        have hO := hO.up (k := (60, upd g48 x51.toNatClampNeg x54, r6))
        generalize iv_up G47 (r_h0 0) _ = G55 at hB hm h9 hO
        have hM := hM.stp (iv_MdT.of hm) (by decide)
        generalize hgn_g56 : upd g48 _ _ = g56 at h9
        have a_h0 := hm.at a_h0 (by decide)
        have h_fl := hm.at h_fl (by decide)
        have h_fs := hm.at h_fs (by decide)
        have h_gw := h9
        refine iv_iinc hx hb i23_x4 (lo := 1) (hi := 16) (by decide) dX12_putsLaw_122 hl (k := 0) rfl (by decide) (fun x57 ls e_x57 i_x57 hl => ?_)
        have hl : lv_has ls 3 [(2, .int x57), (0, .ref h0), (1, .int x_0)] := hl
        refine lv_goto (tgt := 16) hx hb dX12_putsLaw_125 (by decide) ?_
        exact ih_16 G55 hM _ _ hB a_h0 h_fl h_fs g56 r6 h_gw x57 (i_x57.wk (by decide)) (iv_mup (c := 1) i_x4 (by decide) (by decide) (by omega) hn_16) ⟨hO, (by rw [← hgn_g56, ← hgn_g48, ← hgn_g40, ← hgn_g32, e_x30, e_x38, e_x46, show x57.toInt.toNat = x4.toInt.toNat + 1 from (by have := i23_x4.1; omega)]; refine gi_16.2.1.step (by have q0 := i_x_0.1; have q1 := i_x_0.2; have q2 := i23_x4.1; have q3 := i23_x4.2; omega) (by have q0 := i_x_0.1; have q1 := i_x_0.2; have q2 := i23_x4.1; have q3 := i23_x4.2; omega) (by show x28.toInt.toNat = _; have q0 := i_x_0.1; have q1 := i_x_0.2; have q2 := i23_x4.1; have q3 := i23_x4.2; omega) (by show x35.toInt.toNat = _; have q0 := i_x_0.1; have q1 := i_x_0.2; have q2 := i23_x4.1; have q3 := i23_x4.2; omega) (by show x43.toInt.toNat = _; have q0 := i_x_0.1; have q1 := i_x_0.2; have q2 := i23_x4.1; have q3 := i23_x4.2; omega) (by show x51.toInt.toNat = _; have q0 := i_x_0.1; have q1 := i_x_0.2; have q2 := i23_x4.1; have q3 := i23_x4.2; omega) (by show x29.toInt.toNat = _; have q0 := i_x_0.1; have q1 := i_x_0.2; have q2 := i23_x4.1; have q3 := i23_x4.2; omega) (by show x37.toInt.toNat = _; have q0 := i_x_0.1; have q1 := i_x_0.2; have q2 := i23_x4.1; have q3 := i23_x4.2; omega) (by show x45.toInt.toNat = _; have q0 := i_x_0.1; have q1 := i_x_0.2; have q2 := i23_x4.1; have q3 := i23_x4.2; omega) ), (by have w1 := Int32.lt_iff_toInt_lt.mp (iv_nle c8); have w2 : x57.toInt = x4.toInt + 1 := e_x57; omega)⟩ _ (lv_sub hl [0, 1, 2] rfl)
  exact L_16 _ G2 hM _ _ hB a_h0 h_fl h_fs g3 r_gw h_gw 0 (q_0.wk (by decide)) (Nat.lt_succ_self _) ⟨hO, (by rw [← hgn_g3, show x1.toNatClampNeg = 150 + x_0.toInt.toNat from (by show x1.toInt.toNat = _; have := i_x_0.1; omega)]; exact iv_pw.zero), (by have w1 := i_y12.1; have z0 : (0 : Int32).toInt = 0 := rfl; omega)⟩ _ (lv_sub hl [0, 1, 2] rfl)
theorem dX12_text_0 : decode cX12_text 0 = .ok (.aload_n 0, 1) := by decide +kernel
theorem dX12_text_1 : decode cX12_text 1 = .ok (.iconst 0, 1) := by decide +kernel
theorem dX12_text_2 : decode cX12_text 2 = .ok (.putfield 250, 3) := by decide +kernel
theorem dX12_text_5 : decode cX12_text 5 = .ok (.aload_n 0, 1) := by decide +kernel
theorem dX12_text_6 : decode cX12_text 6 = .ok (.iconst (-1), 1) := by decide +kernel
theorem dX12_text_7 : decode cX12_text 7 = .ok (.putfield 37, 3) := by decide +kernel
theorem dX12_text_10 : decode cX12_text 10 = .ok (.iload_n 1, 1) := by decide +kernel
theorem dX12_text_11 : decode cX12_text 11 = .ok (.iconst 0, 1) := by decide +kernel
theorem dX12_text_12 : decode cX12_text 12 = .ok (.iconst 2, 1) := by decide +kernel
theorem dX12_text_13 : decode cX12_text 13 = .ok (.invokestatic 56, 3) := by decide +kernel
theorem dX12_text_16 : decode cX12_text 16 = .ok (.ifCond .ne 10, 3) := by decide +kernel
theorem dX12_text_19 : decode cX12_text 19 = .ok (.aload_n 0, 1) := by decide +kernel
theorem dX12_text_20 : decode cX12_text 20 = .ok (.iconst 0, 1) := by decide +kernel
theorem dX12_text_21 : decode cX12_text 21 = .ok (.putfield 82, 3) := by decide +kernel
theorem dX12_text_24 : decode cX12_text 24 = .ok (.iconst (-1), 1) := by decide +kernel
theorem dX12_text_25 : decode cX12_text 25 = .ok (.ireturn, 1) := by decide +kernel
theorem dX12_text_26 : decode cX12_text 26 = .ok (.aload_n 0, 1) := by decide +kernel
theorem dX12_text_27 : decode cX12_text 27 = .ok (.iconst 0, 1) := by decide +kernel
theorem dX12_text_28 : decode cX12_text 28 = .ok (.putfield 180, 3) := by decide +kernel
theorem dX12_text_31 : decode cX12_text 31 = .ok (.aload_n 0, 1) := by decide +kernel
theorem dX12_text_32 : decode cX12_text 32 = .ok (.iconst 0, 1) := by decide +kernel
theorem dX12_text_33 : decode cX12_text 33 = .ok (.putfield 85, 3) := by decide +kernel
theorem dX12_text_36 : decode cX12_text 36 = .ok (.aload_n 0, 1) := by decide +kernel
theorem dX12_text_37 : decode cX12_text 37 = .ok (.iload_n 1, 1) := by decide +kernel
theorem dX12_text_38 : decode cX12_text 38 = .ok (.putfield 141, 3) := by decide +kernel
theorem dX12_text_41 : decode cX12_text 41 = .ok (.aload_n 0, 1) := by decide +kernel
theorem dX12_text_42 : decode cX12_text 42 = .ok (.invokevirtual 189, 3) := by decide +kernel
theorem dX12_text_45 : decode cX12_text 45 = .ok (.iload_n 1, 1) := by decide +kernel
theorem dX12_text_46 : decode cX12_text 46 = .ok (.ifCond .ne 10, 3) := by decide +kernel
theorem dX12_text_49 : decode cX12_text 49 = .ok (.aload_n 0, 1) := by decide +kernel
theorem dX12_text_50 : decode cX12_text 50 = .ok (.invokevirtual 253, 3) := by decide +kernel
theorem dX12_text_53 : decode cX12_text 53 = .ok (.goto 7, 3) := by decide +kernel
theorem dX12_text_56 : decode cX12_text 56 = .ok (.aload_n 0, 1) := by decide +kernel
theorem dX12_text_57 : decode cX12_text 57 = .ok (.invokevirtual 256, 3) := by decide +kernel
theorem dX12_text_60 : decode cX12_text 60 = .ok (.istore_n 2, 1) := by decide +kernel
theorem dX12_text_61 : decode cX12_text 61 = .ok (.aload_n 0, 1) := by decide +kernel
theorem dX12_text_62 : decode cX12_text 62 = .ok (.iconst 0, 1) := by decide +kernel
theorem dX12_text_63 : decode cX12_text 63 = .ok (.putfield 82, 3) := by decide +kernel
theorem dX12_text_66 : decode cX12_text 66 = .ok (.iload_n 2, 1) := by decide +kernel
theorem dX12_text_67 : decode cX12_text 67 = .ok (.ifCond .eq 22, 3) := by decide +kernel
theorem dX12_text_70 : decode cX12_text 70 = .ok (.iload_n 1, 1) := by decide +kernel
theorem dX12_text_71 : decode cX12_text 71 = .ok (.ifCond .ne 10, 3) := by decide +kernel
theorem dX12_text_74 : decode cX12_text 74 = .ok (.aload_n 0, 1) := by decide +kernel
theorem dX12_text_75 : decode cX12_text 75 = .ok (.invokevirtual 259, 3) := by decide +kernel
theorem dX12_text_78 : decode cX12_text 78 = .ok (.goto 10, 3) := by decide +kernel
theorem dX12_text_81 : decode cX12_text 81 = .ok (.aload_n 0, 1) := by decide +kernel
theorem dX12_text_82 : decode cX12_text 82 = .ok (.iload_n 1, 1) := by decide +kernel
theorem dX12_text_83 : decode cX12_text 83 = .ok (.iconst 1, 1) := by decide +kernel
theorem dX12_text_84 : decode cX12_text 84 = .ok (.isub, 1) := by decide +kernel
theorem dX12_text_85 : decode cX12_text 85 = .ok (.invokevirtual 262, 3) := by decide +kernel
theorem dX12_text_88 : decode cX12_text 88 = .ok (.ireturn, 1) := by decide +kernel
theorem dX12_text_89 : decode cX12_text 89 = .ok (.aload_n 0, 1) := by decide +kernel
theorem dX12_text_90 : decode cX12_text 90 = .ok (.aload_n 0, 1) := by decide +kernel
theorem dX12_text_91 : decode cX12_text 91 = .ok (.getfield 180, 3) := by decide +kernel
theorem dX12_text_94 : decode cX12_text 94 = .ok (.putfield 250, 3) := by decide +kernel
theorem dX12_text_97 : decode cX12_text 97 = .ok (.aload_n 0, 1) := by decide +kernel
theorem dX12_text_98 : decode cX12_text 98 = .ok (.aload_n 0, 1) := by decide +kernel
theorem dX12_text_99 : decode cX12_text 99 = .ok (.getfield 183, 3) := by decide +kernel
theorem dX12_text_102 : decode cX12_text 102 = .ok (.putfield 37, 3) := by decide +kernel
theorem dX12_text_105 : decode cX12_text 105 = .ok (.iconst (-1), 1) := by decide +kernel
theorem dX12_text_106 : decode cX12_text 106 = .ok (.ireturn, 1) := by decide +kernel
