theorem tk_nu.cg {T T' : Nat → Int} {p : Nat} : ∀ k, (∀ j, j < k → T (p + j) = T' (p + j)) → tk_nu T p k = tk_nu T' p k := by
  intro k
  induction k with
  | zero => intro _; rfl
  | succ k ih =>
    intro h
    show tk_nu T p k * 10 + (T (p + k) - 48) = tk_nu T' p k * 10 + (T' (p + k) - 48)
    rw [ih (fun j hj => h j (by omega)), h k (Nat.lt_succ_self _)]
theorem tk_eq.cg {T T' : Nat → Int} {p e : Nat} {w : List Int} (h : ∀ x, p ≤ x → x < e → T x = T' x) (t : tk_eq T p e w) : tk_eq T' p e w := ⟨t.1, fun k hk => (h (p + k) (by omega) (by have := t.1; omega)).symm.trans (t.2 k hk)⟩
theorem tk_KV.cg {T T' : Nat → Int} {p e : Nat} {k v : Int} (h : ∀ x, p ≤ x → x < e → T x = T' x) (hp : p < e) (t : tk_KV T p e k v) : tk_KV T' p e k v := by
  have e0 : T p = T' p := h p (Nat.le_refl _) hp
  unfold tk_KV at t ⊢
  rw [← e0, tk_nu.cg (T := T') (T' := T) (p := p) (e - p) (fun j hj => (h (p + j) (by omega) (by omega)).symm)]
  refine ⟨fun q => ?_, t.2.1, t.2.2⟩
  rcases t.1 q with ⟨i, h1, h2, h3⟩ | ⟨h1, h2⟩
  · exact Or.inl ⟨i, h1, h2.cg h, h3⟩
  · exact Or.inr ⟨fun i hi w => h1 i hi (w.cg (fun x a b => (h x a b).symm)), h2⟩
theorem tk_KV.two {T : Nat → Int} {p e : Nat} {k v : Int} (t : tk_KV T p e k v) (hk : k = 2) : tk_D (T p) ∧ e ≤ p + 4 := by
  by_cases hd : tk_D (T p)
  · refine ⟨hd, ?_⟩
    have w := (t.2.1 hd).2
    by_cases q : p + 4 < e
    · have w2 := w q
      omega
    · omega
  · by_cases hl : tk_L (T p)
    · rcases t.1 hl with ⟨i, h1, h2, h3⟩ | ⟨h1, h2⟩
      · omega
      · omega
    · have w := t.2.2 hl hd
      by_cases hs : tk_sg (T p)
      · have w2 := w.1 hs
        unfold tk_sg at hs
        omega
      · have w2 := w.2 hs
        omega
theorem iv_got10 {D : va_G} {tys : List (ClassId × FieldType)} {base : Nat} {G : iv_G} {H0 H : Heap} {locs : List Loc} {a : Nat} {g : Nat → Int32} {r : Nat → Nat} (hB : iv_B iv_sh D classes tys base G H0 H locs) (ha : G a = some (10, g, r)) : (∃ (f : Nat → Int32) (q : Nat → Nat), G (r 0) = some (42, f, q)) ∧ (∃ (f : Nat → Int32) (q : Nat → Nat), G (r 1) = some (43, f, q)) ∧ ∃ (f : Nat → Int32) (q : Nat → Nat), G (r 2) = some (44, f, q) := by
  obtain ⟨q, h1, h2, h3⟩ := (hB.got ha).obj sh_10
  have hq : q = (RX10, TX10, 3) := Option.some.inj (h1.symm.trans ft_X10.1)
  rw [hq] at h3
  obtain ⟨⟨c0, g0, r0⟩, a0, b0⟩ : ∃ k' : iv_K, G (r 0) = some k' ∧ k'.1 = 42 := h3 0 (by decide)
  have b0 : c0 = 42 := b0
  rw [b0] at a0
  obtain ⟨⟨c1, g1, r1⟩, a1, b1⟩ : ∃ k' : iv_K, G (r 1) = some k' ∧ k'.1 = 43 := h3 1 (by decide)
  have b1 : c1 = 43 := b1
  rw [b1] at a1
  obtain ⟨⟨c2, g2, r2⟩, a2, b2⟩ : ∃ k' : iv_K, G (r 2) = some k' ∧ k'.1 = 44 := h3 2 (by decide)
  have b2 : c2 = 44 := b2
  rw [b2] at a2
  exact ⟨⟨g0, r0, a0⟩, ⟨g1, r1, a1⟩, ⟨g2, r2, a2⟩⟩
/-- the tokens that begin before a are in the tables -/
def tk_J (T : Nat → Int) (n a : Nat) (gk gv gp : Nat → Int32) : Prop := ∀ p e, p < a → tk_S T n p → tk_E T n p e → tk_KV T p e (gk (tk_c T n p)).toInt (gv (tk_c T n p)).toInt ∧ (gp (tk_c T n p)).toInt = (p : Int)
theorem tk_J.no {T : Nat → Int} {n a : Nat} {gk gv gp : Nat → Int32} (h : tk_J T n a gk gv gp) (hs : ¬ tk_S T n a) : tk_J T n (a + 1) gk gv gp := fun p e hp h1 h2 => by
  by_cases q : p = a
  · subst q
    exact absurd h1 hs
  · exact h p e (by omega) h1 h2
theorem tk_J.ok {T : Nat → Int} {n a e : Nat} {gk gv gp : Nat → Int32} {k v x : Int32} (h : tk_J T n a gk gv gp) (he : tk_E T n a e) (hk : tk_KV T a e k.toInt v.toInt) (hx : x.toInt = (a : Int)) : tk_J T n (a + 1) (upd gk (tk_c T n a) k) (upd gv (tk_c T n a) v) (upd gp (tk_c T n a) x) := fun p f hp h1 h2 => by
  by_cases q : p = a
  · subst q
    rw [show upd gk (tk_c T n p) k (tk_c T n p) = k from if_pos rfl, show upd gv (tk_c T n p) v (tk_c T n p) = v from if_pos rfl, show upd gp (tk_c T n p) x (tk_c T n p) = x from if_pos rfl, ← he.one h2]
    exact ⟨hk, hx⟩
  · have w1 := tk_c.ok h1
    have w2 := tk_c.mono (T := T) (n := n) (show p + 1 ≤ a by omega)
    have ne : ¬ tk_c T n p = tk_c T n a := by omega
    rw [show upd gk (tk_c T n a) k (tk_c T n p) = gk (tk_c T n p) from if_neg ne, show upd gv (tk_c T n a) v (tk_c T n p) = gv (tk_c T n p) from if_neg ne, show upd gp (tk_c T n a) x (tk_c T n p) = gp (tk_c T n p) from if_neg ne]
    exact h p f (by omega) h1 h2
theorem tk_J.fin {T : Nat → Int} {n : Nat} {gk gv gp : Nat → Int32} {z x : Int32} (h : tk_J T n n gk gv gp) (hz : z.toInt = 0) (hx : x.toInt = (n : Int)) : tk_R T n (fun i => (upd gk (tk_c T n n) z i).toInt) (fun i => (upd gv (tk_c T n n) z i).toInt) (fun i => (upd gp (tk_c T n n) x i).toInt) := by
  refine ⟨fun p e h1 h2 => ?_, ?_, ?_⟩
  · have hp := h1.1
    have w1 := tk_c.ok h1
    have w2 := tk_c.mono (T := T) (n := n) (show p + 1 ≤ n by omega)
    have ne : ¬ tk_c T n p = tk_c T n n := by omega
    show tk_KV T p e (upd gk (tk_c T n n) z (tk_c T n p)).toInt (upd gv (tk_c T n n) z (tk_c T n p)).toInt ∧ (upd gp (tk_c T n n) x (tk_c T n p)).toInt = (p : Int)
    rw [show upd gk (tk_c T n n) z (tk_c T n p) = gk (tk_c T n p) from if_neg ne, show upd gv (tk_c T n n) z (tk_c T n p) = gv (tk_c T n p) from if_neg ne, show upd gp (tk_c T n n) x (tk_c T n p) = gp (tk_c T n p) from if_neg ne]
    exact h p e hp h1 h2
  · show (upd gk (tk_c T n n) z (tk_c T n n)).toInt = 0
    rw [show upd gk (tk_c T n n) z (tk_c T n n) = z from if_pos rfl]
    exact hz
  · show (upd gp (tk_c T n n) x (tk_c T n n)).toInt = (n : Int)
    rw [show upd gp (tk_c T n n) x (tk_c T n n) = x from if_pos rfl]
    exact hx
set_option maxHeartbeats 4000000 in
set_option maxRecDepth 100000 in
theorem e_X10_kindOf (l : Launch) (D : va_G) (tys : List (ClassId × FieldType)) (base : Nat) (G : iv_G) (h1 : Nat) (g_h1 : Nat → Int32) (r_h1 : Nat → Nat) (a_h1 : G h1 = some (45, g_h1, r_h1)) (x_1 : Int32) (i_x_1 : iv_R 0 399 x_1) (x_2 : Int32) (i_x_2 : iv_R 1 400 x_2) (h12 : x_1.toInt < x_2.toInt) (hby : iv_R 0 255 (g_h1 x_1.toInt.toNat)) : Met l yX10_kindOf (Cond.code yX10_kindOf cX10_kindOf 4 (some .int) :: iv_W0) ({ frames := 5, cells := 0, slots := 0, locals := 112 }) (iv_Pc iv_sh D classes tys base G [.ref h1, .int x_1, .int x_2]) (iv_Qi iv_sh D classes tys base (fun v G' => G = G' ∧ iv_R (-2147483648) 2147483647 v ∧ (∀ w : Int, (v.toInt = 2 → w = tk_nu (fun i => (g_h1 i).toInt) x_1.toInt.toNat (x_2.toInt.toNat - x_1.toInt.toNat)) → tk_KV (fun i => (g_h1 i).toInt) x_1.toInt.toNat x_2.toInt.toNat v.toInt w))) 0 0 (iv_A base) := by
  refine iv_head (by decide) (Nat.le_of_ble_eq_true rfl) ?_
  intro p e s m args below meth c ls X hr hlocks hname hB hl
  have X := X
  have hx := X.1.1
  have hb := X.1.2.1
  have hl : lv_has ls 4 [(0, .ref h1), (1, .int x_1), (2, .int x_2)] := hl
  refine lv_aload_n hx hb dX10_kindOf_0 rfl (lv_at hl 0 rfl) ?_
  refine lv_iload_n hx hb dX10_kindOf_1 rfl (lv_at hl 1 rfl) ?_
  refine iv_ald X hB a_h1 sh_45 (iv_in i_x_1 (by decide)) dX10_kindOf_2 (fun x1 e_x1 i_x1 => ?_)
  have f1 : x1 = g_h1 x_1.toInt.toNat := e_x1
  have h1e : x1.toInt = (g_h1 x_1.toInt.toNat).toInt := congrArg Int32.toInt f1
  refine lv_istore_n (lv' := [(3, .int x1), (0, .ref h1), (1, .int x_1), (2, .int x_2)]) hx hb dX10_kindOf_3 rfl hl (by decide) rfl (fun ls hl => ?_)
  refine lv_iload_n hx hb dX10_kindOf_4 rfl (lv_at hl 0 rfl) ?_
  refine iv_cSi X k_good k_mf_X10_isLetter k_st_X10_isLetter k_ml_X10_35 hB (As := [.int x1]) (e_X10_isLetter l D tys base G x1 i_x1) ⟨rfl, rfl⟩ ⟨Nat.le_of_ble_eq_true rfl, Nat.le_of_ble_eq_true rfl⟩ ⟨Nat.le_of_ble_eq_true rfl, Nat.le_of_ble_eq_true rfl⟩ rfl rfl hl.1 (Nat.le_of_ble_eq_true rfl) dX10_kindOf_5 (fun x2 G9 H locs hq hB => ?_)
  obtain ⟨rfl, i_x2, hp3, ex2⟩ := hq
  refine lv_if_eq (tgt := 18) hx hb dX10_kindOf_8 (by decide) (fun c4 => ?_) (fun c4 => ?_)
  · skip
    have i4_x2 : iv_R 0 0 x2 := (i_x2.cutHi (n := 0) (iv_eq_r c4 q_0).2)
    have hnl : ¬ tk_L ((g_h1 x_1.toInt.toNat).toInt) := by have w1 := mt ex2.mpr (fun q => q c4); unfold tk_L; omega
    refine lv_iload_n hx hb dX10_kindOf_18 rfl (lv_at hl 0 rfl) ?_
    refine iv_cSi X k_good k_mf_X10_isDigit k_st_X10_isDigit k_ml_X10_39 hB (As := [.int x1]) (e_X10_isDigit l D tys base G x1 i_x1) ⟨rfl, rfl⟩ ⟨Nat.le_of_ble_eq_true rfl, Nat.le_of_ble_eq_true rfl⟩ ⟨Nat.le_of_ble_eq_true rfl, Nat.le_of_ble_eq_true rfl⟩ rfl rfl hl.1 (Nat.le_of_ble_eq_true rfl) dX10_kindOf_19 (fun x6 G9 H locs hq hB => ?_)
    obtain ⟨rfl, i_x6, hp7, ex6⟩ := hq
    refine lv_if_eq (tgt := 38) hx hb dX10_kindOf_22 (by decide) (fun c8 => ?_) (fun c8 => ?_)
    · skip
      have i8_x6 : iv_R 0 0 x6 := (i_x6.cutHi (n := 0) (iv_eq_r c8 q_0).2)
      have hnd : ¬ tk_D ((g_h1 x_1.toInt.toNat).toInt) := by have w1 := mt ex6.mpr (fun q => q c8); unfold tk_D; omega
      refine iv_sldc X (i := 1) rfl dX10_kindOf_38 ?_
      refine lv_iload_n hx hb dX10_kindOf_40 rfl (lv_at hl 0 rfl) ?_
      refine lv_i2c hx hb dX10_kindOf_41 rfl ?_
      refine lv_topi (fun x10 e_x10 => ?_)
      have i_x10 := iv_R.all x10
      have f10 : x10 = x1 := e_x10.trans (Value.int.inj (iv_narC ((by rw [f1]; exact hby : iv_R 0 255 x1).wk (by decide))))
      refine iv_cKi X k_good k_mf_J0_indexOf_0f7a4 k_im_J0_indexOf_0f7a4 k_sel_J0_indexOf_0f7a4 k_ml_X10_47 (by decide) rfl hB (As := [.int x10]) (e_J0_indexOf_0f7a4 l D tys base G 1 (by decide) x10 i_x10 (by rw [f10, f1]; exact hby)) ⟨rfl, rfl⟩ ⟨Nat.le_of_ble_eq_true rfl, Nat.le_of_ble_eq_true rfl⟩ ⟨Nat.le_of_ble_eq_true rfl, Nat.le_of_ble_eq_true rfl⟩ rfl rfl hl.1 (Nat.le_of_ble_eq_true rfl) dX10_kindOf_42 (fun x11 G9 H locs hq hB => ?_)
      obtain ⟨rfl, i_x11, ex11⟩ := hq
      refine lv_if_lt (tgt := 52) hx hb dX10_kindOf_45 (by decide) (fun c12 => ?_) (fun c12 => ?_)
      · skip
        have i12_x11 : iv_R (-1) (-1) x11 := (i_x11.cutHi (n := (-1)) (iv_lt_r c12 q_0 (by decide)))
        refine lv_iconst (v := 1) hx hb dX10_kindOf_52 (by decide) ?_
        have hsg := tk_sgI (x := x1) (by rw [f1]; exact hby)
        rw [h1e] at hsg
        rw [show iv_len.getD 1 0 = 10 from rfl, f10] at ex11
        exact iv_iret X hr hlocks hB ⟨rfl, (q_1.wk (by decide)), (fun w _ => ⟨fun q => absurd q hnl, fun q => absurd q hnd, fun _ _ => ⟨fun q => by obtain ⟨k, q1, q2⟩ := hsg.mpr q; rcases ex11 with ⟨z1, z2⟩ | ⟨z1, z2⟩; exact absurd q2 (z2 k q1); exact absurd (Int32.lt_iff_toInt_lt.mp c12) (by have e0 : (0 : Int32).toInt = 0 := rfl; rw [e0]; omega), fun _ => rfl⟩⟩)⟩ dX10_kindOf_53
      · skip
        have i13_x11 : iv_R 0 254 x11 := (i_x11.cutLo (n := 0) (iv_le_l (iv_nlt c12) q_0))
        refine lv_iload_n hx hb dX10_kindOf_48 rfl (lv_at hl 0 rfl) ?_
        refine lv_goto (tgt := 53) hx hb dX10_kindOf_49 (by decide) ?_
        have hsg := tk_sgI (x := x1) (by rw [f1]; exact hby)
        rw [h1e] at hsg
        rw [show iv_len.getD 1 0 = 10 from rfl, f10] at ex11
        exact iv_iret X hr hlocks hB ⟨rfl, i_x1, (fun w _ => ⟨fun q => absurd q hnl, fun q => absurd q hnd, fun _ _ => ⟨fun _ => h1e, fun q => absurd (hsg.mp (by rcases ex11 with ⟨z1, z2⟩ | ⟨z1, z2⟩; exact absurd (Int32.lt_iff_toInt_lt.mpr (by have e0 : (0 : Int32).toInt = 0 := rfl; rw [e0]; exact z1)) c12; exact z2)) q⟩⟩)⟩ dX10_kindOf_53
    · skip
      have i14_x6 : iv_R 1 1 x6 := iv_ne_lo c8 i_x6 q_0 (by decide)
      have hd : tk_D ((g_h1 x_1.toInt.toNat).toInt) := by have w1 := ex6.mp c8; unfold tk_D; omega
      have i15_x1 : iv_R 48 57 x1 := ((i_x1.cutLo (n := 48) (hp7 c8).1).cutHi (n := 57) (hp7 c8).2)
      refine lv_iload_n hx hb dX10_kindOf_25 rfl (lv_at hl 3 rfl) ?_
      refine lv_iload_n hx hb dX10_kindOf_26 rfl (lv_at hl 2 rfl) ?_
      refine iv_isub hx hb i_x_2 i_x_1 (lo := (-398)) (hi := 400) (by decide) dX10_kindOf_27 (fun x17 e_x17 i_x17 => ?_)
      refine lv_iconst (v := 4) hx hb dX10_kindOf_28 (by decide) ?_
      refine lv_icmp_gt (tgt := 36) hx hb dX10_kindOf_29 (by decide) (fun c18 => ?_) (fun c18 => ?_)
      · skip
        have i18_x17 : iv_R 5 400 x17 := (i_x17.cutLo (n := 5) (iv_lt_l c18 q_4 (by decide)))
        refine lv_iconst (v := 1) hx hb dX10_kindOf_36 (by decide) ?_
        exact iv_iret X hr hlocks hB ⟨rfl, (q_1.wk (by decide)), (fun w _ => ⟨fun q => absurd q hnl, fun _ => ⟨fun q => absurd q (by have w1 : x17.toInt = x_2.toInt - x_1.toInt := e_x17; have w2 := i18_x17.1; have w3 := i_x_1.1; omega), fun _ => rfl⟩, fun _ q => absurd hd q⟩)⟩ dX10_kindOf_37
      · skip
        have i19_x17 : iv_R (-398) 4 x17 := (i_x17.cutHi (n := 4) (iv_le_r (iv_nlt c18) q_4))
        refine lv_iconst (v := 2) hx hb dX10_kindOf_32 (by decide) ?_
        refine lv_goto (tgt := 37) hx hb dX10_kindOf_33 (by decide) ?_
        exact iv_iret X hr hlocks hB ⟨rfl, (q_2.wk (by decide)), (fun w hw => ⟨fun q => absurd q hnl, fun _ => ⟨fun _ => ⟨rfl, hw rfl⟩, fun q => absurd q (by have w1 : x17.toInt = x_2.toInt - x_1.toInt := e_x17; have w2 := i19_x17.2; have w3 := i_x_1.1; omega)⟩, fun _ q => absurd hd q⟩)⟩ dX10_kindOf_37
  · skip
    have i20_x2 : iv_R 1 1 x2 := iv_ne_lo c4 i_x2 q_0 (by decide)
    have hL : tk_L ((g_h1 x_1.toInt.toNat).toInt) := by have w1 := ex2.mp c4; unfold tk_L; omega
    have hnD : ¬ tk_D ((g_h1 x_1.toInt.toNat).toInt) := by have w1 := ex2.mp c4; unfold tk_D; omega
    have i21_x1 : iv_R 65 122 x1 := ((i_x1.cutLo (n := 65) (hp3 c4).1).cutHi (n := 122) (hp3 c4).2)
    refine lv_aload_n hx hb dX10_kindOf_11 rfl (lv_at hl 1 rfl) ?_
    refine lv_iload_n hx hb dX10_kindOf_12 rfl (lv_at hl 2 rfl) ?_
    refine lv_iload_n hx hb dX10_kindOf_13 rfl (lv_at hl 3 rfl) ?_
    refine iv_cSi X k_good k_mf_X10_wordOf k_st_X10_wordOf k_ml_X10_42 hB (As := [.ref h1, .int x_1, .int x_2]) (e_X10_wordOf l D tys base G h1 g_h1 r_h1 a_h1 x_1 i_x_1 x_2 i_x_2 h12) ⟨rfl, rfl⟩ ⟨Nat.le_of_ble_eq_true rfl, Nat.le_of_ble_eq_true rfl⟩ ⟨Nat.le_of_ble_eq_true rfl, Nat.le_of_ble_eq_true rfl⟩ rfl rfl hl.1 (Nat.le_of_ble_eq_true rfl) dX10_kindOf_14 (fun x23 G9 H locs hq hB => ?_)
    obtain ⟨rfl, i_x23, ex23⟩ := hq
    exact iv_iret X hr hlocks hB ⟨rfl, i_x23, (fun w _ => ⟨fun _ => ex23, fun q => absurd q hnD, fun q => absurd hL q⟩)⟩ dX10_kindOf_17
set_option maxHeartbeats 4000000 in
set_option maxRecDepth 100000 in
theorem e_X10_read (l : Launch) (D : va_G) (tys : List (ClassId × FieldType)) (base : Nat) (G : iv_G) (h0 : Nat) (g_h0 : Nat → Int32) (r_h0 : Nat → Nat) (a_h0 : G h0 = some (10, g_h0, r_h0)) (h1 : Nat) (g_h1 : Nat → Int32) (r_h1 : Nat → Nat) (a_h1 : G h1 = some (45, g_h1, r_h1)) (x_1 : Int32) (i_x_1 : iv_R 0 400 x_1) (hby : ∀ i, i < x_1.toInt.toNat → iv_R 0 255 (g_h1 i)) : Met l yX10_read (Cond.code yX10_read cX10_read 7 none :: iv_W0) ({ frames := 6, cells := 0, slots := 0, locals := 135 }) (iv_Pc iv_sh D classes tys base G [.ref h0, .ref h1, .int x_1]) (iv_Qv iv_sh D classes tys base (fun G' => iv_Md [42, 43, 44] G G' ∧ (∃ (gk gv gp : Nat → Int32) (rk rv rp : Nat → Nat), G' (r_h0 0) = some (42, gk, rk) ∧ G' (r_h0 1) = some (43, gp, rp) ∧ G' (r_h0 2) = some (44, gv, rv) ∧ tk_R (tk_T g_h1 x_1.toInt.toNat) x_1.toInt.toNat (fun i => (gk i).toInt) (fun i => (gv i).toInt) (fun i => (gp i).toInt)))) 0 0 (iv_A base) := by
  refine iv_head (by decide) (Nat.le_of_ble_eq_true rfl) ?_
  intro p e s m args below meth c ls X hr hlocks hname hB hl
  have X := X
  have hx := X.1.1
  have hb := X.1.2.1
  have hM : iv_Md [42, 43, 44] G G := iv_Md.rf
  have hl : lv_has ls 7 [(0, .ref h0), (1, .ref h1), (2, .int x_1)] := hl
  obtain ⟨⟨gk0, rk0, h_k0⟩, ⟨gp0, rp0, h_p0⟩, ⟨gv0, rv0, h_v0⟩⟩ := iv_got10 hB a_h0
  refine lv_iconst (v := 0) hx hb dX10_read_0 (by decide) ?_
  refine lv_istore_n (lv' := [(3, .int 0), (0, .ref h0), (1, .ref h1), (2, .int x_1)]) hx hb dX10_read_1 rfl hl (by decide) rfl (fun ls hl => ?_)
  refine lv_iconst (v := 0) hx hb dX10_read_2 (by decide) ?_
  refine lv_istore (lv' := [(4, .int 0), (3, .int 0), (0, .ref h0), (1, .ref h1), (2, .int x_1)]) hx hb dX10_read_3 hl (by decide) rfl (fun ls hl => ?_)
  have L_5 : ∀ (n_5 : Nat) (G3 : iv_G) (hM : iv_Md [42, 43, 44] G G3) (H : Heap) (locs : List Loc) (hB : iv_B iv_sh D classes tys base G3 s.heap H locs) (a_h0 : G3 h0 = some (10, g_h0, r_h0)) (a_h1 : G3 h1 = some (45, g_h1, r_h1)) (x1 : Int32) (i_x1 : iv_R 0 400 x1) (x2 : Int32) (i_x2 : iv_R 0 400 x2) (hn_5 : (401 - x2.toInt).toNat < n_5) (inv_5 : 0 ≤ x1.toInt ∧ x1.toInt ≤ x2.toInt) (gi_5 : x2.toInt ≤ x_1.toInt ∧ x1.toInt = ((tk_c (tk_T g_h1 x_1.toInt.toNat) x_1.toInt.toNat x2.toInt.toNat : Nat) : Int) ∧ ∃ (gk gv gp : Nat → Int32) (rk rv rp : Nat → Nat), G3 (r_h0 0) = some (42, gk, rk) ∧ G3 (r_h0 1) = some (43, gp, rp) ∧ G3 (r_h0 2) = some (44, gv, rv) ∧ tk_J (tk_T g_h1 x_1.toInt.toNat) x_1.toInt.toNat x2.toInt.toNat gk gv gp) (ls : Array Slot) (hl : lv_has ls 7 [(4, .int x2), (3, .int x1), (0, .ref h0), (1, .ref h1), (2, .int x_1)]), W p l e ({ frames := 6, cells := 0, slots := 0, locals := 135 } : Room) s m args below meth c H locs 0 0 (MQ below (iv_Qv iv_sh D classes tys base (fun G' => iv_Md [42, 43, 44] G G' ∧ (∃ (gk gv gp : Nat → Int32) (rk rv rp : Nat → Nat), G' (r_h0 0) = some (42, gk, rk) ∧ G' (r_h0 1) = some (43, gp, rp) ∧ G' (r_h0 2) = some (44, gv, rv) ∧ tk_R (tk_T g_h1 x_1.toInt.toNat) x_1.toInt.toNat (fun i => (gk i).toInt) (fun i => (gv i).toInt) (fun i => (gp i).toInt)))) args s 0 0 (iv_A base)) (F0 m 5 ls []) := by
    intro n_5
    induction n_5 with
    | zero => intro G3 hM H locs hB a_h0 a_h1 x1 i_x1 x2 i_x2 hn_5 inv_5 gi_5 ls hl; exact absurd hn_5 (Nat.not_lt_zero _)
    | succ n_5 ih_5 =>
      intro G3 hM H locs hB a_h0 a_h1 x1 i_x1 x2 i_x2 hn_5 inv_5 gi_5 ls hl
      obtain ⟨hle, hC, gk, gv, gp, rk, rv, rp, h_k, h_p, h_v, hJ⟩ := gi_5
      have hx1c : x1.toInt.toNat = tk_c (tk_T g_h1 x_1.toInt.toNat) x_1.toInt.toNat x2.toInt.toNat := by omega
      refine lv_iload hx hb dX10_read_5 (lv_at hl 0 rfl) ?_
      refine lv_iload_n hx hb dX10_read_7 rfl (lv_at hl 4 rfl) ?_
      refine lv_icmp_ge (tgt := 118) hx hb dX10_read_8 (by decide) (fun c4 => ?_) (fun c4 => ?_)
      · skip
        refine lv_aload_n hx hb dX10_read_118 rfl (lv_at hl 2 rfl) ?_
        have hx2 : x2.toInt.toNat = x_1.toInt.toNat := by have w1 := Int32.le_iff_toInt_le.mp c4; omega
        refine iv_getr X ft_X10 hB a_h0 sh_10 0 (by decide) rfl k_fl_X10_9 dX10_read_119 (fun b5 g_b5 r_b5 e_b5 a_b5 => ?_)
        refine lv_iload_n hx hb dX10_read_122 rfl (lv_at hl 1 rfl) ?_
        refine lv_iconst (v := 0) hx hb dX10_read_123 (by decide) ?_
        refine iv_ast X hB a_b5 sh_42 (iv_in i_x1 (by decide)) (q_0.wk (by decide)) dX10_read_124 (fun H locs hB => ?_)
        have hm := iv_Md.ast (j := x1.toNatClampNeg) (x := 0) a_b5 rfl (by decide)
        have h9 := iv_up_eq (G := G3) (a := b5) (k := (42, upd g_b5 x1.toNatClampNeg 0, r_b5))
        generalize iv_up G3 b5 _ = G6 at hB hm h9
        have hM := hM.stp hm (by decide)
        have h_k : G6 (r_h0 0) = some (42, upd gk x1.toInt.toNat 0, r_b5) := by rw [← e_b5, ← iv_samew h_k e_b5 a_b5]; exact h9
        have h_p := hm.at h_p (by decide)
        have h_v := hm.at h_v (by decide)
        have a_h0 := hm.at a_h0 (by decide)
        have a_h1 := hm.at a_h1 (by decide)
        refine lv_aload_n hx hb dX10_read_125 rfl (lv_at hl 2 rfl) ?_
        refine iv_getr X ft_X10 hB a_h0 sh_10 1 (by decide) rfl k_fl_X10_15 dX10_read_126 (fun b8 g_b8 r_b8 e_b8 a_b8 => ?_)
        refine lv_iload_n hx hb dX10_read_129 rfl (lv_at hl 1 rfl) ?_
        refine lv_iload_n hx hb dX10_read_130 rfl (lv_at hl 4 rfl) ?_
        refine iv_ast X hB a_b8 sh_43 (iv_in i_x1 (by decide)) (i_x_1.wk (by decide)) dX10_read_131 (fun H locs hB => ?_)
        have hm := iv_Md.ast (j := x1.toNatClampNeg) (x := x_1) a_b8 rfl (by decide)
        have h9 := iv_up_eq (G := G6) (a := b8) (k := (43, upd g_b8 x1.toNatClampNeg x_1, r_b8))
        generalize iv_up G6 b8 _ = G9 at hB hm h9
        have hM := hM.stp hm (by decide)
        have h_p : G9 (r_h0 1) = some (43, upd gp x1.toInt.toNat x_1, r_b8) := by rw [← e_b8, ← iv_samew h_p e_b8 a_b8]; exact h9
        have h_k := hm.at h_k (by decide)
        have h_v := hm.at h_v (by decide)
        have a_h0 := hm.at a_h0 (by decide)
        have a_h1 := hm.at a_h1 (by decide)
        refine lv_aload_n hx hb dX10_read_132 rfl (lv_at hl 2 rfl) ?_
        refine iv_getr X ft_X10 hB a_h0 sh_10 2 (by decide) rfl k_fl_X10_18 dX10_read_133 (fun b11 g_b11 r_b11 e_b11 a_b11 => ?_)
        refine lv_iload_n hx hb dX10_read_136 rfl (lv_at hl 1 rfl) ?_
        refine lv_iconst (v := 0) hx hb dX10_read_137 (by decide) ?_
        refine iv_ast X hB a_b11 sh_44 (iv_in i_x1 (by decide)) (q_0.wk (by decide)) dX10_read_138 (fun H locs hB => ?_)
        have hm := iv_Md.ast (j := x1.toNatClampNeg) (x := 0) a_b11 rfl (by decide)
        have h9 := iv_up_eq (G := G9) (a := b11) (k := (44, upd g_b11 x1.toNatClampNeg 0, r_b11))
        generalize iv_up G9 b11 _ = G12 at hB hm h9
        have hM := hM.stp hm (by decide)
        have h_v : G12 (r_h0 2) = some (44, upd gv x1.toInt.toNat 0, r_b11) := by rw [← e_b11, ← iv_samew h_v e_b11 a_b11]; exact h9
        have h_k := hm.at h_k (by decide)
        have h_p := hm.at h_p (by decide)
        have a_h0 := hm.at a_h0 (by decide)
        have a_h1 := hm.at a_h1 (by decide)
        exact iv_vret X hr hlocks hB ⟨hM, _, _, _, _, _, _, h_k, h_p, h_v, by rw [hx1c, hx2]; rw [hx2] at hJ; exact hJ.fin rfl (by have w1 := i_x_1.1; omega)⟩ dX10_read_139
      · skip
        have i13_x2 : iv_R 0 399 x2 := (i_x2.cutHi (n := 399) (iv_lt_r (iv_nle c4) i_x_1 (by decide)))
        have i14_x_1 : iv_R 1 400 x_1 := (i_x_1.cutLo (n := 1) (iv_lt_l (iv_nle c4) i_x2 (by decide)))
        have hlt : x2.toInt < x_1.toInt := by have w1 := mt Int32.le_iff_toInt_le.mpr c4; omega
        have hx2n : x2.toInt.toNat < x_1.toInt.toNat := by have w1 := i13_x2.1; omega
        refine lv_aload_n hx hb dX10_read_11 rfl (lv_at hl 3 rfl) ?_
        refine lv_iload hx hb dX10_read_12 (lv_at hl 0 rfl) ?_
        refine iv_ald X hB a_h1 sh_45 (iv_in i13_x2 (by decide)) dX10_read_14 (fun x16 e_x16 i_x16 => ?_)
        have f16 : x16.toInt = (g_h1 x2.toInt.toNat).toInt := congrArg Int32.toInt e_x16
        refine lv_bipush (v := 32) hx hb dX10_read_15 (by decide) ?_
        refine lv_icmp_eq (tgt := 29) hx hb dX10_read_17 (by decide) (fun c17 => ?_) (fun c17 => ?_)
        · skip
          have i17_x16 : iv_R 32 32 x16 := ((i_x16.cutLo (n := 32) (iv_eq_r c17 q_32).1).cutHi (n := 32) (iv_eq_r c17 q_32).2)
          refine lv_iconst (v := 1) hx hb dX10_read_29 (by decide) ?_
          refine lv_goto (tgt := 34) hx hb dX10_read_30 (by decide) ?_
          refine lv_istore (lv' := [(5, .int 1), (4, .int x2), (3, .int x1), (0, .ref h0), (1, .ref h1), (2, .int x_1)]) hx hb dX10_read_34 hl (by decide) rfl (fun ls hl => ?_)
          refine lv_iload hx hb dX10_read_36 (lv_at hl 0 rfl) ?_
          refine lv_if_ne (tgt := 112) hx hb dX10_read_38 (by decide) (fun c19 => ?_) (fun c19 => ?_)
          · skip
            refine iv_iinc hx hb i13_x2 (lo := 1) (hi := 400) (by decide) dX10_read_112 hl (k := 1) rfl (by decide) (fun x20 ls e_x20 i_x20 hl => ?_)
            have hl : lv_has ls 7 [(4, .int x20), (5, .int 1), (3, .int x1), (0, .ref h0), (1, .ref h1), (2, .int x_1)] := hl
            refine lv_goto (tgt := 5) hx hb dX10_read_115 (by decide) ?_
            exact ih_5 G3 hM _ _ hB a_h0 a_h1 x1 i_x1 x20 (i_x20.wk (by decide)) (iv_mup (c := 1) i_x2 (by decide) (by decide) (by omega) hn_5) ⟨by omega, by omega⟩ ⟨by have w1 : x20.toInt = x2.toInt + 1 := e_x20; omega, by rw [show x20.toInt.toNat = x2.toInt.toNat + 1 from by (have w1 : x20.toInt = x2.toInt + 1 := e_x20; have w2 := i13_x2.1; omega), tk_c.no (fun q => q.2.1 (Or.inl (by rw [tk_T.at hx2n, ← f16]; exact congrArg Int32.toInt c17)))]; exact hC, gk, gv, gp, rk, rv, rp, h_k, h_p, h_v, by rw [show x20.toInt.toNat = x2.toInt.toNat + 1 from by (have w1 : x20.toInt = x2.toInt + 1 := e_x20; have w2 := i13_x2.1; omega)]; exact hJ.no (fun q => q.2.1 (Or.inl (by rw [tk_T.at hx2n, ← f16]; exact congrArg Int32.toInt c17)))⟩ _ (lv_sub hl [0, 2, 3, 4, 5] rfl)
          · skip
            exact (q_1.cutHi (n := 0) (iv_eq_r c19 q_0).2).no (by decide)
        · skip
          refine lv_aload_n hx hb dX10_read_20 rfl (lv_at hl 3 rfl) ?_
          refine lv_iload hx hb dX10_read_21 (lv_at hl 0 rfl) ?_
          refine iv_ald X hB a_h1 sh_45 (iv_in i13_x2 (by decide)) dX10_read_23 (fun x21 e_x21 i_x21 => ?_)
          have f21 : x21.toInt = (g_h1 x2.toInt.toNat).toInt := congrArg Int32.toInt e_x21
          refine lv_bipush (v := 10) hx hb dX10_read_24 (by decide) ?_
          refine lv_icmp_ne (tgt := 33) hx hb dX10_read_26 (by decide) (fun c22 => ?_) (fun c22 => ?_)
          · skip
            refine lv_iconst (v := 0) hx hb dX10_read_33 (by decide) ?_
            refine lv_istore (lv' := [(5, .int 0), (4, .int x2), (3, .int x1), (0, .ref h0), (1, .ref h1), (2, .int x_1)]) hx hb dX10_read_34 hl (by decide) rfl (fun ls hl => ?_)
            refine lv_iload hx hb dX10_read_36 (lv_at hl 0 rfl) ?_
            refine lv_if_ne (tgt := 112) hx hb dX10_read_38 (by decide) (fun c23 => ?_) (fun c23 => ?_)
            · skip
              exact absurd rfl c23
            · skip
              refine lv_aload_n hx hb dX10_read_41 rfl (lv_at hl 4 rfl) ?_
              refine lv_iload hx hb dX10_read_42 (lv_at hl 1 rfl) ?_
              refine iv_cSi X k_good k_mf_X10_goesOn k_st_X10_goesOn k_ml_X10_21 hB (As := [.ref h1, .int x2]) (e_X10_goesOn l D tys base G3 h1 g_h1 r_h1 a_h1 x2 i13_x2) ⟨rfl, rfl⟩ ⟨Nat.le_of_ble_eq_true rfl, Nat.le_of_ble_eq_true rfl⟩ ⟨Nat.le_of_ble_eq_true rfl, Nat.le_of_ble_eq_true rfl⟩ rfl rfl hl.1 (Nat.le_of_ble_eq_true rfl) dX10_read_44 (fun x24 G9 H locs hq hB => ?_)
              obtain ⟨rfl, i_x24, hp25, ex24⟩ := hq
              refine lv_if_ne (tgt := 112) hx hb dX10_read_47 (by decide) (fun c26 => ?_) (fun c26 => ?_)
              · skip
                have i26_x24 : iv_R 1 1 x24 := iv_ne_lo c26 i_x24 q_0 (by decide)
                have i27_x2 : iv_R 1 399 x2 := (i13_x2.cutLo (n := 1) (hp25 c26).1)
                refine iv_iinc hx hb i27_x2 (lo := 2) (hi := 400) (by decide) dX10_read_112 hl (k := 1) rfl (by decide) (fun x29 ls e_x29 i_x29 hl => ?_)
                have hl : lv_has ls 7 [(4, .int x29), (5, .int 0), (3, .int x1), (0, .ref h0), (1, .ref h1), (2, .int x_1)] := hl
                refine lv_goto (tgt := 5) hx hb dX10_read_115 (by decide) ?_
                exact ih_5 G3 hM _ _ hB a_h0 a_h1 x1 i_x1 x29 (i_x29.wk (by decide)) (iv_mup (c := 1) i_x2 (by decide) (by decide) (by omega) hn_5) ⟨by omega, by omega⟩ ⟨by have w1 : x29.toInt = x2.toInt + 1 := e_x29; omega, by rw [show x29.toInt.toNat = x2.toInt.toNat + 1 from by (have w1 : x29.toInt = x2.toInt + 1 := e_x29; have w2 := i13_x2.1; omega), tk_c.no (fun q => q.2.2 ((tk_G.raw hx2n).mpr (ex24.mp c26)))]; exact hC, gk, gv, gp, rk, rv, rp, h_k, h_p, h_v, by rw [show x29.toInt.toNat = x2.toInt.toNat + 1 from by (have w1 : x29.toInt = x2.toInt + 1 := e_x29; have w2 := i13_x2.1; omega)]; exact hJ.no (fun q => q.2.2 ((tk_G.raw hx2n).mpr (ex24.mp c26)))⟩ _ (lv_sub hl [0, 2, 3, 4, 5] rfl)
              · skip
                have i29_x24 : iv_R 0 0 x24 := (i_x24.cutHi (n := 0) (iv_eq_r c26 q_0).2)
                have hS : tk_S (tk_T g_h1 x_1.toInt.toNat) x_1.toInt.toNat x2.toInt.toNat := ⟨hx2n, by rw [tk_T.at hx2n]; unfold tk_B; have w1 := mt Int32.toInt_inj.mp c17; have w2 := mt Int32.toInt_inj.mp c22; have e32 : (32 : Int32).toInt = 32 := rfl; have e10 : (10 : Int32).toInt = 10 := rfl; omega, fun q => (ex24.mpr ((tk_G.raw hx2n).mp q)) c26⟩
                refine lv_aload_n hx hb dX10_read_50 rfl (lv_at hl 4 rfl) ?_
                refine lv_iload hx hb dX10_read_51 (lv_at hl 1 rfl) ?_
                refine lv_iload_n hx hb dX10_read_53 rfl (lv_at hl 5 rfl) ?_
                refine iv_cSi X k_good k_mf_X10_behindToken k_st_X10_behindToken k_ml_X10_25 hB (As := [.ref h1, .int x2, .int x_1]) (e_X10_behindToken l D tys base G3 h1 g_h1 r_h1 a_h1 x2 i13_x2 x_1 i14_x_1 hlt) ⟨rfl, rfl⟩ ⟨Nat.le_of_ble_eq_true rfl, Nat.le_of_ble_eq_true rfl⟩ ⟨Nat.le_of_ble_eq_true rfl, Nat.le_of_ble_eq_true rfl⟩ rfl rfl hl.1 (Nat.le_of_ble_eq_true rfl) dX10_read_54 (fun x31 G9 H locs hq hB => ?_)
                obtain ⟨rfl, i_x31, hE⟩ := hq
                have hcg : ∀ x, x2.toInt.toNat ≤ x → x < x31.toInt.toNat → (fun i => (g_h1 i).toInt) x = (tk_T g_h1 x_1.toInt.toNat) x := fun x _ q => (tk_T.at (by have w1 := hE.2.1; omega)).symm
                refine lv_istore (lv' := [(6, .int x31), (5, .int 0), (4, .int x2), (3, .int x1), (0, .ref h0), (1, .ref h1), (2, .int x_1)]) hx hb dX10_read_57 hl (by decide) rfl (fun ls hl => ?_)
                refine lv_aload_n hx hb dX10_read_59 rfl (lv_at hl 4 rfl) ?_
                refine iv_getr X ft_X10 hB a_h0 sh_10 1 (by decide) rfl k_fl_X10_15 dX10_read_60 (fun b32 g_b32 r_b32 e_b32 a_b32 => ?_)
                refine lv_iload_n hx hb dX10_read_63 rfl (lv_at hl 3 rfl) ?_
                refine lv_iload hx hb dX10_read_64 (lv_at hl 2 rfl) ?_
                refine iv_ast X hB a_b32 sh_43 (iv_in i_x1 (by decide)) (i13_x2.wk (by decide)) dX10_read_66 (fun H locs hB => ?_)
                have hm := iv_Md.ast (j := x1.toNatClampNeg) (x := x2) a_b32 rfl (by decide)
                have h9 := iv_up_eq (G := G3) (a := b32) (k := (43, upd g_b32 x1.toNatClampNeg x2, r_b32))
                generalize iv_up G3 b32 _ = G33 at hB hm h9
                have hM := hM.stp hm (by decide)
                have h_p : G33 (r_h0 1) = some (43, upd gp x1.toInt.toNat x2, r_b32) := by rw [← e_b32, ← iv_samew h_p e_b32 a_b32]; exact h9
                have h_k := hm.at h_k (by decide)
                have h_v := hm.at h_v (by decide)
                have a_h0 := hm.at a_h0 (by decide)
                have a_h1 := hm.at a_h1 (by decide)
                refine lv_aload_n hx hb dX10_read_67 rfl (lv_at hl 4 rfl) ?_
                refine iv_getr X ft_X10 hB a_h0 sh_10 0 (by decide) rfl k_fl_X10_9 dX10_read_68 (fun b35 g_b35 r_b35 e_b35 a_b35 => ?_)
                refine lv_iload_n hx hb dX10_read_71 rfl (lv_at hl 3 rfl) ?_
                refine lv_aload_n hx hb dX10_read_72 rfl (lv_at hl 5 rfl) ?_
                refine lv_iload hx hb dX10_read_73 (lv_at hl 2 rfl) ?_
                refine lv_iload hx hb dX10_read_75 (lv_at hl 0 rfl) ?_
                refine iv_cSi X k_good k_mf_X10_kindOf k_st_X10_kindOf k_ml_X10_29 hB (As := [.ref h1, .int x2, .int x31]) (e_X10_kindOf l D tys base G33 h1 g_h1 r_h1 a_h1 x2 i13_x2 x31 i_x31 (by have w1 := hE.1; omega) (hby _ (by omega))) ⟨rfl, rfl⟩ ⟨Nat.le_of_ble_eq_true rfl, Nat.le_of_ble_eq_true rfl⟩ ⟨Nat.le_of_ble_eq_true rfl, Nat.le_of_ble_eq_true rfl⟩ rfl rfl hl.1 (Nat.le_of_ble_eq_true rfl) dX10_read_77 (fun x36 G9 H locs hq hB => ?_)
                obtain ⟨rfl, i_x36, ex36⟩ := hq
                refine iv_ast X hB a_b35 sh_42 (iv_in i_x1 (by decide)) i_x36 dX10_read_80 (fun H locs hB => ?_)
                have hm := iv_Md.ast (j := x1.toNatClampNeg) (x := x36) a_b35 rfl (by decide)
                have h9 := iv_up_eq (G := G33) (a := b35) (k := (42, upd g_b35 x1.toNatClampNeg x36, r_b35))
                generalize iv_up G33 b35 _ = G37 at hB hm h9
                have hM := hM.stp hm (by decide)
                have h_k : G37 (r_h0 0) = some (42, upd gk x1.toInt.toNat x36, r_b35) := by rw [← e_b35, ← iv_samew h_k e_b35 a_b35]; exact h9
                have h_p := hm.at h_p (by decide)
                have h_v := hm.at h_v (by decide)
                have a_h0 := hm.at a_h0 (by decide)
                have a_h1 := hm.at a_h1 (by decide)
                refine lv_aload_n hx hb dX10_read_81 rfl (lv_at hl 4 rfl) ?_
                refine iv_getr X ft_X10 hB a_h0 sh_10 2 (by decide) rfl k_fl_X10_18 dX10_read_82 (fun b39 g_b39 r_b39 e_b39 a_b39 => ?_)
                refine lv_iload_n hx hb dX10_read_85 rfl (lv_at hl 3 rfl) ?_
                refine lv_aload_n hx hb dX10_read_86 rfl (lv_at hl 4 rfl) ?_
                refine iv_getr X ft_X10 hB a_h0 sh_10 0 (by decide) rfl k_fl_X10_9 dX10_read_87 (fun b40 g_b40 r_b40 e_b40 a_b40 => ?_)
                refine lv_iload_n hx hb dX10_read_90 rfl (lv_at hl 3 rfl) ?_
                refine iv_ald X hB a_b40 sh_42 (iv_in i_x1 (by decide)) dX10_read_91 (fun x41 e_x41 i_x41 => ?_)
                have f41 : x41 = x36 := by
                  have w : x41 = g_b40 x1.toInt.toNat := e_x41
                  rw [iv_samew h_k e_b40 a_b40] at w
                  exact w.trans (if_pos rfl)
                refine lv_iconst (v := 2) hx hb dX10_read_92 (by decide) ?_
                refine lv_icmp_ne (tgt := 107) hx hb dX10_read_93 (by decide) (fun c42 => ?_) (fun c42 => ?_)
                · skip
                  refine lv_iconst (v := 0) hx hb dX10_read_107 (by decide) ?_
                  refine iv_ast X hB a_b39 sh_44 (iv_in i_x1 (by decide)) (q_0.wk (by decide)) dX10_read_108 (fun H locs hB => ?_)
                  have hm := iv_Md.ast (j := x1.toNatClampNeg) (x := 0) a_b39 rfl (by decide)
                  have h9 := iv_up_eq (G := G37) (a := b39) (k := (44, upd g_b39 x1.toNatClampNeg 0, r_b39))
                  generalize iv_up G37 b39 _ = G43 at hB hm h9
                  have hM := hM.stp hm (by decide)
                  have h_v : G43 (r_h0 2) = some (44, upd gv x1.toInt.toNat 0, r_b39) := by rw [← e_b39, ← iv_samew h_v e_b39 a_b39]; exact h9
                  have h_k := hm.at h_k (by decide)
                  have h_p := hm.at h_p (by decide)
                  have a_h0 := hm.at a_h0 (by decide)
                  have a_h1 := hm.at a_h1 (by decide)
                  refine iv_iinc hx hb i_x1 (lo := 1) (hi := 401) (by decide) dX10_read_109 hl (k := 3) rfl (by decide) (fun x45 ls e_x45 i_x45 hl => ?_)
                  have hl : lv_has ls 7 [(3, .int x45), (6, .int x31), (5, .int 0), (4, .int x2), (0, .ref h0), (1, .ref h1), (2, .int x_1)] := hl
                  refine iv_iinc hx hb i13_x2 (lo := 1) (hi := 400) (by decide) dX10_read_112 hl (k := 3) rfl (by decide) (fun x46 ls e_x46 i_x46 hl => ?_)
                  have hl : lv_has ls 7 [(4, .int x46), (3, .int x45), (6, .int x31), (5, .int 0), (0, .ref h0), (1, .ref h1), (2, .int x_1)] := hl
                  refine lv_goto (tgt := 5) hx hb dX10_read_115 (by decide) ?_
                  exact ih_5 G43 hM _ _ hB a_h0 a_h1 x45 ⟨by omega, by have w9 := i_x46.2; omega⟩ x46 (i_x46.wk (by decide)) (iv_mup (c := 1) i_x2 (by decide) (by decide) (by omega) hn_5) ⟨by omega, by omega⟩ ⟨by have w1 : x46.toInt = x2.toInt + 1 := e_x46; omega, by rw [show x46.toInt.toNat = x2.toInt.toNat + 1 from by (have w1 : x46.toInt = x2.toInt + 1 := e_x46; have w2 := i13_x2.1; omega), tk_c.ok hS]; have w1 : x45.toInt = x1.toInt + 1 := e_x45; omega, _, _, _, _, _, _, h_k, h_p, h_v, by rw [show x46.toInt.toNat = x2.toInt.toNat + 1 from by (have w1 : x46.toInt = x2.toInt + 1 := e_x46; have w2 := i13_x2.1; omega), hx1c]; exact hJ.ok hE ((ex36 (0 : Int32).toInt (fun q => absurd (Int32.toInt_inj.mp (q.trans (show (2 : Int) = (2 : Int32).toInt from rfl))) (fun q => c42 (f41.trans q)))).cg hcg (by have w1 := hE.1; omega)) (by have w1 := i13_x2.1; omega)⟩ _ (lv_sub hl [0, 1, 4, 5, 6] rfl)
                · skip
                  have i46_x41 : iv_R 2 2 x41 := ((i_x41.cutLo (n := 2) (iv_eq_r c42 q_2).1).cutHi (n := 2) (iv_eq_r c42 q_2).2)
                  have h2k := tk_KV.two (ex36 _ (fun _ => rfl)) (by rw [← f41]; exact congrArg Int32.toInt c42)
                  refine lv_aload_n hx hb dX10_read_96 rfl (lv_at hl 5 rfl) ?_
                  refine lv_iload hx hb dX10_read_97 (lv_at hl 2 rfl) ?_
                  refine lv_iload hx hb dX10_read_99 (lv_at hl 0 rfl) ?_
                  refine iv_cSi X k_good k_mf_X10_numberOf k_st_X10_numberOf k_ml_X10_32 hB (As := [.ref h1, .int x2, .int x31]) (e_X10_numberOf l D tys base G37 h1 g_h1 r_h1 a_h1 x2 i13_x2 x31 i_x31 (by have w1 := hE.1; omega) (by have w1 := h2k.2; have w2 := i13_x2.1; omega) (fun j hj => by have w := tk_run hE (by rw [tk_T.at hx2n]; exact h2k.1) j hj; rw [tk_T.at (by have w3 := hE.2.1; omega)] at w; exact w)) ⟨rfl, rfl⟩ ⟨Nat.le_of_ble_eq_true rfl, Nat.le_of_ble_eq_true rfl⟩ ⟨Nat.le_of_ble_eq_true rfl, Nat.le_of_ble_eq_true rfl⟩ rfl rfl hl.1 (Nat.le_of_ble_eq_true rfl) dX10_read_101 (fun x48 G9 H locs hq hB => ?_)
                  obtain ⟨rfl, i_x48, ex48⟩ := hq
                  refine lv_goto (tgt := 108) hx hb dX10_read_104 (by decide) ?_
                  refine iv_ast X hB a_b39 sh_44 (iv_in i_x1 (by decide)) i_x48 dX10_read_108 (fun H locs hB => ?_)
                  have hm := iv_Md.ast (j := x1.toNatClampNeg) (x := x48) a_b39 rfl (by decide)
                  have h9 := iv_up_eq (G := G37) (a := b39) (k := (44, upd g_b39 x1.toNatClampNeg x48, r_b39))
                  generalize iv_up G37 b39 _ = G49 at hB hm h9
                  have hM := hM.stp hm (by decide)
                  have h_v : G49 (r_h0 2) = some (44, upd gv x1.toInt.toNat x48, r_b39) := by rw [← e_b39, ← iv_samew h_v e_b39 a_b39]; exact h9
                  have h_k := hm.at h_k (by decide)
                  have h_p := hm.at h_p (by decide)
                  have a_h0 := hm.at a_h0 (by decide)
                  have a_h1 := hm.at a_h1 (by decide)
                  refine iv_iinc hx hb i_x1 (lo := 1) (hi := 401) (by decide) dX10_read_109 hl (k := 3) rfl (by decide) (fun x51 ls e_x51 i_x51 hl => ?_)
                  have hl : lv_has ls 7 [(3, .int x51), (6, .int x31), (5, .int 0), (4, .int x2), (0, .ref h0), (1, .ref h1), (2, .int x_1)] := hl
                  refine iv_iinc hx hb i13_x2 (lo := 1) (hi := 400) (by decide) dX10_read_112 hl (k := 3) rfl (by decide) (fun x52 ls e_x52 i_x52 hl => ?_)
                  have hl : lv_has ls 7 [(4, .int x52), (3, .int x51), (6, .int x31), (5, .int 0), (0, .ref h0), (1, .ref h1), (2, .int x_1)] := hl
                  refine lv_goto (tgt := 5) hx hb dX10_read_115 (by decide) ?_
                  exact ih_5 G49 hM _ _ hB a_h0 a_h1 x51 ⟨by omega, by have w9 := i_x52.2; omega⟩ x52 (i_x52.wk (by decide)) (iv_mup (c := 1) i_x2 (by decide) (by decide) (by omega) hn_5) ⟨by omega, by omega⟩ ⟨by have w1 : x52.toInt = x2.toInt + 1 := e_x52; omega, by rw [show x52.toInt.toNat = x2.toInt.toNat + 1 from by (have w1 : x52.toInt = x2.toInt + 1 := e_x52; have w2 := i13_x2.1; omega), tk_c.ok hS]; have w1 : x51.toInt = x1.toInt + 1 := e_x51; omega, _, _, _, _, _, _, h_k, h_p, h_v, by rw [show x52.toInt.toNat = x2.toInt.toNat + 1 from by (have w1 : x52.toInt = x2.toInt + 1 := e_x52; have w2 := i13_x2.1; omega), hx1c]; exact hJ.ok hE ((ex36 x48.toInt (fun _ => ex48)).cg hcg (by have w1 := hE.1; omega)) (by have w1 := i13_x2.1; omega)⟩ _ (lv_sub hl [0, 1, 4, 5, 6] rfl)
          · skip
            have i52_x21 : iv_R 10 10 x21 := ((i_x21.cutLo (n := 10) (iv_eq_r c22 q_10).1).cutHi (n := 10) (iv_eq_r c22 q_10).2)
            refine lv_iconst (v := 1) hx hb dX10_read_29 (by decide) ?_
            refine lv_goto (tgt := 34) hx hb dX10_read_30 (by decide) ?_
            refine lv_istore (lv' := [(5, .int 1), (4, .int x2), (3, .int x1), (0, .ref h0), (1, .ref h1), (2, .int x_1)]) hx hb dX10_read_34 hl (by decide) rfl (fun ls hl => ?_)
            refine lv_iload hx hb dX10_read_36 (lv_at hl 0 rfl) ?_
            refine lv_if_ne (tgt := 112) hx hb dX10_read_38 (by decide) (fun c54 => ?_) (fun c54 => ?_)
            · skip
              refine iv_iinc hx hb i13_x2 (lo := 1) (hi := 400) (by decide) dX10_read_112 hl (k := 1) rfl (by decide) (fun x55 ls e_x55 i_x55 hl => ?_)
              have hl : lv_has ls 7 [(4, .int x55), (5, .int 1), (3, .int x1), (0, .ref h0), (1, .ref h1), (2, .int x_1)] := hl
              refine lv_goto (tgt := 5) hx hb dX10_read_115 (by decide) ?_
              exact ih_5 G3 hM _ _ hB a_h0 a_h1 x1 i_x1 x55 (i_x55.wk (by decide)) (iv_mup (c := 1) i_x2 (by decide) (by decide) (by omega) hn_5) ⟨by omega, by omega⟩ ⟨by have w1 : x55.toInt = x2.toInt + 1 := e_x55; omega, by rw [show x55.toInt.toNat = x2.toInt.toNat + 1 from by (have w1 : x55.toInt = x2.toInt + 1 := e_x55; have w2 := i13_x2.1; omega), tk_c.no (fun q => q.2.1 (Or.inr (by rw [tk_T.at hx2n, ← f21]; exact congrArg Int32.toInt c22)))]; exact hC, gk, gv, gp, rk, rv, rp, h_k, h_p, h_v, by rw [show x55.toInt.toNat = x2.toInt.toNat + 1 from by (have w1 : x55.toInt = x2.toInt + 1 := e_x55; have w2 := i13_x2.1; omega)]; exact hJ.no (fun q => q.2.1 (Or.inr (by rw [tk_T.at hx2n, ← f21]; exact congrArg Int32.toInt c22)))⟩ _ (lv_sub hl [0, 2, 3, 4, 5] rfl)
            · skip
              exact (q_1.cutHi (n := 0) (iv_eq_r c54 q_0).2).no (by decide)
  exact L_5 _ G hM _ _ hB a_h0 a_h1 0 (q_0.wk (by decide)) 0 (q_0.wk (by decide)) (Nat.lt_succ_self _) ⟨by decide, Int.le_refl _⟩ ⟨i_x_1.1, by rfl, gk0, gv0, gp0, rk0, rv0, rp0, h_k0, h_p0, h_v0, fun p e hp => absurd hp (by have z0 : (0 : Int32).toInt = 0 := rfl; rw [z0]; exact Nat.not_lt_zero _)⟩ _ (lv_sub hl [0, 1, 2, 3, 4] rfl)
