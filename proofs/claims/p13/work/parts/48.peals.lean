/-! the peals: what the table of onwards says, as far as their loops need it -/
def iv_pa (a b : Int32) : Int := if a.toInt < b.toInt then b.toInt - a.toInt else a.toInt - b.toInt
def iv_CF (gp gw : Nat → Int32) (i L S : Nat) : Prop := S / 2 ^ i % 2 = 0 ∧ (L = 8 ∨ ¬ iv_pa (gw (66 + 8 * (gp i).toInt.toNat + 1)) (gw (66 + 8 * (gp L).toInt.toNat + 1)) < (gw 147).toInt)
def iv_PN (gp gw : Nat → Int32) (m : Nat) (go : Nat → Int32) (S L : Nat) : Prop := ¬ go (9 * S + L) = 0 → S = 2 ^ m - 1 ∨ ∃ i, i < m ∧ iv_CF gp gw i L S ∧ ¬ go (9 * (S ||| 2 ^ i) + i) = 0
def iv_P1 (gp gw : Nat → Int32) (m : Nat) (go : Nat → Int32) (s : Int) : Prop := ∀ S L : Nat, s < (S : Int) → S < 2 ^ m → L ≤ 8 → iv_PN gp gw m go S L
def iv_P3 (gp gw : Nat → Int32) (m : Nat) (go : Nat → Int32) (S L : Nat) (n : Int32) (i : Int) : Prop := ¬ n = 0 → S = 2 ^ m - 1 ∨ ∃ j : Nat, (j : Int) < i ∧ j < m ∧ iv_CF gp gw j L S ∧ ¬ go (9 * (S ||| 2 ^ j) + j) = 0
theorem iv_bN1 : ∀ S : Fin 256, ∀ i : Fin 8, S.val / 2 ^ i.val % 2 = 0 → S.val + 1 ≤ S.val ||| 2 ^ i.val := by decide +kernel
theorem iv_bN2 : ∀ S : Fin 256, ∀ i : Fin 8, S.val ≤ S.val ||| 2 ^ i.val := by decide +kernel
def iv_pcb (S : Nat) : Nat := S / 2 ^ 0 % 2 + S / 2 ^ 1 % 2 + S / 2 ^ 2 % 2 + S / 2 ^ 3 % 2 + S / 2 ^ 4 % 2 + S / 2 ^ 5 % 2 + S / 2 ^ 6 % 2 + S / 2 ^ 7 % 2
theorem iv_bN3 : ∀ S : Fin 256, ∀ i : Fin 8, S.val / 2 ^ i.val % 2 = 0 → iv_pcb (S.val ||| 2 ^ i.val) = iv_pcb S.val + 1 := by decide +kernel
theorem iv_bN4 : ∀ m : Fin 9, ∀ S : Fin 256, ∀ i : Fin 8, i.val < m.val → S.val < 2 ^ m.val → S.val ||| 2 ^ i.val < 2 ^ m.val := by decide +kernel
theorem iv_bN5 : ∀ m : Fin 9, iv_pcb (2 ^ m.val - 1) = m.val := by decide +kernel
theorem iv_bN6 : ∀ S : Fin 256, ∀ i : Fin 8, (S.val.toInt32 ||| (2 ^ i.val).toInt32).toInt = ((S.val ||| 2 ^ i.val : Nat) : Int) := by decide +kernel
theorem iv_bN7 : ∀ S : Fin 256, ∀ i : Fin 8, ((S.val.toInt32 >>> (i.val.toInt32 &&& 31)) &&& 1 = 0) ↔ S.val / 2 ^ i.val % 2 = 0 := by decide +kernel
theorem iv_nIx {x : Int32} {n : Int} (h : iv_R 0 n x) (hn : n ≤ 1000000) : x.toInt.toNat.toInt32 = x := by
  have h1 := h.1
  have h2 := h.2
  exact Int32.toInt_inj.mp ((nI_toInt (by omega)).trans (by omega))
theorem iv_bor {x y z i : Int32} (hx : iv_R 0 255 x) (hi : iv_R 0 7 i) (hy : y.toInt = 2 ^ i.toInt.toNat) (hz : z = x ||| y) : z.toInt = ((x.toInt.toNat ||| 2 ^ i.toInt.toNat : Nat) : Int) := by
  have h1 := hx.1
  have h2 := hx.2
  have h3 := hi.1
  have h4 := hi.2
  have e := iv_bN6 ⟨x.toInt.toNat, by omega⟩ ⟨i.toInt.toNat, by omega⟩
  have e : (x.toInt.toNat.toInt32 ||| (2 ^ i.toInt.toNat).toInt32).toInt = _ := e
  rw [iv_nIx hx (by decide)] at e
  have hp : (2 : Nat) ^ i.toInt.toNat ≤ 2 ^ 7 := Nat.pow_le_pow_right (by decide) (by omega)
  have ey : (2 ^ i.toInt.toNat).toInt32 = y := by
    refine Int32.toInt_inj.mp ((nI_toInt (by omega)).trans ?_)
    rw [hy]
    exact Int.natCast_pow 2 _
  rw [ey] at e
  rw [hz]
  exact e
theorem iv_bbit {x i a b : Int32} (hx : iv_R 0 255 x) (hi : iv_R 0 7 i) (ha : a = x >>> (i &&& 31)) (hb : b = a &&& 1) : b = 0 ↔ x.toInt.toNat / 2 ^ i.toInt.toNat % 2 = 0 := by
  have h1 := hx.1
  have h2 := hx.2
  have h3 := hi.1
  have h4 := hi.2
  have e := iv_bN7 ⟨x.toInt.toNat, by omega⟩ ⟨i.toInt.toNat, by omega⟩
  have e : ((x.toInt.toNat.toInt32 >>> (i.toInt.toNat.toInt32 &&& 31)) &&& 1 = 0) ↔ _ := e
  rw [iv_nIx hx (by decide), iv_nIx hi (by decide)] at e
  rw [hb, ha]
  exact e
theorem iv_CF.inc {gp gw : Nat → Int32} {i L S : Nat} (h : iv_CF gp gw i L S) (hS : S < 256) (hi : i < 8) : S + 1 ≤ S ||| 2 ^ i := iv_bN1 ⟨S, hS⟩ ⟨i, hi⟩ h.1
theorem iv_PN.store {gp gw : Nat → Int32} {m S0 L0 S L : Nat} {go : Nat → Int32} {n : Int32} (h : iv_PN gp gw m go S L) (h1 : 9 * S + L ≠ 9 * S0 + L0) (h2 : ∀ i, i < m → iv_CF gp gw i L S → 9 * (S ||| 2 ^ i) + i ≠ 9 * S0 + L0) : iv_PN gp gw m (upd go (9 * S0 + L0) n) S L := by
  intro hne
  have e1 : upd go (9 * S0 + L0) n (9 * S + L) = go (9 * S + L) := by
    unfold upd
    exact if_neg h1
  rw [e1] at hne
  rcases h hne with q | ⟨i, q1, q2, q3⟩
  · exact Or.inl q
  · refine Or.inr ⟨i, q1, q2, ?_⟩
    have e2 : upd go (9 * S0 + L0) n (9 * (S ||| 2 ^ i) + i) = go (9 * (S ||| 2 ^ i) + i) := by
      unfold upd
      exact if_neg (h2 i q1 q2)
    rw [e2]
    exact q3
theorem iv_lay.next {gp gw : Nat → Int32} {m S L : Nat} {go : Nat → Int32} {n : Int32} {t : Int} (hm : m ≤ 8) (hS : S < 2 ^ m) (hL : L ≤ 8) (h1 : iv_P1 gp gw m go (S : Int)) (h2 : ∀ K : Nat, (K : Int) < (L : Int) → iv_PN gp gw m go S K) (h3 : iv_P3 gp gw m go S L n t) : iv_P1 gp gw m (upd go (9 * S + L) n) (S : Int) ∧ ∀ K : Nat, (K : Int) < (L : Int) + 1 → iv_PN gp gw m (upd go (9 * S + L) n) S K := by
  have hp : 2 ^ m ≤ 2 ^ 8 := Nat.pow_le_pow_right (by decide) hm
  have inc : ∀ i, i < m → ∀ T K : Nat, S ≤ T → T < 2 ^ m → iv_CF gp gw i K T → 9 * (T ||| 2 ^ i) + i ≠ 9 * S + L := fun i hi T K hT hT2 hc => by
    have := hc.inc (by omega) (by omega)
    omega
  refine ⟨fun T K q1 q2 q3 => (h1 T K q1 q2 q3).store (by omega) (fun i hi hc => inc i hi T K (by omega) q2 hc), fun K hK => ?_⟩
  by_cases e : K = L
  · rw [e]
    intro hne
    have e1 : upd go (9 * S + L) n (9 * S + L) = n := by
      unfold upd
      exact if_pos rfl
    rw [e1] at hne
    rcases h3 hne with q | ⟨j, q0, q1, q2, q3⟩
    · exact Or.inl q
    · refine Or.inr ⟨j, q1, q2, ?_⟩
      have e2 : upd go (9 * S + L) n (9 * (S ||| 2 ^ j) + j) = go (9 * (S ||| 2 ^ j) + j) := by
        unfold upd
        exact if_neg (inc j q1 S L (Nat.le_refl _) hS q2)
      rw [e2]
      exact q3
  · exact (h2 K (by omega)).store (by omega) (fun i hi hc => inc i hi S K (Nat.le_refl _) hS hc)
theorem iv_P1.step {gp gw : Nat → Int32} {m S : Nat} {go : Nat → Int32} {t : Int} (h1 : iv_P1 gp gw m go (S : Int)) (h2 : ∀ K : Nat, (K : Int) < 9 → iv_PN gp gw m go S K) (ht : t = (S : Int) - 1) : iv_P1 gp gw m go t := fun T K q1 q2 q3 => by
  by_cases e : T = S
  · rw [e]
    exact h2 K (by omega)
  · exact h1 T K (by omega) q2 q3
theorem iv_P3.skip {gp gw : Nat → Int32} {m S L : Nat} {go : Nat → Int32} {n n' : Int32} {t t' : Int} (h : iv_P3 gp gw m go S L n t) (hn : n' = n) (ht : t ≤ t') : iv_P3 gp gw m go S L n' t' := fun hne => by
  rw [hn] at hne
  rcases h hne with q | ⟨j, q0, q1, q2, q3⟩
  · exact Or.inl q
  · exact Or.inr ⟨j, by omega, q1, q2, q3⟩
theorem iv_P3.take {gp gw : Nat → Int32} {m S L : Nat} {go : Nat → Int32} {n n' x : Int32} {t t' : Int} {i : Nat} (h : iv_P3 gp gw m go S L n t) (hn : n' = n + x) (ht : t' = t + 1) (hi : (i : Int) = t) (him : i < m) (hc : iv_CF gp gw i L S) (hx : x = go (9 * (S ||| 2 ^ i) + i)) : iv_P3 gp gw m go S L n' t' := fun hne => by
  by_cases q : n = 0
  · refine Or.inr ⟨i, by omega, him, hc, ?_⟩
    rw [← hx]
    intro hx0
    apply hne
    rw [hn, q, hx0]
    rfl
  · rcases h q with q | ⟨j, q0, q1, q2, q3⟩
    · exact Or.inl q
    · exact Or.inr ⟨j, by omega, q1, q2, q3⟩
theorem iv_pit {gw : Nat → Int32} (h : iv_wP gw) {x : Int32} (hx : iv_R 0 9 x) : iv_R 0 47 (gw (66 + 8 * x.toInt.toNat + (1 : Int32).toInt.toNat)) := by
  have h1 := hx.1
  have h2 := hx.2
  have e1 : (1 : Int32).toInt.toNat = 1 := by decide
  have h3 := h.1 (66 + 8 * x.toInt.toNat + 1) (by omega)
  have e2 : iv_wb (66 + 8 * x.toInt.toNat + 1) = (0, 47) := by
    unfold iv_wb
    rw [if_neg (by omega), if_neg (by omega), if_neg (by omega), if_pos ⟨by omega, by omega, by omega⟩]
  rw [e2] at h3
  rw [e1]
  exact h3
theorem iv_one : (1 : Int32).toInt.toNat = 1 := by decide
theorem iv_got12_29 {D : va_G} {tys : List (ClassId × FieldType)} {base : Nat} {G : iv_G} {H0 H : Heap} {locs : List Loc} {a : Nat} {g : Nat → Int32} {r : Nat → Nat} (hB : iv_B iv_sh D classes tys base G H0 H locs) (ha : G a = some (12, g, r)) : ∃ (f : Nat → Int32) (q : Nat → Nat), G (r 29) = some (72, f, q) := by
  obtain ⟨q, h1, h2, h3⟩ := (hB.got ha).obj sh_12
  have hq : q = (RX12, TX12, 32) := Option.some.inj (h1.symm.trans ft_X12.1)
  rw [hq] at h3
  obtain ⟨⟨c', g', r'⟩, h5, h6⟩ : ∃ k' : iv_K, G (r 29) = some k' ∧ k'.1 = 72 := h3 29 (by decide)
  have h6 : c' = 72 := h6
  rw [h6] at h5
  exact ⟨g', r', h5⟩
theorem iv_got12_30 {D : va_G} {tys : List (ClassId × FieldType)} {base : Nat} {G : iv_G} {H0 H : Heap} {locs : List Loc} {a : Nat} {g : Nat → Int32} {r : Nat → Nat} (hB : iv_B iv_sh D classes tys base G H0 H locs) (ha : G a = some (12, g, r)) : ∃ (f : Nat → Int32) (q : Nat → Nat), G (r 30) = some (73, f, q) := by
  obtain ⟨q, h1, h2, h3⟩ := (hB.got ha).obj sh_12
  have hq : q = (RX12, TX12, 32) := Option.some.inj (h1.symm.trans ft_X12.1)
  rw [hq] at h3
  obtain ⟨⟨c', g', r'⟩, h5, h6⟩ : ∃ k' : iv_K, G (r 30) = some k' ∧ k'.1 = 73 := h3 30 (by decide)
  have h6 : c' = 73 := h6
  rw [h6] at h5
  exact ⟨g', r', h5⟩
theorem iv_got12_0 {D : va_G} {tys : List (ClassId × FieldType)} {base : Nat} {G : iv_G} {H0 H : Heap} {locs : List Loc} {a : Nat} {g : Nat → Int32} {r : Nat → Nat} (hB : iv_B iv_sh D classes tys base G H0 H locs) (ha : G a = some (12, g, r)) : ∃ (f : Nat → Int32) (q : Nat → Nat), G (r 0) = some (60, f, q) := by
  obtain ⟨q, h1, h2, h3⟩ := (hB.got ha).obj sh_12
  have hq : q = (RX12, TX12, 32) := Option.some.inj (h1.symm.trans ft_X12.1)
  rw [hq] at h3
  obtain ⟨⟨c', g', r'⟩, h5, h6⟩ : ∃ k' : iv_K, G (r 0) = some k' ∧ k'.1 = 60 := h3 0 (by decide)
  have h6 : c' = 60 := h6
  rw [h6] at h5
  exact ⟨g', r', h5⟩

set_option maxHeartbeats 4000000 in
set_option maxRecDepth 100000 in
theorem e_X12_apart (l : Launch) (D : va_G) (tys : List (ClassId × FieldType)) (base : Nat) (G : iv_G) (x_0 : Int32) (i_x_0 : iv_R 0 47 x_0) (x_1 : Int32) (i_x_1 : iv_R 0 47 x_1) : Met l yX12_apart (Cond.code yX12_apart cX12_apart 2 (some .int) :: iv_W0) ({ frames := 0, cells := 0, slots := 0, locals := 0 }) (iv_Pc iv_sh D classes tys base G [.int x_0, .int x_1]) (iv_Qi iv_sh D classes tys base (fun v G' => G = G' ∧ iv_R (-47) 47 v ∧ v.toInt = iv_pa x_0 x_1)) 0 0 (iv_A base) := by
  refine iv_head (by decide) (Nat.le_of_ble_eq_true rfl) ?_
  intro p e s m args below meth c ls X hr hlocks hname hB hl
  have X := X
  have hx := X.1.1
  have hb := X.1.2.1
  have hl : lv_has ls 2 [(0, .int x_0), (1, .int x_1)] := hl
  refine lv_iload_n hx hb dX12_apart_0 rfl (lv_at hl 0 rfl) ?_
  refine lv_iload_n hx hb dX12_apart_1 rfl (lv_at hl 1 rfl) ?_
  refine lv_icmp_ge (tgt := 11) hx hb dX12_apart_2 (by decide) (fun c1 => ?_) (fun c1 => ?_)
  · skip
    refine lv_iload_n hx hb dX12_apart_11 rfl (lv_at hl 0 rfl) ?_
    refine lv_iload_n hx hb dX12_apart_12 rfl (lv_at hl 1 rfl) ?_
    refine iv_isub hx hb i_x_0 i_x_1 (lo := (-47)) (hi := 47) (by decide) dX12_apart_13 (fun x2 e_x2 i_x2 => ?_)
    exact iv_iret X hr hlocks hB ⟨rfl, i_x2, (by have w1 := Int32.le_iff_toInt_le.mp c1; unfold iv_pa; rw [if_neg (by omega)]; exact e_x2)⟩ dX12_apart_14
  · skip
    have i2_x_0 : iv_R 0 46 x_0 := (i_x_0.cutHi (n := 46) (iv_lt_r (iv_nle c1) i_x_1 (by decide)))
    have i3_x_1 : iv_R 1 47 x_1 := (i_x_1.cutLo (n := 1) (iv_lt_l (iv_nle c1) i_x_0 (by decide)))
    refine lv_iload_n hx hb dX12_apart_5 rfl (lv_at hl 1 rfl) ?_
    refine lv_iload_n hx hb dX12_apart_6 rfl (lv_at hl 0 rfl) ?_
    refine iv_isub hx hb i3_x_1 i2_x_0 (lo := (-45)) (hi := 47) (by decide) dX12_apart_7 (fun x5 e_x5 i_x5 => ?_)
    refine lv_goto (tgt := 14) hx hb dX12_apart_8 (by decide) ?_
    exact iv_iret X hr hlocks hB ⟨rfl, (i_x5.wk (by decide)), (by have w1 := Int32.lt_iff_toInt_lt.mp (iv_nle c1); unfold iv_pa; rw [if_pos w1]; exact e_x5)⟩ dX12_apart_14
set_option maxHeartbeats 4000000 in
set_option maxRecDepth 100000 in
theorem e_X12_canFollow (l : Launch) (D : va_G) (tys : List (ClassId × FieldType)) (base : Nat) (G : iv_G) (h0 : Nat) (g_h0 : Nat → Int32) (r_h0 : Nat → Nat) (a_h0 : G h0 = some (12, g_h0, r_h0)) (x_0 : Int32) (i_x_0 : iv_R 0 7 x_0) (x_1 : Int32) (i_x_1 : iv_R 0 8 x_1) (x_2 : Int32) (i_x_2 : iv_R 0 255 x_2) (gw : Nat → Int32) (rw : Nat → Nat) (h_gw0 : G (r_h0 0) = some (60, gw, rw)) (gp : Nat → Int32) (rp : Nat → Nat) (h_gp0 : G (r_h0 29) = some (72, gp, rp)) : Met l yX12_canFollow (Cond.code yX12_canFollow cX12_canFollow 4 (some .boolean) :: iv_W0) ({ frames := 1, cells := 0, slots := 0, locals := 22 }) (iv_Pc iv_sh D classes tys base G [.ref h0, .int x_0, .int x_1, .int x_2]) (iv_Qi iv_sh D classes tys base (fun v G' => G = G' ∧ iv_R 0 1 v ∧ (¬ v = 0 ↔ iv_CF gp gw x_0.toInt.toNat x_1.toInt.toNat x_2.toInt.toNat))) 0 0 (iv_A base) := by
  refine iv_head (by decide) (Nat.le_of_ble_eq_true rfl) ?_
  intro p e s m args below meth c ls X hr hlocks hname hB hl
  have X := X
  have hx := X.1.1
  have hb := X.1.2.1
  have hl : lv_has ls 4 [(0, .ref h0), (1, .int x_0), (2, .int x_1), (3, .int x_2)] := hl
  have hP : iv_wP gw := ((hB.got h_gw0).arr sh_60).choose_spec.2.2
  refine lv_iload_n hx hb dX12_canFollow_0 rfl (lv_at hl 3 rfl) ?_
  refine lv_iload_n hx hb dX12_canFollow_1 rfl (lv_at hl 1 rfl) ?_
  refine lv_ishr hx hb dX12_canFollow_2 ?_
  refine lv_topi (fun x1 e_x1 => ?_)
  have i_x1 := iv_R.all x1
  refine lv_iconst (v := 1) hx hb dX12_canFollow_3 (by decide) ?_
  refine iv_iand_r hx hb q_1 (by decide) dX12_canFollow_4 (fun x2 e_x2 i_x2 => ?_)
  refine lv_if_ne (tgt := 54) hx hb dX12_canFollow_5 (by decide) (fun c3 => ?_) (fun c3 => ?_)
  · skip
    have i3_x2 : iv_R 1 1 x2 := iv_ne_lo c3 i_x2 q_0 (by decide)
    refine lv_iconst (v := 0) hx hb dX12_canFollow_54 (by decide) ?_
    exact iv_zret X hr hlocks hB (q_0.wk (by decide)) ⟨rfl, (q_0.wk (by decide)), ⟨fun h => absurd rfl h, fun h => absurd ((iv_bbit i_x_2 i_x_0 e_x1 e_x2).2 h.1) c3⟩⟩ dX12_canFollow_55
  · skip
    have i4_x2 : iv_R 0 0 x2 := (i_x2.cutHi (n := 0) (iv_eq_r c3 q_0).2)
    refine lv_iload_n hx hb dX12_canFollow_8 rfl (lv_at hl 2 rfl) ?_
    refine lv_bipush (v := 8) hx hb dX12_canFollow_9 (by decide) ?_
    refine lv_icmp_eq (tgt := 50) hx hb dX12_canFollow_11 (by decide) (fun c6 => ?_) (fun c6 => ?_)
    · skip
      have i6_x_1 : iv_R 8 8 x_1 := (i_x_1.cutLo (n := 8) (iv_eq_r c6 q_8).1)
      refine lv_iconst (v := 1) hx hb dX12_canFollow_50 (by decide) ?_
      refine lv_goto (tgt := 55) hx hb dX12_canFollow_51 (by decide) ?_
      exact iv_zret X hr hlocks hB (q_1.wk (by decide)) ⟨rfl, (q_1.wk (by decide)), ⟨fun _ => ⟨(iv_bbit i_x_2 i_x_0 e_x1 e_x2).1 c3, Or.inl (by rw [c6]; rfl)⟩, fun _ => by decide⟩⟩ dX12_canFollow_55
    · skip
      have i7_x_1 : iv_R 0 7 x_1 := iv_ne_hi c6 i_x_1 q_8 (by decide)
      refine lv_aload_n hx hb dX12_canFollow_14 rfl (lv_at hl 0 rfl) ?_
      refine lv_aload_n hx hb dX12_canFollow_15 rfl (lv_at hl 0 rfl) ?_
      refine iv_getr X ft_X12 hB a_h0 sh_12 29 (by decide) rfl k_fl_X12_50 dX12_canFollow_16 (fun b9 g_b9 r_b9 e_b9 a_b9 => ?_)
      refine lv_iload_n hx hb dX12_canFollow_19 rfl (lv_at hl 1 rfl) ?_
      refine iv_ald X hB a_b9 sh_72 (iv_in i_x_0 (by decide)) dX12_canFollow_20 (fun x10 e_x10 i_x10 => ?_)
      refine lv_iconst (v := 1) hx hb dX12_canFollow_21 (by decide) ?_
      refine iv_cVi X k_good k_mf_X12_ofBell k_im_X12_ofBell k_sel_X12_ofBell k_ml_X12_282 ft_X12 hB a_h0 sh_12 (As := [.int x10, .int 1]) (e_X12_ofBell l D tys base G h0 g_h0 r_h0 a_h0 x10 i_x10 1 (q_1.wk (by decide)) gw rw h_gw0) ⟨rfl, rfl⟩ ⟨Nat.le_of_ble_eq_true rfl, Nat.le_of_ble_eq_true rfl⟩ ⟨Nat.le_of_ble_eq_true rfl, Nat.le_of_ble_eq_true rfl⟩ rfl rfl hl.1 (Nat.le_of_ble_eq_true rfl) dX12_canFollow_22 (fun x11 G9 H locs hq hB => ?_)
      obtain ⟨rfl, eo_x11⟩ := hq
      have i13_x11 : iv_R 0 47 x11 := by rw [eo_x11]; exact iv_pit hP i_x10
      refine lv_aload_n hx hb dX12_canFollow_25 rfl (lv_at hl 0 rfl) ?_
      refine lv_aload_n hx hb dX12_canFollow_26 rfl (lv_at hl 0 rfl) ?_
      refine iv_getr0 X ft_X12 hB a_h0 sh_12 29 (by decide) rfl k_fl_X12_50 dX12_canFollow_27 e_b9 ?_
      refine lv_iload_n hx hb dX12_canFollow_30 rfl (lv_at hl 2 rfl) ?_
      refine iv_ald X hB a_b9 sh_72 (iv_in i7_x_1 (by decide)) dX12_canFollow_31 (fun x15 e_x15 i_x15 => ?_)
      refine lv_iconst (v := 1) hx hb dX12_canFollow_32 (by decide) ?_
      refine iv_cVi X k_good k_mf_X12_ofBell k_im_X12_ofBell k_sel_X12_ofBell k_ml_X12_282 ft_X12 hB a_h0 sh_12 (As := [.int x15, .int 1]) (e_X12_ofBell l D tys base G h0 g_h0 r_h0 a_h0 x15 i_x15 1 (q_1.wk (by decide)) gw rw h_gw0) ⟨rfl, rfl⟩ ⟨Nat.le_of_ble_eq_true rfl, Nat.le_of_ble_eq_true rfl⟩ ⟨Nat.le_of_ble_eq_true rfl, Nat.le_of_ble_eq_true rfl⟩ rfl rfl hl.1 (Nat.le_of_ble_eq_true rfl) dX12_canFollow_33 (fun x16 G9 H locs hq hB => ?_)
      obtain ⟨rfl, eo_x16⟩ := hq
      have i18_x16 : iv_R 0 47 x16 := by rw [eo_x16]; exact iv_pit hP i_x15
      refine iv_cSi X k_good k_mf_X12_apart k_st_X12_apart k_ml_X12_305 hB (As := [.int x11, .int x16]) (e_X12_apart l D tys base G x11 i13_x11 x16 i18_x16) ⟨rfl, rfl⟩ ⟨Nat.le_of_ble_eq_true rfl, Nat.le_of_ble_eq_true rfl⟩ ⟨Nat.le_of_ble_eq_true rfl, Nat.le_of_ble_eq_true rfl⟩ rfl rfl hl.1 (Nat.le_of_ble_eq_true rfl) dX12_canFollow_36 (fun x20 G9 H locs hq hB => ?_)
      obtain ⟨rfl, i_x20, ea_x20⟩ := hq
      refine lv_aload_n hx hb dX12_canFollow_39 rfl (lv_at hl 0 rfl) ?_
      refine iv_getr X ft_X12 hB a_h0 sh_12 0 (by decide) rfl k_fl_X12_7 dX12_canFollow_40 (fun b21 g_b21 r_b21 e_b21 a_b21 => ?_)
      refine lv_sipush (v := 147) hx hb dX12_canFollow_43 (by decide) ?_
      refine iv_wald_c X hB a_b21 q_147 (by decide) (lo := (-2147483648)) (hi' := 2147483647) (by decide) dX12_canFollow_46 (fun x22 e_x22 i_x22 => ?_)
      refine lv_icmp_lt (tgt := 54) hx hb dX12_canFollow_47 (by decide) (fun c23 => ?_) (fun c23 => ?_)
      · skip
        have i23_x22 : iv_R (-46) 2147483647 x22 := (i_x22.cutLo (n := (-46)) (iv_lt_l c23 i_x20 (by decide)))
        refine lv_iconst (v := 0) hx hb dX12_canFollow_54 (by decide) ?_
        exact iv_zret X hr hlocks hB (q_0.wk (by decide)) ⟨rfl, (q_0.wk (by decide)), ⟨fun h => absurd rfl h, fun h => absurd (Int32.lt_iff_toInt_lt.mp c23) (by rw [ea_x20, eo_x11, eo_x16, e_x10, e_x15, e_x22, iv_samew h_gp0 e_b9 a_b9, iv_samew h_gw0 e_b21 a_b21, iv_one]; exact h.2.resolve_left (fun q => c6 (Int32.toInt_inj.mp (show x_1.toInt = (8 : Int32).toInt from by have w1 : (8 : Int32).toInt = 8 := rfl; have := i_x_1.1; omega))))⟩⟩ dX12_canFollow_55
      · skip
        have i24_x22 : iv_R (-2147483648) 47 x22 := (i_x22.cutHi (n := 47) (iv_le_r (iv_nlt c23) i_x20))
        refine lv_iconst (v := 1) hx hb dX12_canFollow_50 (by decide) ?_
        refine lv_goto (tgt := 55) hx hb dX12_canFollow_51 (by decide) ?_
        exact iv_zret X hr hlocks hB (q_1.wk (by decide)) ⟨rfl, (q_1.wk (by decide)), ⟨fun _ => ⟨(iv_bbit i_x_2 i_x_0 e_x1 e_x2).1 c3, Or.inr (fun h => c23 (Int32.lt_iff_toInt_lt.mpr (by rw [ea_x20, eo_x11, eo_x16, e_x10, e_x15, e_x22, iv_samew h_gp0 e_b9 a_b9, iv_samew h_gw0 e_b21 a_b21, iv_one]; exact h)))⟩, fun _ => by decide⟩⟩ dX12_canFollow_55

set_option maxHeartbeats 4000000 in
set_option maxRecDepth 100000 in
theorem e_X12_laysPeals (l : Launch) (D : va_G) (tys : List (ClassId × FieldType)) (base : Nat) (G : iv_G) (h0 : Nat) (g_h0 : Nat → Int32) (r_h0 : Nat → Nat) (a_h0 : G h0 = some (12, g_h0, r_h0)) (gw : Nat → Int32) (rw : Nat → Nat) (h_gw0 : G (r_h0 0) = some (60, gw, rw)) (gp : Nat → Int32) (rp : Nat → Nat) (h_gp0 : G (r_h0 29) = some (72, gp, rp)) : Met l yX12_laysPeals (Cond.code yX12_laysPeals cX12_laysPeals 6 none :: iv_W0) ({ frames := 2, cells := 0, slots := 0, locals := 45 }) (iv_Pc iv_sh D classes tys base G [.ref h0]) (iv_Qv iv_sh D classes tys base (fun G' => iv_Md [73] G G' ∧ ∃ (go : Nat → Int32) (qo : Nat → Nat), G' (r_h0 30) = some (73, go, qo) ∧ iv_P1 gp gw (g_h0 31).toInt.toNat go (-1))) 0 0 (iv_A base) := by
  refine iv_head (by decide) (Nat.le_of_ble_eq_true rfl) ?_
  intro p e s m args below meth c ls X hr hlocks hname hB hl
  have X := X
  have hx := X.1.1
  have hb := X.1.2.1
  have hM : iv_Md [73] G G := iv_Md.rf
  have hl : lv_has ls 6 [(0, .ref h0)] := hl
  obtain ⟨go0, qo0, t_go0⟩ := iv_got12_30 hB a_h0
  refine lv_iconst (v := 1) hx hb dX12_laysPeals_0 (by decide) ?_
  refine lv_aload_n hx hb dX12_laysPeals_1 rfl (lv_at hl 0 rfl) ?_
  refine iv_geti X ft_X12 hB a_h0 sh_12 31 (by decide) rfl k_fl_X12_447 dX12_laysPeals_2 (fun x1 e_x1 i_x1 => ?_)
  refine iv_shl1 hx hb i_x1 (lo := 1) (hi := 256) (by decide) dX12_laysPeals_5 (fun x2 e_x2 i_x2 => ?_)
  refine lv_iconst (v := 1) hx hb dX12_laysPeals_6 (by decide) ?_
  refine iv_isub hx hb i_x2 q_1 (lo := 0) (hi := 255) (by decide) dX12_laysPeals_7 (fun x3 e_x3 i_x3 => ?_)
  refine lv_istore_n (lv' := [(1, .int x3), (0, .ref h0)]) hx hb dX12_laysPeals_8 rfl hl (by decide) rfl (fun ls hl => ?_)
  obtain ⟨m0, hm⟩ : ∃ m0, m0 = (g_h0 31).toInt.toNat := ⟨_, rfl⟩
  have hm1 : x1.toInt = (m0 : Int) := by have w1 := congrArg Int32.toInt e_x1; have w2 := i_x1.1; omega
  have hm8 : m0 ≤ 8 := by have := i_x1.2; omega
  have hp1 := Nat.one_le_two_pow (n := m0)
  have hall : x3.toInt = ((2 ^ m0 - 1 : Nat) : Int) := by
    have w1 : x1.toInt.toNat = m0 := by omega
    have w2 : x2.toInt = ((2 ^ m0 : Nat) : Int) := by rw [e_x2, w1]; exact (Int.natCast_pow 2 m0).symm
    have w3 : x3.toInt = x2.toInt - (1 : Int32).toInt := e_x3
    have w4 : (1 : Int32).toInt = 1 := rfl
    omega
  refine lv_iload_n hx hb dX12_laysPeals_9 rfl (lv_at hl 0 rfl) ?_
  refine lv_istore_n (lv' := [(2, .int x3), (1, .int x3), (0, .ref h0)]) hx hb dX12_laysPeals_10 rfl hl (by decide) rfl (fun ls hl => ?_)
  have L_11 : ∀ (n_11 : Nat) (G5 : iv_G) (hM : iv_Md [73] G G5) (H : Heap) (locs : List Loc) (hB : iv_B iv_sh D classes tys base G5 s.heap H locs) (a_h0 : G5 h0 = some (12, g_h0, r_h0)) (x4 : Int32) (i_x4 : iv_R (-1) 255 x4) (hn_11 : (x4.toInt - (-2)).toNat < n_11) (gi_11 : ∃ (go : Nat → Int32) (qo : Nat → Nat), G5 (r_h0 30) = some (73, go, qo) ∧ iv_P1 gp gw m0 go x4.toInt ∧ x4.toInt ≤ x3.toInt) (ls : Array Slot) (hl : lv_has ls 6 [(2, .int x4), (1, .int x3), (0, .ref h0)]), W p l e ({ frames := 2, cells := 0, slots := 0, locals := 45 } : Room) s m args below meth c H locs 0 0 (MQ below (iv_Qv iv_sh D classes tys base (fun G' => iv_Md [73] G G' ∧ ∃ (go : Nat → Int32) (qo : Nat → Nat), G' (r_h0 30) = some (73, go, qo) ∧ iv_P1 gp gw (g_h0 31).toInt.toNat go (-1))) args s 0 0 (iv_A base)) (F0 m 11 ls []) := by
    intro n_11
    induction n_11 with
    | zero => intro G5 hM H locs hB a_h0 x4 i_x4 hn_11 gi_11 ls hl; exact absurd hn_11 (Nat.not_lt_zero _)
    | succ n_11 ih_11 =>
      intro G5 hM H locs hB a_h0 x4 i_x4 hn_11 gi_11 ls hl
      obtain ⟨go, qo, t_go, P1, hle⟩ := gi_11
      refine lv_iload_n hx hb dX12_laysPeals_11 rfl (lv_at hl 0 rfl) ?_
      refine lv_if_lt (tgt := 129) hx hb dX12_laysPeals_12 (by decide) (fun c6 => ?_) (fun c6 => ?_)
      · skip
        have i6_x4 : iv_R (-1) (-1) x4 := (i_x4.cutHi (n := (-1)) (iv_lt_r c6 q_0 (by decide)))
        exact iv_vret X hr hlocks hB ⟨hM, ⟨go, qo, t_go, (by have w1 := P1; rw [show x4.toInt = -1 from by have := i6_x4.1; have := i6_x4.2; omega, hm] at w1; exact w1)⟩⟩ dX12_laysPeals_129
      · skip
        have i7_x4 : iv_R 0 255 x4 := (i_x4.cutLo (n := 0) (iv_le_l (iv_nlt c6) q_0))
        have hS4 : ((x4.toInt.toNat : Nat) : Int) = x4.toInt := Int.toNat_of_nonneg i7_x4.1
        have hS2 : x4.toInt.toNat < 2 ^ m0 := by omega
        refine lv_iconst (v := 0) hx hb dX12_laysPeals_15 (by decide) ?_
        refine lv_istore_n (lv' := [(3, .int 0), (2, .int x4), (1, .int x3), (0, .ref h0)]) hx hb dX12_laysPeals_16 rfl hl (by decide) rfl (fun ls hl => ?_)
        have L_17 : ∀ (n_17 : Nat) (G10 : iv_G) (hM : iv_Md [73] G G10) (H : Heap) (locs : List Loc) (hB : iv_B iv_sh D classes tys base G10 s.heap H locs) (a_h0 : G10 h0 = some (12, g_h0, r_h0)) (x9 : Int32) (i_x9 : iv_R 0 9 x9) (hn_17 : (10 - x9.toInt).toNat < n_17) (gi_17 : ∃ (go : Nat → Int32) (qo : Nat → Nat), G10 (r_h0 30) = some (73, go, qo) ∧ iv_P1 gp gw m0 go x4.toInt ∧ ∀ K : Nat, (K : Int) < x9.toInt → iv_PN gp gw m0 go x4.toInt.toNat K) (ls : Array Slot) (hl : lv_has ls 6 [(3, .int x9), (2, .int x4), (1, .int x3), (0, .ref h0)]), W p l e ({ frames := 2, cells := 0, slots := 0, locals := 45 } : Room) s m args below meth c H locs 0 0 (MQ below (iv_Qv iv_sh D classes tys base (fun G' => iv_Md [73] G G' ∧ ∃ (go : Nat → Int32) (qo : Nat → Nat), G' (r_h0 30) = some (73, go, qo) ∧ iv_P1 gp gw (g_h0 31).toInt.toNat go (-1))) args s 0 0 (iv_A base)) (F0 m 17 ls []) := by
          intro n_17
          induction n_17 with
          | zero => intro G10 hM H locs hB a_h0 x9 i_x9 hn_17 gi_17 ls hl; exact absurd hn_17 (Nat.not_lt_zero _)
          | succ n_17 ih_17 =>
            intro G10 hM H locs hB a_h0 x9 i_x9 hn_17 gi_17 ls hl
            obtain ⟨go, qo, t_go, P1, P2⟩ := gi_17
            refine lv_iload_n hx hb dX12_laysPeals_17 rfl (lv_at hl 0 rfl) ?_
            refine lv_bipush (v := 8) hx hb dX12_laysPeals_18 (by decide) ?_
            refine lv_icmp_gt (tgt := 123) hx hb dX12_laysPeals_20 (by decide) (fun c11 => ?_) (fun c11 => ?_)
            · skip
              have i11_x9 : iv_R 9 9 x9 := (i_x9.cutLo (n := 9) (iv_lt_l c11 q_8 (by decide)))
              refine iv_iinc hx hb i7_x4 (lo := (-1)) (hi := 254) (by decide) dX12_laysPeals_123 hl (k := 1) rfl (by decide) (fun x13 ls e_x13 i_x13 hl => ?_)
              have hl : lv_has ls 6 [(2, .int x13), (3, .int x9), (1, .int x3), (0, .ref h0)] := hl
              refine lv_goto (tgt := 11) hx hb dX12_laysPeals_126 (by decide) ?_
              exact ih_11 G10 hM _ _ hB a_h0 x13 (i_x13.wk (by decide)) (iv_mdn (c := 1) i_x4 (by decide) (by decide) (by omega) hn_11) ⟨go, qo, t_go, iv_P1.step (by rw [hS4]; exact P1) (fun K q => P2 K (by have := i11_x9.1; omega)) (by have w1 : x13.toInt = x4.toInt + (-1) := e_x13; omega), (by have w1 : x13.toInt = x4.toInt + (-1) := e_x13; omega)⟩ _ (lv_sub hl [0, 2, 3] rfl)
            · skip
              have i13_x9 : iv_R 0 8 x9 := (i_x9.cutHi (n := 8) (iv_le_r (iv_nlt c11) q_8))
              have hL9 : ((x9.toInt.toNat : Nat) : Int) = x9.toInt := Int.toNat_of_nonneg i13_x9.1
              refine lv_iload_n hx hb dX12_laysPeals_23 rfl (lv_at hl 1 rfl) ?_
              refine lv_iload_n hx hb dX12_laysPeals_24 rfl (lv_at hl 2 rfl) ?_
              refine lv_icmp_ne (tgt := 32) hx hb dX12_laysPeals_25 (by decide) (fun c15 => ?_) (fun c15 => ?_)
              · skip
                refine lv_iconst (v := 0) hx hb dX12_laysPeals_32 (by decide) ?_
                refine lv_istore (lv' := [(4, .int 0), (3, .int x9), (2, .int x4), (1, .int x3), (0, .ref h0)]) hx hb dX12_laysPeals_33 hl (by decide) rfl (fun ls hl => ?_)
                refine lv_iconst (v := 0) hx hb dX12_laysPeals_35 (by decide) ?_
                refine lv_istore (lv' := [(5, .int 0), (4, .int 0), (3, .int x9), (2, .int x4), (1, .int x3), (0, .ref h0)]) hx hb dX12_laysPeals_36 hl (by decide) rfl (fun ls hl => ?_)
                have L_38 : ∀ (n_38 : Nat) (G18 : iv_G) (hM : iv_Md [73] G G18) (H : Heap) (locs : List Loc) (hB : iv_B iv_sh D classes tys base G18 s.heap H locs) (a_h0 : G18 h0 = some (12, g_h0, r_h0)) (x16 : Int32) (i_x16 : iv_R (-2147483648) 2147483647 x16) (x17 : Int32) (i_x17 : iv_R 0 8 x17) (hn_38 : (9 - x17.toInt).toNat < n_38) (gi_38 : G18 (r_h0 30) = some (73, go, qo) ∧ iv_P3 gp gw m0 go x4.toInt.toNat x9.toInt.toNat x16 x17.toInt) (ls : Array Slot) (hl : lv_has ls 6 [(5, .int x17), (4, .int x16), (3, .int x9), (2, .int x4), (1, .int x3), (0, .ref h0)]), W p l e ({ frames := 2, cells := 0, slots := 0, locals := 45 } : Room) s m args below meth c H locs 0 0 (MQ below (iv_Qv iv_sh D classes tys base (fun G' => iv_Md [73] G G' ∧ ∃ (go : Nat → Int32) (qo : Nat → Nat), G' (r_h0 30) = some (73, go, qo) ∧ iv_P1 gp gw (g_h0 31).toInt.toNat go (-1))) args s 0 0 (iv_A base)) (F0 m 38 ls []) := by
                  intro n_38
                  induction n_38 with
                  | zero => intro G18 hM H locs hB a_h0 x16 i_x16 x17 i_x17 hn_38 gi_38 ls hl; exact absurd hn_38 (Nat.not_lt_zero _)
                  | succ n_38 ih_38 =>
                    intro G18 hM H locs hB a_h0 x16 i_x16 x17 i_x17 hn_38 gi_38 ls hl
                    refine lv_iload hx hb dX12_laysPeals_38 (lv_at hl 0 rfl) ?_
                    refine lv_aload_n hx hb dX12_laysPeals_40 rfl (lv_at hl 5 rfl) ?_
                    refine iv_geti0 X ft_X12 hB a_h0 sh_12 31 (by decide) rfl k_fl_X12_447 dX12_laysPeals_41 e_x1 ?_
                    refine lv_icmp_ge (tgt := 104) hx hb dX12_laysPeals_44 (by decide) (fun c19 => ?_) (fun c19 => ?_)
                    · skip
                      refine lv_aload_n hx hb dX12_laysPeals_104 rfl (lv_at hl 5 rfl) ?_
                      refine iv_getr X ft_X12 hB a_h0 sh_12 30 (by decide) rfl k_fl_X12_53 dX12_laysPeals_105 (fun b20 g_b20 r_b20 e_b20 a_b20 => ?_)
                      refine lv_bipush (v := 9) hx hb dX12_laysPeals_108 (by decide) ?_
                      refine lv_iload_n hx hb dX12_laysPeals_110 rfl (lv_at hl 3 rfl) ?_
                      refine iv_imul hx hb q_9 i7_x4 (lo := 0) (hi := 2295) (by decide) dX12_laysPeals_111 (fun x21 e_x21 i_x21 => ?_)
                      refine lv_iload_n hx hb dX12_laysPeals_112 rfl (lv_at hl 2 rfl) ?_
                      refine iv_iadd hx hb i_x21 i13_x9 (lo := 0) (hi := 2303) (by decide) dX12_laysPeals_113 (fun x22 e_x22 i_x22 => ?_)
                      refine lv_iload hx hb dX12_laysPeals_114 (lv_at hl 1 rfl) ?_
                      refine iv_ast X hB a_b20 sh_73 (iv_in i_x22 (by decide)) i_x16 dX12_laysPeals_116 (fun H locs hB => ?_)
                      have hm := iv_Md.ast (j := x22.toNatClampNeg) (x := x16) a_b20 rfl (by decide)
                      have h9 := iv_up_eq (G := G18) (a := b20) (k := (73, upd g_b20 x22.toNatClampNeg x16, r_b20))
                      generalize iv_up G18 b20 _ = G23 at hB hm h9
                      have hM := hM.stp hm (by decide)
                      have a_h0 := hm.at a_h0 (by decide)
                      have eq0 : x22.toNatClampNeg = 9 * x4.toInt.toNat + x9.toInt.toNat := by
                        show x22.toInt.toNat = _
                        have w1 : x21.toInt = (9 : Int32).toInt * x4.toInt := e_x21
                        have w2 : (9 : Int32).toInt = 9 := rfl
                        have w3 : x22.toInt = x21.toInt + x9.toInt := e_x22
                        rw [w2] at w1
                        omega
                      have t_go : G23 (r_h0 30) = some (73, upd go (9 * x4.toInt.toNat + x9.toInt.toNat) x16, r_b20) := by
                        have w1 := h9
                        rw [eq0, iv_samew gi_38.1 e_b20 a_b20, e_b20] at w1
                        exact w1
                      have nx := iv_lay.next (n := x16) hm8 hS2 (by have := i13_x9.2; omega) (by rw [hS4]; exact P1) (fun K q => P2 K (by omega)) gi_38.2
                      refine iv_iinc hx hb i13_x9 (lo := 1) (hi := 9) (by decide) dX12_laysPeals_117 hl (k := 2) rfl (by decide) (fun x25 ls e_x25 i_x25 hl => ?_)
                      have hl : lv_has ls 6 [(3, .int x25), (5, .int x17), (4, .int x16), (2, .int x4), (1, .int x3), (0, .ref h0)] := hl
                      refine lv_goto (tgt := 17) hx hb dX12_laysPeals_120 (by decide) ?_
                      exact ih_17 G23 hM _ _ hB a_h0 x25 (i_x25.wk (by decide)) (iv_mup (c := 1) i_x9 (by decide) (by decide) (by omega) hn_17) ⟨_, _, t_go, (by have w1 := nx.1; rw [hS4] at w1; exact w1), fun K q => nx.2 K (by have w1 : x25.toInt = x9.toInt + 1 := e_x25; omega)⟩ _ (lv_sub hl [0, 3, 4, 5] rfl)
                    · skip
                      have i25_x17 : iv_R 0 7 x17 := (i_x17.cutHi (n := 7) (iv_lt_r (iv_nle c19) i_x1 (by decide)))
                      have i26_x1 : iv_R 1 8 x1 := (i_x1.cutLo (n := 1) (iv_lt_l (iv_nle c19) i_x17 (by decide)))
                      refine lv_iload_n hx hb dX12_laysPeals_47 rfl (lv_at hl 2 rfl) ?_
                      refine lv_bipush (v := 8) hx hb dX12_laysPeals_48 (by decide) ?_
                      refine lv_icmp_eq (tgt := 61) hx hb dX12_laysPeals_50 (by decide) (fun c28 => ?_) (fun c28 => ?_)
                      · skip
                        have i28_x9 : iv_R 8 8 x9 := (i13_x9.cutLo (n := 8) (iv_eq_r c28 q_8).1)
                        refine lv_iload hx hb dX12_laysPeals_61 (lv_at hl 1 rfl) ?_
                        refine lv_aload_n hx hb dX12_laysPeals_63 rfl (lv_at hl 5 rfl) ?_
                        refine lv_iload hx hb dX12_laysPeals_64 (lv_at hl 0 rfl) ?_
                        refine lv_iload_n hx hb dX12_laysPeals_66 rfl (lv_at hl 2 rfl) ?_
                        refine lv_iload_n hx hb dX12_laysPeals_67 rfl (lv_at hl 3 rfl) ?_
                        refine iv_cVi X k_good k_mf_X12_canFollow k_im_X12_canFollow k_sel_X12_canFollow k_ml_X12_450 ft_X12 hB a_h0 sh_12 (As := [.int x17, .int x9, .int x4]) (e_X12_canFollow l D tys base G18 h0 g_h0 r_h0 a_h0 x17 i25_x17 x9 (i28_x9.wk (by decide)) x4 i7_x4 gw rw (hM.at h_gw0 (by decide)) gp rp (hM.at h_gp0 (by decide))) ⟨rfl, rfl⟩ ⟨Nat.le_of_ble_eq_true rfl, Nat.le_of_ble_eq_true rfl⟩ ⟨Nat.le_of_ble_eq_true rfl, Nat.le_of_ble_eq_true rfl⟩ rfl rfl hl.1 (Nat.le_of_ble_eq_true rfl) dX12_laysPeals_68 (fun x30 G9 H locs hq hB => ?_)
                        obtain ⟨rfl, i_x30, xp31⟩ := hq
                        refine lv_if_eq (tgt := 94) hx hb dX12_laysPeals_71 (by decide) (fun c32 => ?_) (fun c32 => ?_)
                        · skip
                          have i32_x30 : iv_R 0 0 x30 := (i_x30.cutHi (n := 0) (iv_eq_r c32 q_0).2)
                          refine lv_iconst (v := 0) hx hb dX12_laysPeals_94 (by decide) ?_
                          refine iv_iadd hx hb i_x16 q_0 (lo := (-2147483648)) (hi := 2147483647) (by decide) dX12_laysPeals_95 (fun x34 e_x34 i_x34 => ?_)
                          refine lv_istore (lv' := [(4, .int x34), (5, .int x17), (3, .int x9), (2, .int x4), (1, .int x3), (0, .ref h0)]) hx hb dX12_laysPeals_96 hl (by decide) rfl (fun ls hl => ?_)
                          refine iv_iinc hx hb i25_x17 (lo := 1) (hi := 8) (by decide) dX12_laysPeals_98 hl (k := 1) rfl (by decide) (fun x35 ls e_x35 i_x35 hl => ?_)
                          have hl : lv_has ls 6 [(5, .int x35), (4, .int x34), (3, .int x9), (2, .int x4), (1, .int x3), (0, .ref h0)] := hl
                          refine lv_goto (tgt := 38) hx hb dX12_laysPeals_101 (by decide) ?_
                          exact ih_38 G18 hM _ _ hB a_h0 x34 i_x34 x35 (i_x35.wk (by decide)) (iv_mup (c := 1) i_x17 (by decide) (by decide) (by omega) hn_38) ⟨gi_38.1, gi_38.2.skip (Int32.toInt_inj.mp (by have w1 : x34.toInt = x16.toInt + (0 : Int32).toInt := e_x34; have z0 : (0 : Int32).toInt = 0 := rfl; omega)) (by have w1 : x35.toInt = x17.toInt + 1 := e_x35; omega)⟩ _ (lv_sub hl [0, 1, 2, 3, 4, 5] rfl)
                        · skip
                          have i35_x30 : iv_R 1 1 x30 := iv_ne_lo c32 i_x30 q_0 (by decide)
                          refine lv_aload_n hx hb dX12_laysPeals_74 rfl (lv_at hl 5 rfl) ?_
                          refine iv_getr X ft_X12 hB a_h0 sh_12 30 (by decide) rfl k_fl_X12_53 dX12_laysPeals_75 (fun b37 g_b37 r_b37 e_b37 a_b37 => ?_)
                          refine lv_bipush (v := 9) hx hb dX12_laysPeals_78 (by decide) ?_
                          refine lv_iload_n hx hb dX12_laysPeals_80 rfl (lv_at hl 3 rfl) ?_
                          refine lv_iconst (v := 1) hx hb dX12_laysPeals_81 (by decide) ?_
                          refine lv_iload hx hb dX12_laysPeals_82 (lv_at hl 0 rfl) ?_
                          refine iv_shl1 hx hb i25_x17 (lo := 1) (hi := 128) (by decide) dX12_laysPeals_84 (fun x38 e_x38 i_x38 => ?_)
                          refine iv_ior hx hb i7_x4 i_x38 (k := 8) (hi := 255) (by decide) dX12_laysPeals_85 (fun x39 e_x39 i_x39 => ?_)
                          refine iv_imul hx hb q_9 i_x39 (lo := 0) (hi := 2295) (by decide) dX12_laysPeals_86 (fun x40 e_x40 i_x40 => ?_)
                          refine lv_iload hx hb dX12_laysPeals_87 (lv_at hl 0 rfl) ?_
                          refine iv_iadd hx hb i_x40 i25_x17 (lo := 0) (hi := 2302) (by decide) dX12_laysPeals_89 (fun x41 e_x41 i_x41 => ?_)
                          refine iv_ald X hB a_b37 sh_73 (iv_in i_x41 (by decide)) dX12_laysPeals_90 (fun x42 e_x42 i_x42 => ?_)
                          refine lv_goto (tgt := 95) hx hb dX12_laysPeals_91 (by decide) ?_
                          refine lv_iadd hx hb dX12_laysPeals_95 ?_
                          refine lv_topi (fun x43 e_x43 => ?_)
                          have i_x43 := iv_R.all x43
                          refine lv_istore (lv' := [(4, .int x43), (5, .int x17), (3, .int x9), (2, .int x4), (1, .int x3), (0, .ref h0)]) hx hb dX12_laysPeals_96 hl (by decide) rfl (fun ls hl => ?_)
                          refine iv_iinc hx hb i25_x17 (lo := 1) (hi := 8) (by decide) dX12_laysPeals_98 hl (k := 1) rfl (by decide) (fun x44 ls e_x44 i_x44 hl => ?_)
                          have hl : lv_has ls 6 [(5, .int x44), (4, .int x43), (3, .int x9), (2, .int x4), (1, .int x3), (0, .ref h0)] := hl
                          refine lv_goto (tgt := 38) hx hb dX12_laysPeals_101 (by decide) ?_
                          exact ih_38 G18 hM _ _ hB a_h0 x43 i_x43 x44 (i_x44.wk (by decide)) (iv_mup (c := 1) i_x17 (by decide) (by decide) (by omega) hn_38) ⟨gi_38.1, gi_38.2.take (i := x17.toInt.toNat) e_x43 (by have w1 : x44.toInt = x17.toInt + 1 := e_x44; omega) (Int.toNat_of_nonneg i25_x17.1) (by have w1 := Int32.lt_iff_toInt_lt.mp (iv_nle c19); have w2 := i25_x17.1; omega) (xp31.1 c32) (by rw [e_x42, iv_samew gi_38.1 e_b37 a_b37]; exact congrArg go (by show x41.toInt.toNat = _; have w1 := iv_bor (by first | exact i7_x4 | exact (i7_x4.wk (by decide))) (by first | exact i25_x17 | exact (i25_x17.wk (by decide))) e_x38 e_x39; have w2 : x40.toInt = (9 : Int32).toInt * x39.toInt := e_x40; have w3 : (9 : Int32).toInt = 9 := rfl; have w4 : x41.toInt = x40.toInt + x17.toInt := e_x41; have w5 := i25_x17.1; rw [w3] at w2; omega))⟩ _ (lv_sub hl [0, 1, 2, 3, 4, 5] rfl)
                      · skip
                        have i44_x9 : iv_R 0 7 x9 := iv_ne_hi c28 i13_x9 q_8 (by decide)
                        refine lv_iload_n hx hb dX12_laysPeals_53 rfl (lv_at hl 2 rfl) ?_
                        refine lv_aload_n hx hb dX12_laysPeals_54 rfl (lv_at hl 5 rfl) ?_
                        refine iv_geti0 X ft_X12 hB a_h0 sh_12 31 (by decide) rfl k_fl_X12_447 dX12_laysPeals_55 e_x1 ?_
                        refine lv_icmp_ge (tgt := 104) hx hb dX12_laysPeals_58 (by decide) (fun c46 => ?_) (fun c46 => ?_)
                        · skip
                          have i46_x1 : iv_R 1 7 x1 := (i26_x1.cutHi (n := 7) (iv_le_r c46 i44_x9))
                          have i47_x9 : iv_R 1 7 x9 := (i44_x9.cutLo (n := 1) (iv_le_l c46 i26_x1))
                          refine lv_aload_n hx hb dX12_laysPeals_104 rfl (lv_at hl 5 rfl) ?_
                          refine iv_getr X ft_X12 hB a_h0 sh_12 30 (by decide) rfl k_fl_X12_53 dX12_laysPeals_105 (fun b49 g_b49 r_b49 e_b49 a_b49 => ?_)
                          refine lv_bipush (v := 9) hx hb dX12_laysPeals_108 (by decide) ?_
                          refine lv_iload_n hx hb dX12_laysPeals_110 rfl (lv_at hl 3 rfl) ?_
                          refine iv_imul hx hb q_9 i7_x4 (lo := 0) (hi := 2295) (by decide) dX12_laysPeals_111 (fun x50 e_x50 i_x50 => ?_)
                          refine lv_iload_n hx hb dX12_laysPeals_112 rfl (lv_at hl 2 rfl) ?_
                          refine iv_iadd hx hb i_x50 i47_x9 (lo := 1) (hi := 2302) (by decide) dX12_laysPeals_113 (fun x51 e_x51 i_x51 => ?_)
                          refine lv_iload hx hb dX12_laysPeals_114 (lv_at hl 1 rfl) ?_
                          refine iv_ast X hB a_b49 sh_73 (iv_in i_x51 (by decide)) i_x16 dX12_laysPeals_116 (fun H locs hB => ?_)
                          have hm := iv_Md.ast (j := x51.toNatClampNeg) (x := x16) a_b49 rfl (by decide)
                          have h9 := iv_up_eq (G := G18) (a := b49) (k := (73, upd g_b49 x51.toNatClampNeg x16, r_b49))
                          generalize iv_up G18 b49 _ = G52 at hB hm h9
                          have hM := hM.stp hm (by decide)
                          have a_h0 := hm.at a_h0 (by decide)
                          have eq0 : x51.toNatClampNeg = 9 * x4.toInt.toNat + x9.toInt.toNat := by
                            show x51.toInt.toNat = _
                            have w1 : x50.toInt = (9 : Int32).toInt * x4.toInt := e_x50
                            have w2 : (9 : Int32).toInt = 9 := rfl
                            have w3 : x51.toInt = x50.toInt + x9.toInt := e_x51
                            rw [w2] at w1
                            omega
                          have t_go : G52 (r_h0 30) = some (73, upd go (9 * x4.toInt.toNat + x9.toInt.toNat) x16, r_b49) := by
                            have w1 := h9
                            rw [eq0, iv_samew gi_38.1 e_b49 a_b49, e_b49] at w1
                            exact w1
                          have nx := iv_lay.next (n := x16) hm8 hS2 (by have := i47_x9.2; omega) (by rw [hS4]; exact P1) (fun K q => P2 K (by omega)) gi_38.2
                          refine iv_iinc hx hb i47_x9 (lo := 2) (hi := 8) (by decide) dX12_laysPeals_117 hl (k := 2) rfl (by decide) (fun x54 ls e_x54 i_x54 hl => ?_)
                          have hl : lv_has ls 6 [(3, .int x54), (5, .int x17), (4, .int x16), (2, .int x4), (1, .int x3), (0, .ref h0)] := hl
                          refine lv_goto (tgt := 17) hx hb dX12_laysPeals_120 (by decide) ?_
                          exact ih_17 G52 hM _ _ hB a_h0 x54 (i_x54.wk (by decide)) (iv_mup (c := 1) i_x9 (by decide) (by decide) (by omega) hn_17) ⟨_, _, t_go, (by have w1 := nx.1; rw [hS4] at w1; exact w1), fun K q => nx.2 K (by have w1 : x54.toInt = x9.toInt + 1 := e_x54; omega)⟩ _ (lv_sub hl [0, 3, 4, 5] rfl)
                        · skip
                          refine lv_iload hx hb dX12_laysPeals_61 (lv_at hl 1 rfl) ?_
                          refine lv_aload_n hx hb dX12_laysPeals_63 rfl (lv_at hl 5 rfl) ?_
                          refine lv_iload hx hb dX12_laysPeals_64 (lv_at hl 0 rfl) ?_
                          refine lv_iload_n hx hb dX12_laysPeals_66 rfl (lv_at hl 2 rfl) ?_
                          refine lv_iload_n hx hb dX12_laysPeals_67 rfl (lv_at hl 3 rfl) ?_
                          refine iv_cVi X k_good k_mf_X12_canFollow k_im_X12_canFollow k_sel_X12_canFollow k_ml_X12_450 ft_X12 hB a_h0 sh_12 (As := [.int x17, .int x9, .int x4]) (e_X12_canFollow l D tys base G18 h0 g_h0 r_h0 a_h0 x17 i25_x17 x9 (i44_x9.wk (by decide)) x4 i7_x4 gw rw (hM.at h_gw0 (by decide)) gp rp (hM.at h_gp0 (by decide))) ⟨rfl, rfl⟩ ⟨Nat.le_of_ble_eq_true rfl, Nat.le_of_ble_eq_true rfl⟩ ⟨Nat.le_of_ble_eq_true rfl, Nat.le_of_ble_eq_true rfl⟩ rfl rfl hl.1 (Nat.le_of_ble_eq_true rfl) dX12_laysPeals_68 (fun x55 G9 H locs hq hB => ?_)
                          obtain ⟨rfl, i_x55, xp56⟩ := hq
                          refine lv_if_eq (tgt := 94) hx hb dX12_laysPeals_71 (by decide) (fun c57 => ?_) (fun c57 => ?_)
                          · skip
                            have i57_x55 : iv_R 0 0 x55 := (i_x55.cutHi (n := 0) (iv_eq_r c57 q_0).2)
                            refine lv_iconst (v := 0) hx hb dX12_laysPeals_94 (by decide) ?_
                            refine iv_iadd hx hb i_x16 q_0 (lo := (-2147483648)) (hi := 2147483647) (by decide) dX12_laysPeals_95 (fun x59 e_x59 i_x59 => ?_)
                            refine lv_istore (lv' := [(4, .int x59), (5, .int x17), (3, .int x9), (2, .int x4), (1, .int x3), (0, .ref h0)]) hx hb dX12_laysPeals_96 hl (by decide) rfl (fun ls hl => ?_)
                            refine iv_iinc hx hb i25_x17 (lo := 1) (hi := 8) (by decide) dX12_laysPeals_98 hl (k := 1) rfl (by decide) (fun x60 ls e_x60 i_x60 hl => ?_)
                            have hl : lv_has ls 6 [(5, .int x60), (4, .int x59), (3, .int x9), (2, .int x4), (1, .int x3), (0, .ref h0)] := hl
                            refine lv_goto (tgt := 38) hx hb dX12_laysPeals_101 (by decide) ?_
                            exact ih_38 G18 hM _ _ hB a_h0 x59 i_x59 x60 (i_x60.wk (by decide)) (iv_mup (c := 1) i_x17 (by decide) (by decide) (by omega) hn_38) ⟨gi_38.1, gi_38.2.skip (Int32.toInt_inj.mp (by have w1 : x59.toInt = x16.toInt + (0 : Int32).toInt := e_x59; have z0 : (0 : Int32).toInt = 0 := rfl; omega)) (by have w1 : x60.toInt = x17.toInt + 1 := e_x60; omega)⟩ _ (lv_sub hl [0, 1, 2, 3, 4, 5] rfl)
                          · skip
                            have i60_x55 : iv_R 1 1 x55 := iv_ne_lo c57 i_x55 q_0 (by decide)
                            refine lv_aload_n hx hb dX12_laysPeals_74 rfl (lv_at hl 5 rfl) ?_
                            refine iv_getr X ft_X12 hB a_h0 sh_12 30 (by decide) rfl k_fl_X12_53 dX12_laysPeals_75 (fun b62 g_b62 r_b62 e_b62 a_b62 => ?_)
                            refine lv_bipush (v := 9) hx hb dX12_laysPeals_78 (by decide) ?_
                            refine lv_iload_n hx hb dX12_laysPeals_80 rfl (lv_at hl 3 rfl) ?_
                            refine lv_iconst (v := 1) hx hb dX12_laysPeals_81 (by decide) ?_
                            refine lv_iload hx hb dX12_laysPeals_82 (lv_at hl 0 rfl) ?_
                            refine iv_shl1 hx hb i25_x17 (lo := 1) (hi := 128) (by decide) dX12_laysPeals_84 (fun x63 e_x63 i_x63 => ?_)
                            refine iv_ior hx hb i7_x4 i_x63 (k := 8) (hi := 255) (by decide) dX12_laysPeals_85 (fun x64 e_x64 i_x64 => ?_)
                            refine iv_imul hx hb q_9 i_x64 (lo := 0) (hi := 2295) (by decide) dX12_laysPeals_86 (fun x65 e_x65 i_x65 => ?_)
                            refine lv_iload hx hb dX12_laysPeals_87 (lv_at hl 0 rfl) ?_
                            refine iv_iadd hx hb i_x65 i25_x17 (lo := 0) (hi := 2302) (by decide) dX12_laysPeals_89 (fun x66 e_x66 i_x66 => ?_)
                            refine iv_ald X hB a_b62 sh_73 (iv_in i_x66 (by decide)) dX12_laysPeals_90 (fun x67 e_x67 i_x67 => ?_)
                            refine lv_goto (tgt := 95) hx hb dX12_laysPeals_91 (by decide) ?_
                            refine lv_iadd hx hb dX12_laysPeals_95 ?_
                            refine lv_topi (fun x68 e_x68 => ?_)
                            have i_x68 := iv_R.all x68
                            refine lv_istore (lv' := [(4, .int x68), (5, .int x17), (3, .int x9), (2, .int x4), (1, .int x3), (0, .ref h0)]) hx hb dX12_laysPeals_96 hl (by decide) rfl (fun ls hl => ?_)
                            refine iv_iinc hx hb i25_x17 (lo := 1) (hi := 8) (by decide) dX12_laysPeals_98 hl (k := 1) rfl (by decide) (fun x69 ls e_x69 i_x69 hl => ?_)
                            have hl : lv_has ls 6 [(5, .int x69), (4, .int x68), (3, .int x9), (2, .int x4), (1, .int x3), (0, .ref h0)] := hl
                            refine lv_goto (tgt := 38) hx hb dX12_laysPeals_101 (by decide) ?_
                            exact ih_38 G18 hM _ _ hB a_h0 x68 i_x68 x69 (i_x69.wk (by decide)) (iv_mup (c := 1) i_x17 (by decide) (by decide) (by omega) hn_38) ⟨gi_38.1, gi_38.2.take (i := x17.toInt.toNat) e_x68 (by have w1 : x69.toInt = x17.toInt + 1 := e_x69; omega) (Int.toNat_of_nonneg i25_x17.1) (by have w1 := Int32.lt_iff_toInt_lt.mp (iv_nle c19); have w2 := i25_x17.1; omega) (xp56.1 c57) (by rw [e_x67, iv_samew gi_38.1 e_b62 a_b62]; exact congrArg go (by show x66.toInt.toNat = _; have w1 := iv_bor (by first | exact i7_x4 | exact (i7_x4.wk (by decide))) (by first | exact i25_x17 | exact (i25_x17.wk (by decide))) e_x63 e_x64; have w2 : x65.toInt = (9 : Int32).toInt * x64.toInt := e_x65; have w3 : (9 : Int32).toInt = 9 := rfl; have w4 : x66.toInt = x65.toInt + x17.toInt := e_x66; have w5 := i25_x17.1; rw [w3] at w2; omega))⟩ _ (lv_sub hl [0, 1, 2, 3, 4, 5] rfl)
                exact L_38 _ G10 hM _ _ hB a_h0 0 (q_0.wk (by decide)) 0 (q_0.wk (by decide)) (Nat.lt_succ_self _) ⟨t_go, fun h => absurd rfl h⟩ _ (lv_sub hl [0, 1, 2, 3, 4, 5] rfl)
              · skip
                refine lv_iconst (v := 1) hx hb dX12_laysPeals_28 (by decide) ?_
                refine lv_goto (tgt := 33) hx hb dX12_laysPeals_29 (by decide) ?_
                refine lv_istore (lv' := [(4, .int 1), (3, .int x9), (2, .int x4), (1, .int x3), (0, .ref h0)]) hx hb dX12_laysPeals_33 hl (by decide) rfl (fun ls hl => ?_)
                refine lv_iconst (v := 0) hx hb dX12_laysPeals_35 (by decide) ?_
                refine lv_istore (lv' := [(5, .int 0), (4, .int 1), (3, .int x9), (2, .int x4), (1, .int x3), (0, .ref h0)]) hx hb dX12_laysPeals_36 hl (by decide) rfl (fun ls hl => ?_)
                have L_38 : ∀ (n_38 : Nat) (G72 : iv_G) (hM : iv_Md [73] G G72) (H : Heap) (locs : List Loc) (hB : iv_B iv_sh D classes tys base G72 s.heap H locs) (a_h0 : G72 h0 = some (12, g_h0, r_h0)) (x70 : Int32) (i_x70 : iv_R (-2147483648) 2147483647 x70) (x71 : Int32) (i_x71 : iv_R 0 8 x71) (hn_38 : (9 - x71.toInt).toNat < n_38) (gi_38 : G72 (r_h0 30) = some (73, go, qo) ∧ iv_P3 gp gw m0 go x4.toInt.toNat x9.toInt.toNat x70 x71.toInt) (ls : Array Slot) (hl : lv_has ls 6 [(5, .int x71), (4, .int x70), (3, .int x9), (2, .int x4), (1, .int x3), (0, .ref h0)]), W p l e ({ frames := 2, cells := 0, slots := 0, locals := 45 } : Room) s m args below meth c H locs 0 0 (MQ below (iv_Qv iv_sh D classes tys base (fun G' => iv_Md [73] G G' ∧ ∃ (go : Nat → Int32) (qo : Nat → Nat), G' (r_h0 30) = some (73, go, qo) ∧ iv_P1 gp gw (g_h0 31).toInt.toNat go (-1))) args s 0 0 (iv_A base)) (F0 m 38 ls []) := by
                  intro n_38
                  induction n_38 with
                  | zero => intro G72 hM H locs hB a_h0 x70 i_x70 x71 i_x71 hn_38 gi_38 ls hl; exact absurd hn_38 (Nat.not_lt_zero _)
                  | succ n_38 ih_38 =>
                    intro G72 hM H locs hB a_h0 x70 i_x70 x71 i_x71 hn_38 gi_38 ls hl
                    refine lv_iload hx hb dX12_laysPeals_38 (lv_at hl 0 rfl) ?_
                    refine lv_aload_n hx hb dX12_laysPeals_40 rfl (lv_at hl 5 rfl) ?_
                    refine iv_geti0 X ft_X12 hB a_h0 sh_12 31 (by decide) rfl k_fl_X12_447 dX12_laysPeals_41 e_x1 ?_
                    refine lv_icmp_ge (tgt := 104) hx hb dX12_laysPeals_44 (by decide) (fun c73 => ?_) (fun c73 => ?_)
                    · skip
                      refine lv_aload_n hx hb dX12_laysPeals_104 rfl (lv_at hl 5 rfl) ?_
                      refine iv_getr X ft_X12 hB a_h0 sh_12 30 (by decide) rfl k_fl_X12_53 dX12_laysPeals_105 (fun b74 g_b74 r_b74 e_b74 a_b74 => ?_)
                      refine lv_bipush (v := 9) hx hb dX12_laysPeals_108 (by decide) ?_
                      refine lv_iload_n hx hb dX12_laysPeals_110 rfl (lv_at hl 3 rfl) ?_
                      refine iv_imul hx hb q_9 i7_x4 (lo := 0) (hi := 2295) (by decide) dX12_laysPeals_111 (fun x75 e_x75 i_x75 => ?_)
                      refine lv_iload_n hx hb dX12_laysPeals_112 rfl (lv_at hl 2 rfl) ?_
                      refine iv_iadd hx hb i_x75 i13_x9 (lo := 0) (hi := 2303) (by decide) dX12_laysPeals_113 (fun x76 e_x76 i_x76 => ?_)
                      refine lv_iload hx hb dX12_laysPeals_114 (lv_at hl 1 rfl) ?_
                      refine iv_ast X hB a_b74 sh_73 (iv_in i_x76 (by decide)) i_x70 dX12_laysPeals_116 (fun H locs hB => ?_)
                      have hm := iv_Md.ast (j := x76.toNatClampNeg) (x := x70) a_b74 rfl (by decide)
                      have h9 := iv_up_eq (G := G72) (a := b74) (k := (73, upd g_b74 x76.toNatClampNeg x70, r_b74))
                      generalize iv_up G72 b74 _ = G77 at hB hm h9
                      have hM := hM.stp hm (by decide)
                      have a_h0 := hm.at a_h0 (by decide)
                      have eq0 : x76.toNatClampNeg = 9 * x4.toInt.toNat + x9.toInt.toNat := by
                        show x76.toInt.toNat = _
                        have w1 : x75.toInt = (9 : Int32).toInt * x4.toInt := e_x75
                        have w2 : (9 : Int32).toInt = 9 := rfl
                        have w3 : x76.toInt = x75.toInt + x9.toInt := e_x76
                        rw [w2] at w1
                        omega
                      have t_go : G77 (r_h0 30) = some (73, upd go (9 * x4.toInt.toNat + x9.toInt.toNat) x70, r_b74) := by
                        have w1 := h9
                        rw [eq0, iv_samew gi_38.1 e_b74 a_b74, e_b74] at w1
                        exact w1
                      have nx := iv_lay.next (n := x70) hm8 hS2 (by have := i13_x9.2; omega) (by rw [hS4]; exact P1) (fun K q => P2 K (by omega)) gi_38.2
                      refine iv_iinc hx hb i13_x9 (lo := 1) (hi := 9) (by decide) dX12_laysPeals_117 hl (k := 2) rfl (by decide) (fun x79 ls e_x79 i_x79 hl => ?_)
                      have hl : lv_has ls 6 [(3, .int x79), (5, .int x71), (4, .int x70), (2, .int x4), (1, .int x3), (0, .ref h0)] := hl
                      refine lv_goto (tgt := 17) hx hb dX12_laysPeals_120 (by decide) ?_
                      exact ih_17 G77 hM _ _ hB a_h0 x79 (i_x79.wk (by decide)) (iv_mup (c := 1) i_x9 (by decide) (by decide) (by omega) hn_17) ⟨_, _, t_go, (by have w1 := nx.1; rw [hS4] at w1; exact w1), fun K q => nx.2 K (by have w1 : x79.toInt = x9.toInt + 1 := e_x79; omega)⟩ _ (lv_sub hl [0, 3, 4, 5] rfl)
                    · skip
                      have i79_x71 : iv_R 0 7 x71 := (i_x71.cutHi (n := 7) (iv_lt_r (iv_nle c73) i_x1 (by decide)))
                      have i80_x1 : iv_R 1 8 x1 := (i_x1.cutLo (n := 1) (iv_lt_l (iv_nle c73) i_x71 (by decide)))
                      refine lv_iload_n hx hb dX12_laysPeals_47 rfl (lv_at hl 2 rfl) ?_
                      refine lv_bipush (v := 8) hx hb dX12_laysPeals_48 (by decide) ?_
                      refine lv_icmp_eq (tgt := 61) hx hb dX12_laysPeals_50 (by decide) (fun c82 => ?_) (fun c82 => ?_)
                      · skip
                        have i82_x9 : iv_R 8 8 x9 := (i13_x9.cutLo (n := 8) (iv_eq_r c82 q_8).1)
                        refine lv_iload hx hb dX12_laysPeals_61 (lv_at hl 1 rfl) ?_
                        refine lv_aload_n hx hb dX12_laysPeals_63 rfl (lv_at hl 5 rfl) ?_
                        refine lv_iload hx hb dX12_laysPeals_64 (lv_at hl 0 rfl) ?_
                        refine lv_iload_n hx hb dX12_laysPeals_66 rfl (lv_at hl 2 rfl) ?_
                        refine lv_iload_n hx hb dX12_laysPeals_67 rfl (lv_at hl 3 rfl) ?_
                        refine iv_cVi X k_good k_mf_X12_canFollow k_im_X12_canFollow k_sel_X12_canFollow k_ml_X12_450 ft_X12 hB a_h0 sh_12 (As := [.int x71, .int x9, .int x4]) (e_X12_canFollow l D tys base G72 h0 g_h0 r_h0 a_h0 x71 i79_x71 x9 (i82_x9.wk (by decide)) x4 i7_x4 gw rw (hM.at h_gw0 (by decide)) gp rp (hM.at h_gp0 (by decide))) ⟨rfl, rfl⟩ ⟨Nat.le_of_ble_eq_true rfl, Nat.le_of_ble_eq_true rfl⟩ ⟨Nat.le_of_ble_eq_true rfl, Nat.le_of_ble_eq_true rfl⟩ rfl rfl hl.1 (Nat.le_of_ble_eq_true rfl) dX12_laysPeals_68 (fun x84 G9 H locs hq hB => ?_)
                        obtain ⟨rfl, i_x84, xp85⟩ := hq
                        refine lv_if_eq (tgt := 94) hx hb dX12_laysPeals_71 (by decide) (fun c86 => ?_) (fun c86 => ?_)
                        · skip
                          have i86_x84 : iv_R 0 0 x84 := (i_x84.cutHi (n := 0) (iv_eq_r c86 q_0).2)
                          refine lv_iconst (v := 0) hx hb dX12_laysPeals_94 (by decide) ?_
                          refine iv_iadd hx hb i_x70 q_0 (lo := (-2147483648)) (hi := 2147483647) (by decide) dX12_laysPeals_95 (fun x88 e_x88 i_x88 => ?_)
                          refine lv_istore (lv' := [(4, .int x88), (5, .int x71), (3, .int x9), (2, .int x4), (1, .int x3), (0, .ref h0)]) hx hb dX12_laysPeals_96 hl (by decide) rfl (fun ls hl => ?_)
                          refine iv_iinc hx hb i79_x71 (lo := 1) (hi := 8) (by decide) dX12_laysPeals_98 hl (k := 1) rfl (by decide) (fun x89 ls e_x89 i_x89 hl => ?_)
                          have hl : lv_has ls 6 [(5, .int x89), (4, .int x88), (3, .int x9), (2, .int x4), (1, .int x3), (0, .ref h0)] := hl
                          refine lv_goto (tgt := 38) hx hb dX12_laysPeals_101 (by decide) ?_
                          exact ih_38 G72 hM _ _ hB a_h0 x88 i_x88 x89 (i_x89.wk (by decide)) (iv_mup (c := 1) i_x71 (by decide) (by decide) (by omega) hn_38) ⟨gi_38.1, gi_38.2.skip (Int32.toInt_inj.mp (by have w1 : x88.toInt = x70.toInt + (0 : Int32).toInt := e_x88; have z0 : (0 : Int32).toInt = 0 := rfl; omega)) (by have w1 : x89.toInt = x71.toInt + 1 := e_x89; omega)⟩ _ (lv_sub hl [0, 1, 2, 3, 4, 5] rfl)
                        · skip
                          have i89_x84 : iv_R 1 1 x84 := iv_ne_lo c86 i_x84 q_0 (by decide)
                          refine lv_aload_n hx hb dX12_laysPeals_74 rfl (lv_at hl 5 rfl) ?_
                          refine iv_getr X ft_X12 hB a_h0 sh_12 30 (by decide) rfl k_fl_X12_53 dX12_laysPeals_75 (fun b91 g_b91 r_b91 e_b91 a_b91 => ?_)
                          refine lv_bipush (v := 9) hx hb dX12_laysPeals_78 (by decide) ?_
                          refine lv_iload_n hx hb dX12_laysPeals_80 rfl (lv_at hl 3 rfl) ?_
                          refine lv_iconst (v := 1) hx hb dX12_laysPeals_81 (by decide) ?_
                          refine lv_iload hx hb dX12_laysPeals_82 (lv_at hl 0 rfl) ?_
                          refine iv_shl1 hx hb i79_x71 (lo := 1) (hi := 128) (by decide) dX12_laysPeals_84 (fun x92 e_x92 i_x92 => ?_)
                          refine iv_ior hx hb i7_x4 i_x92 (k := 8) (hi := 255) (by decide) dX12_laysPeals_85 (fun x93 e_x93 i_x93 => ?_)
                          refine iv_imul hx hb q_9 i_x93 (lo := 0) (hi := 2295) (by decide) dX12_laysPeals_86 (fun x94 e_x94 i_x94 => ?_)
                          refine lv_iload hx hb dX12_laysPeals_87 (lv_at hl 0 rfl) ?_
                          refine iv_iadd hx hb i_x94 i79_x71 (lo := 0) (hi := 2302) (by decide) dX12_laysPeals_89 (fun x95 e_x95 i_x95 => ?_)
                          refine iv_ald X hB a_b91 sh_73 (iv_in i_x95 (by decide)) dX12_laysPeals_90 (fun x96 e_x96 i_x96 => ?_)
                          refine lv_goto (tgt := 95) hx hb dX12_laysPeals_91 (by decide) ?_
                          refine lv_iadd hx hb dX12_laysPeals_95 ?_
                          refine lv_topi (fun x97 e_x97 => ?_)
                          have i_x97 := iv_R.all x97
                          refine lv_istore (lv' := [(4, .int x97), (5, .int x71), (3, .int x9), (2, .int x4), (1, .int x3), (0, .ref h0)]) hx hb dX12_laysPeals_96 hl (by decide) rfl (fun ls hl => ?_)
                          refine iv_iinc hx hb i79_x71 (lo := 1) (hi := 8) (by decide) dX12_laysPeals_98 hl (k := 1) rfl (by decide) (fun x98 ls e_x98 i_x98 hl => ?_)
                          have hl : lv_has ls 6 [(5, .int x98), (4, .int x97), (3, .int x9), (2, .int x4), (1, .int x3), (0, .ref h0)] := hl
                          refine lv_goto (tgt := 38) hx hb dX12_laysPeals_101 (by decide) ?_
                          exact ih_38 G72 hM _ _ hB a_h0 x97 i_x97 x98 (i_x98.wk (by decide)) (iv_mup (c := 1) i_x71 (by decide) (by decide) (by omega) hn_38) ⟨gi_38.1, gi_38.2.take (i := x71.toInt.toNat) e_x97 (by have w1 : x98.toInt = x71.toInt + 1 := e_x98; omega) (Int.toNat_of_nonneg i79_x71.1) (by have w1 := Int32.lt_iff_toInt_lt.mp (iv_nle c73); have w2 := i79_x71.1; omega) (xp85.1 c86) (by rw [e_x96, iv_samew gi_38.1 e_b91 a_b91]; exact congrArg go (by show x95.toInt.toNat = _; have w1 := iv_bor (by first | exact i7_x4 | exact (i7_x4.wk (by decide))) (by first | exact i79_x71 | exact (i79_x71.wk (by decide))) e_x92 e_x93; have w2 : x94.toInt = (9 : Int32).toInt * x93.toInt := e_x94; have w3 : (9 : Int32).toInt = 9 := rfl; have w4 : x95.toInt = x94.toInt + x71.toInt := e_x95; have w5 := i79_x71.1; rw [w3] at w2; omega))⟩ _ (lv_sub hl [0, 1, 2, 3, 4, 5] rfl)
                      · skip
                        have i98_x9 : iv_R 0 7 x9 := iv_ne_hi c82 i13_x9 q_8 (by decide)
                        refine lv_iload_n hx hb dX12_laysPeals_53 rfl (lv_at hl 2 rfl) ?_
                        refine lv_aload_n hx hb dX12_laysPeals_54 rfl (lv_at hl 5 rfl) ?_
                        refine iv_geti0 X ft_X12 hB a_h0 sh_12 31 (by decide) rfl k_fl_X12_447 dX12_laysPeals_55 e_x1 ?_
                        refine lv_icmp_ge (tgt := 104) hx hb dX12_laysPeals_58 (by decide) (fun c100 => ?_) (fun c100 => ?_)
                        · skip
                          have i100_x1 : iv_R 1 7 x1 := (i80_x1.cutHi (n := 7) (iv_le_r c100 i98_x9))
                          have i101_x9 : iv_R 1 7 x9 := (i98_x9.cutLo (n := 1) (iv_le_l c100 i80_x1))
                          refine lv_aload_n hx hb dX12_laysPeals_104 rfl (lv_at hl 5 rfl) ?_
                          refine iv_getr X ft_X12 hB a_h0 sh_12 30 (by decide) rfl k_fl_X12_53 dX12_laysPeals_105 (fun b103 g_b103 r_b103 e_b103 a_b103 => ?_)
                          refine lv_bipush (v := 9) hx hb dX12_laysPeals_108 (by decide) ?_
                          refine lv_iload_n hx hb dX12_laysPeals_110 rfl (lv_at hl 3 rfl) ?_
                          refine iv_imul hx hb q_9 i7_x4 (lo := 0) (hi := 2295) (by decide) dX12_laysPeals_111 (fun x104 e_x104 i_x104 => ?_)
                          refine lv_iload_n hx hb dX12_laysPeals_112 rfl (lv_at hl 2 rfl) ?_
                          refine iv_iadd hx hb i_x104 i101_x9 (lo := 1) (hi := 2302) (by decide) dX12_laysPeals_113 (fun x105 e_x105 i_x105 => ?_)
                          refine lv_iload hx hb dX12_laysPeals_114 (lv_at hl 1 rfl) ?_
                          refine iv_ast X hB a_b103 sh_73 (iv_in i_x105 (by decide)) i_x70 dX12_laysPeals_116 (fun H locs hB => ?_)
                          have hm := iv_Md.ast (j := x105.toNatClampNeg) (x := x70) a_b103 rfl (by decide)
                          have h9 := iv_up_eq (G := G72) (a := b103) (k := (73, upd g_b103 x105.toNatClampNeg x70, r_b103))
                          generalize iv_up G72 b103 _ = G106 at hB hm h9
                          have hM := hM.stp hm (by decide)
                          have a_h0 := hm.at a_h0 (by decide)
                          have eq0 : x105.toNatClampNeg = 9 * x4.toInt.toNat + x9.toInt.toNat := by
                            show x105.toInt.toNat = _
                            have w1 : x104.toInt = (9 : Int32).toInt * x4.toInt := e_x104
                            have w2 : (9 : Int32).toInt = 9 := rfl
                            have w3 : x105.toInt = x104.toInt + x9.toInt := e_x105
                            rw [w2] at w1
                            omega
                          have t_go : G106 (r_h0 30) = some (73, upd go (9 * x4.toInt.toNat + x9.toInt.toNat) x70, r_b103) := by
                            have w1 := h9
                            rw [eq0, iv_samew gi_38.1 e_b103 a_b103, e_b103] at w1
                            exact w1
                          have nx := iv_lay.next (n := x70) hm8 hS2 (by have := i101_x9.2; omega) (by rw [hS4]; exact P1) (fun K q => P2 K (by omega)) gi_38.2
                          refine iv_iinc hx hb i101_x9 (lo := 2) (hi := 8) (by decide) dX12_laysPeals_117 hl (k := 2) rfl (by decide) (fun x108 ls e_x108 i_x108 hl => ?_)
                          have hl : lv_has ls 6 [(3, .int x108), (5, .int x71), (4, .int x70), (2, .int x4), (1, .int x3), (0, .ref h0)] := hl
                          refine lv_goto (tgt := 17) hx hb dX12_laysPeals_120 (by decide) ?_
                          exact ih_17 G106 hM _ _ hB a_h0 x108 (i_x108.wk (by decide)) (iv_mup (c := 1) i_x9 (by decide) (by decide) (by omega) hn_17) ⟨_, _, t_go, (by have w1 := nx.1; rw [hS4] at w1; exact w1), fun K q => nx.2 K (by have w1 : x108.toInt = x9.toInt + 1 := e_x108; omega)⟩ _ (lv_sub hl [0, 3, 4, 5] rfl)
                        · skip
                          refine lv_iload hx hb dX12_laysPeals_61 (lv_at hl 1 rfl) ?_
                          refine lv_aload_n hx hb dX12_laysPeals_63 rfl (lv_at hl 5 rfl) ?_
                          refine lv_iload hx hb dX12_laysPeals_64 (lv_at hl 0 rfl) ?_
                          refine lv_iload_n hx hb dX12_laysPeals_66 rfl (lv_at hl 2 rfl) ?_
                          refine lv_iload_n hx hb dX12_laysPeals_67 rfl (lv_at hl 3 rfl) ?_
                          refine iv_cVi X k_good k_mf_X12_canFollow k_im_X12_canFollow k_sel_X12_canFollow k_ml_X12_450 ft_X12 hB a_h0 sh_12 (As := [.int x71, .int x9, .int x4]) (e_X12_canFollow l D tys base G72 h0 g_h0 r_h0 a_h0 x71 i79_x71 x9 (i98_x9.wk (by decide)) x4 i7_x4 gw rw (hM.at h_gw0 (by decide)) gp rp (hM.at h_gp0 (by decide))) ⟨rfl, rfl⟩ ⟨Nat.le_of_ble_eq_true rfl, Nat.le_of_ble_eq_true rfl⟩ ⟨Nat.le_of_ble_eq_true rfl, Nat.le_of_ble_eq_true rfl⟩ rfl rfl hl.1 (Nat.le_of_ble_eq_true rfl) dX12_laysPeals_68 (fun x109 G9 H locs hq hB => ?_)
                          obtain ⟨rfl, i_x109, xp110⟩ := hq
                          refine lv_if_eq (tgt := 94) hx hb dX12_laysPeals_71 (by decide) (fun c111 => ?_) (fun c111 => ?_)
                          · skip
                            have i111_x109 : iv_R 0 0 x109 := (i_x109.cutHi (n := 0) (iv_eq_r c111 q_0).2)
                            refine lv_iconst (v := 0) hx hb dX12_laysPeals_94 (by decide) ?_
                            refine iv_iadd hx hb i_x70 q_0 (lo := (-2147483648)) (hi := 2147483647) (by decide) dX12_laysPeals_95 (fun x113 e_x113 i_x113 => ?_)
                            refine lv_istore (lv' := [(4, .int x113), (5, .int x71), (3, .int x9), (2, .int x4), (1, .int x3), (0, .ref h0)]) hx hb dX12_laysPeals_96 hl (by decide) rfl (fun ls hl => ?_)
                            refine iv_iinc hx hb i79_x71 (lo := 1) (hi := 8) (by decide) dX12_laysPeals_98 hl (k := 1) rfl (by decide) (fun x114 ls e_x114 i_x114 hl => ?_)
                            have hl : lv_has ls 6 [(5, .int x114), (4, .int x113), (3, .int x9), (2, .int x4), (1, .int x3), (0, .ref h0)] := hl
                            refine lv_goto (tgt := 38) hx hb dX12_laysPeals_101 (by decide) ?_
                            exact ih_38 G72 hM _ _ hB a_h0 x113 i_x113 x114 (i_x114.wk (by decide)) (iv_mup (c := 1) i_x71 (by decide) (by decide) (by omega) hn_38) ⟨gi_38.1, gi_38.2.skip (Int32.toInt_inj.mp (by have w1 : x113.toInt = x70.toInt + (0 : Int32).toInt := e_x113; have z0 : (0 : Int32).toInt = 0 := rfl; omega)) (by have w1 : x114.toInt = x71.toInt + 1 := e_x114; omega)⟩ _ (lv_sub hl [0, 1, 2, 3, 4, 5] rfl)
                          · skip
                            have i114_x109 : iv_R 1 1 x109 := iv_ne_lo c111 i_x109 q_0 (by decide)
                            refine lv_aload_n hx hb dX12_laysPeals_74 rfl (lv_at hl 5 rfl) ?_
                            refine iv_getr X ft_X12 hB a_h0 sh_12 30 (by decide) rfl k_fl_X12_53 dX12_laysPeals_75 (fun b116 g_b116 r_b116 e_b116 a_b116 => ?_)
                            refine lv_bipush (v := 9) hx hb dX12_laysPeals_78 (by decide) ?_
                            refine lv_iload_n hx hb dX12_laysPeals_80 rfl (lv_at hl 3 rfl) ?_
                            refine lv_iconst (v := 1) hx hb dX12_laysPeals_81 (by decide) ?_
                            refine lv_iload hx hb dX12_laysPeals_82 (lv_at hl 0 rfl) ?_
                            refine iv_shl1 hx hb i79_x71 (lo := 1) (hi := 128) (by decide) dX12_laysPeals_84 (fun x117 e_x117 i_x117 => ?_)
                            refine iv_ior hx hb i7_x4 i_x117 (k := 8) (hi := 255) (by decide) dX12_laysPeals_85 (fun x118 e_x118 i_x118 => ?_)
                            refine iv_imul hx hb q_9 i_x118 (lo := 0) (hi := 2295) (by decide) dX12_laysPeals_86 (fun x119 e_x119 i_x119 => ?_)
                            refine lv_iload hx hb dX12_laysPeals_87 (lv_at hl 0 rfl) ?_
                            refine iv_iadd hx hb i_x119 i79_x71 (lo := 0) (hi := 2302) (by decide) dX12_laysPeals_89 (fun x120 e_x120 i_x120 => ?_)
                            refine iv_ald X hB a_b116 sh_73 (iv_in i_x120 (by decide)) dX12_laysPeals_90 (fun x121 e_x121 i_x121 => ?_)
                            refine lv_goto (tgt := 95) hx hb dX12_laysPeals_91 (by decide) ?_
                            refine lv_iadd hx hb dX12_laysPeals_95 ?_
                            refine lv_topi (fun x122 e_x122 => ?_)
                            have i_x122 := iv_R.all x122
                            refine lv_istore (lv' := [(4, .int x122), (5, .int x71), (3, .int x9), (2, .int x4), (1, .int x3), (0, .ref h0)]) hx hb dX12_laysPeals_96 hl (by decide) rfl (fun ls hl => ?_)
                            refine iv_iinc hx hb i79_x71 (lo := 1) (hi := 8) (by decide) dX12_laysPeals_98 hl (k := 1) rfl (by decide) (fun x123 ls e_x123 i_x123 hl => ?_)
                            have hl : lv_has ls 6 [(5, .int x123), (4, .int x122), (3, .int x9), (2, .int x4), (1, .int x3), (0, .ref h0)] := hl
                            refine lv_goto (tgt := 38) hx hb dX12_laysPeals_101 (by decide) ?_
                            exact ih_38 G72 hM _ _ hB a_h0 x122 i_x122 x123 (i_x123.wk (by decide)) (iv_mup (c := 1) i_x71 (by decide) (by decide) (by omega) hn_38) ⟨gi_38.1, gi_38.2.take (i := x71.toInt.toNat) e_x122 (by have w1 : x123.toInt = x71.toInt + 1 := e_x123; omega) (Int.toNat_of_nonneg i79_x71.1) (by have w1 := Int32.lt_iff_toInt_lt.mp (iv_nle c73); have w2 := i79_x71.1; omega) (xp110.1 c111) (by rw [e_x121, iv_samew gi_38.1 e_b116 a_b116]; exact congrArg go (by show x120.toInt.toNat = _; have w1 := iv_bor (by first | exact i7_x4 | exact (i7_x4.wk (by decide))) (by first | exact i79_x71 | exact (i79_x71.wk (by decide))) e_x117 e_x118; have w2 : x119.toInt = (9 : Int32).toInt * x118.toInt := e_x119; have w3 : (9 : Int32).toInt = 9 := rfl; have w4 : x120.toInt = x119.toInt + x71.toInt := e_x120; have w5 := i79_x71.1; rw [w3] at w2; omega))⟩ _ (lv_sub hl [0, 1, 2, 3, 4, 5] rfl)
                exact L_38 _ G10 hM _ _ hB a_h0 1 (q_1.wk (by decide)) 0 (q_0.wk (by decide)) (Nat.lt_succ_self _) ⟨t_go, fun _ => Or.inl (by have w1 := congrArg Int32.toInt (show x4 = x3 by assumption); omega)⟩ _ (lv_sub hl [0, 1, 2, 3, 4, 5] rfl)
        exact L_17 _ G5 hM _ _ hB a_h0 0 (q_0.wk (by decide)) (Nat.lt_succ_self _) ⟨go, qo, t_go, P1, fun K q => absurd q (by have z0 : (0 : Int32).toInt = 0 := rfl; omega)⟩ _ (lv_sub hl [0, 1, 2, 3] rfl)
  exact L_11 _ G hM _ _ hB a_h0 x3 (i_x3.wk (by decide)) (Nat.lt_succ_self _) ⟨go0, qo0, t_go0, (fun S L q1 q2 _ => absurd q1 (by omega)), Int.le_refl _⟩ _ (lv_sub hl [0, 1, 2] rfl)
