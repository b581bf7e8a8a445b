/-! the parser of the reference: places go on, signs are laid at most one a byte, what is laid can be worked off -/
def iv_sv (n : Int32) (gt : Nat → Int32) (k : Int32) : Int32 := if k < n then gt k.toNatClampNeg else -1
def iv_dg (x : Int32) : Int32 := if 48 ≤ x.toInt ∧ x.toInt ≤ 57 then 1 else 0
def iv_le (x : Int32) : Int32 := if (97 ≤ x.toInt ∧ x.toInt ≤ 122) ∨ (65 ≤ x.toInt ∧ x.toInt ≤ 90) then 1 else 0
def iv_J (g : Nat → Int32) : Prop := (g 18).toInt ≤ (g 16).toInt ∧ (2 ≤ (g 17).toInt → (g 18).toInt < (g 16).toInt)
def iv_nx (h : Nat) (g : Nat → Int32) (G' : iv_G) : Prop := ∀ (g' : Nat → Int32) (r' : Nat → Nat), G' h = some (12, g', r') → (g 16).toInt ≤ (g' 18).toInt ∧ iv_J g'
def iv_pr (d n : Int) (h : Nat) (G G' : iv_G) : Prop := ∀ (g : Nat → Int32) (r : Nat → Nat), G h = some (12, g, r) → ∃ g' : Nat → Int32, G' h = some (12, g', r) ∧ iv_J g' ∧ (0 ≤ (g' 13).toInt - (g 13).toInt ∧ n ≤ (g' 13).toInt - (g 13).toInt ∧ (g' 13).toInt - (g 13).toInt + d ≤ (g' 18).toInt - (g 18).toInt) ∧ (g' 12 = g 12 ∧ g' 14 = g 14 ∧ g' 15 = g 15) ∧ ∀ (f : Nat → Int32) (q : Nat → Nat), G (r 6) = some (64, f, q) → ∃ f' : Nat → Int32, G' (r 6) = some (64, f', q) ∧ ∀ i : Nat, (i : Int) < 2 * (g 13).toInt → f' i = f i
theorem iv_pr.rf {h : Nat} {G : iv_G} {g : Nat → Int32} {r : Nat → Nat} (ha : G h = some (12, g, r)) (hJ : iv_J g) : iv_pr 0 0 h G G := fun g' r' h' => by
  have e := ha.symm.trans h'
  cases e
  exact ⟨g, ha, hJ, by omega, ⟨rfl, rfl, rfl⟩, fun f q hf => ⟨f, hf, fun _ _ => rfl⟩⟩
theorem iv_pr.tr {d n d' n' : Int} {h : Nat} {G G1 G2 : iv_G} (h1 : iv_pr d n h G G1) (h2 : iv_pr d' n' h G1 G2) : iv_pr (d + d') (n + n') h G G2 := fun g r ha => by
  obtain ⟨g1, a1, j1, l1, e1, f1⟩ := h1 g r ha
  obtain ⟨g2, a2, j2, l2, e2, f2⟩ := h2 g1 r a1
  refine ⟨g2, a2, j2, by omega, ⟨e2.1.trans e1.1, e2.2.1.trans e1.2.1, e2.2.2.trans e1.2.2⟩, fun f q hf => ?_⟩
  obtain ⟨f', b1, c1⟩ := f1 f q hf
  obtain ⟨f'', b2, c2⟩ := f2 f' q b1
  exact ⟨f'', b2, fun i hi => (c2 i (by omega)).trans (c1 i hi)⟩
theorem iv_pr.wk {d n d' n' : Int} {h : Nat} {G G1 : iv_G} (h1 : iv_pr d n h G G1) (e : d' ≤ d ∧ n' ≤ n) : iv_pr d' n' h G G1 := fun g r ha => by
  obtain ⟨g1, a1, j1, l1, e1, f1⟩ := h1 g r ha
  exact ⟨g1, a1, j1, by omega, e1, f1⟩
theorem iv_pr.at {d n : Int} {h : Nat} {G G1 : iv_G} {g g' : Nat → Int32} {r r' : Nat → Nat} (h1 : iv_pr d n h G G1) (ha : G h = some (12, g, r)) (ha' : G1 h = some (12, g', r')) : r' = r ∧ iv_J g' ∧ (0 ≤ (g' 13).toInt - (g 13).toInt ∧ n ≤ (g' 13).toInt - (g 13).toInt ∧ (g' 13).toInt - (g 13).toInt + d ≤ (g' 18).toInt - (g 18).toInt) ∧ (g' 12 = g 12 ∧ g' 14 = g 14 ∧ g' 15 = g 15) ∧ ∀ (f : Nat → Int32) (q : Nat → Nat), G (r 6) = some (64, f, q) → ∃ f' : Nat → Int32, G1 (r 6) = some (64, f', q) ∧ ∀ i : Nat, (i : Int) < 2 * (g 13).toInt → f' i = f i := by
  obtain ⟨g1, a1, j1, l1, e1, f1⟩ := h1 g r ha
  have e := a1.symm.trans ha'
  cases e
  exact ⟨rfl, j1, l1, e1, f1⟩
theorem iv_pr.J {d n : Int} {h : Nat} {G G1 : iv_G} {g g' : Nat → Int32} {r r' : Nat → Nat} (h1 : iv_pr d n h G G1) (ha : G h = some (12, g, r)) (ha' : G1 h = some (12, g', r')) : iv_J g' := (h1.at ha ha').2.1
theorem iv_pr.le {d n : Int} {h : Nat} {G G1 : iv_G} {g g' : Nat → Int32} {r r' : Nat → Nat} (h1 : iv_pr d n h G G1) (e : 0 ≤ d) (ha : G h = some (12, g, r)) (ha' : G1 h = some (12, g', r')) (hE : (g 13).toInt ≤ (g 18).toInt) : (g' 13).toInt ≤ (g' 18).toInt := by
  have w := (h1.at ha ha').2.2.1
  omega
theorem iv_pr.gt {d n : Int} {h : Nat} {G G1 : iv_G} {g g' : Nat → Int32} {r r' : Nat → Nat} (h1 : iv_pr d n h G G1) (e : 1 ≤ d + n) (ha : G h = some (12, g, r)) (ha' : G1 h = some (12, g', r')) : (g 18).toInt < (g' 18).toInt := by
  have w := (h1.at ha ha').2.2.1
  omega
theorem iv_pr.s12 {d n : Int} {h : Nat} {G G1 : iv_G} {g g' : Nat → Int32} {r r' : Nat → Nat} (h1 : iv_pr d n h G G1) (ha : G h = some (12, g, r)) (ha' : G1 h = some (12, g', r')) : g' 12 = g 12 := (h1.at ha ha').2.2.2.1.1
theorem iv_pr.s14 {d n : Int} {h : Nat} {G G1 : iv_G} {g g' : Nat → Int32} {r r' : Nat → Nat} (h1 : iv_pr d n h G G1) (ha : G h = some (12, g, r)) (ha' : G1 h = some (12, g', r')) : g' 14 = g 14 := (h1.at ha ha').2.2.2.1.2.1
theorem iv_sl12 {D : va_G} {tys : List (ClassId × FieldType)} {base : Nat} {G : iv_G} {H0 H : Heap} {locs : List Loc} {a : Nat} {g : Nat → Int32} {r : Nat → Nat} (hB : iv_B iv_sh D classes tys base G H0 H locs) (ha : G a = some (12, g, r)) (j : Nat) (hj : j < 32) {lo hi : Int} (ht : ts_12 (12, g, r) j = .inl (lo, hi)) : iv_R lo hi (g j) := by
  obtain ⟨q, h1, h2, h3⟩ := (hB.got ha).obj sh_12
  have hq : q = (RX12, TX12, 32) := Option.some.inj (h1.symm.trans ft_X12.1)
  subst hq
  have h4 := h3 j hj
  rw [ht] at h4
  exact h4
theorem iv_s18 {D : va_G} {tys : List (ClassId × FieldType)} {base : Nat} {G : iv_G} {H0 H : Heap} {locs : List Loc} {a : Nat} {g : Nat → Int32} {r : Nat → Nat} (hB : iv_B iv_sh D classes tys base G H0 H locs) (ha : G a = some (12, g, r)) : iv_R 0 400 (g 18) ∧ iv_R 0 410 (g 13) := ⟨iv_sl12 hB ha 18 (by decide) rfl, iv_sl12 hB ha 13 (by decide) rfl⟩
theorem iv_get64 {D : va_G} {tys : List (ClassId × FieldType)} {base : Nat} {G : iv_G} {H0 H : Heap} {locs : List Loc} {a : Nat} {g : Nat → Int32} {r : Nat → Nat} (hB : iv_B iv_sh D classes tys base G H0 H locs) (ha : G a = some (12, g, r)) : ∃ (f : Nat → Int32) (q : Nat → Nat), G (r 6) = some (64, f, q) := by
  obtain ⟨q, h1, h2, h3⟩ := (hB.got ha).obj sh_12
  have hq : q = (RX12, TX12, 32) := Option.some.inj (h1.symm.trans ft_X12.1)
  subst hq
  obtain ⟨⟨c', g', r'⟩, h5, h6⟩ : ∃ k' : iv_K, G (r 6) = some k' ∧ k'.1 = 64 := h3 6 (by decide)
  have h6 : c' = 64 := h6
  subst h6
  exact ⟨g', r', h5⟩
theorem iv_pr.ly {d n : Int} {h : Nat} {G G1 : iv_G} {g g' : Nat → Int32} {r r' : Nat → Nat} (h1 : iv_pr d n h G G1) (e : -9 ≤ d) (ha : G h = some (12, g, r)) (ha' : G1 h = some (12, g', r')) (hE : (g 13).toInt ≤ (g 18).toInt) (hs : iv_R 0 400 (g' 18) ∧ iv_R 0 410 (g' 13)) : iv_R 0 409 (g' 13) := by
  have w := (h1.at ha ha').2.2.1
  have w1 := hs.1.2
  have w2 := hs.2.1
  exact ⟨w2, by omega⟩
theorem iv_mea {P : Prop} {x y : Int32} {n : Nat} (h : x.toInt < y.toInt) (hs : iv_R 0 400 y ∧ P) (hn : (401 - x.toInt).toNat < n + 1) : (401 - y.toInt).toNat < n := by
  have w := hs.1.2
  omega
theorem iv_pr.mdE {G1 G2 : iv_G} {h : Nat} {g1 : Nat → Int32} {r1 : Nat → Nat} (hm : iv_Md [12] G1 G2) (a1 : G1 h = some (12, g1, r1)) : ∃ g2 : Nat → Int32, G2 h = some (12, g2, r1) ∧ (g2 12 = g1 12 ∧ g2 14 = g1 14 ∧ g2 15 = g1 15) ∧ g2 13 = g1 13 := by
  obtain ⟨g2, r2, c2, rel⟩ := hm.ex a1
  have e : r2 = r1 := funext fun j => rel.1 j (fun h => absurd (show (12 : Nat) = 5 from h) (by decide))
  subst e
  exact ⟨g2, c2, ⟨rel.2.1 12 (show (12 : Nat) ∈ iv_stab 12 from by decide), rel.2.1 14 (show (14 : Nat) ∈ iv_stab 12 from by decide), rel.2.1 15 (show (15 : Nat) ∈ iv_stab 12 from by decide)⟩, rel.2.1 13 (show (13 : Nat) ∈ iv_stab 12 from by decide)⟩
theorem iv_pr.next {d n : Int} {h : Nat} {G G1 G2 : iv_G} {g1 : Nat → Int32} {r1 : Nat → Nat} (hL : iv_pr d n h G G1) (hm : iv_Md [12] G1 G2) (a1 : G1 h = some (12, g1, r1)) (xp : iv_nx h g1 G2) : iv_pr d n h G G2 := fun g r ha => by
  obtain ⟨g0, b1, j1, l1, e1, f1⟩ := hL g r ha
  have e := b1.symm.trans a1
  cases e
  obtain ⟨g2, c2, st, st3⟩ := iv_pr.mdE hm a1
  have w := xp g2 _ c2
  have w1 := j1.1
  refine ⟨g2, c2, w.2, by rw [st3]; omega, ⟨st.1.trans e1.1, st.2.1.trans e1.2.1, st.2.2.trans e1.2.2⟩, fun f q hf => ?_⟩
  obtain ⟨f', b3, c3⟩ := f1 f q hf
  exact ⟨f', hm.at b3 (by decide), c3⟩
theorem iv_pr.next1 {d n : Int} {h : Nat} {G G1 G2 : iv_G} {g1 : Nat → Int32} {r1 : Nat → Nat} (hL : iv_pr d n h G G1) (hm : iv_Md [12] G1 G2) (a1 : G1 h = some (12, g1, r1)) (xp : iv_nx h g1 G2) (ht : 2 ≤ (g1 17).toInt) : iv_pr (d + 1) n h G G2 := fun g r ha => by
  obtain ⟨g0, b1, j1, l1, e1, f1⟩ := hL g r ha
  have e := b1.symm.trans a1
  cases e
  obtain ⟨g2, c2, st, st3⟩ := iv_pr.mdE hm a1
  have w := xp g2 _ c2
  have w1 := j1.2 ht
  refine ⟨g2, c2, w.2, by rw [st3]; omega, ⟨st.1.trans e1.1, st.2.1.trans e1.2.1, st.2.2.trans e1.2.2⟩, fun f q hf => ?_⟩
  obtain ⟨f', b3, c3⟩ := f1 f q hf
  exact ⟨f', hm.at b3 (by decide), c3⟩
theorem iv_pr.put {d n : Int} {h : Nat} {G G1 : iv_G} {g1 : Nat → Int32} {r1 : Nat → Nat} {j : Nat} {x : Int32} (hL : iv_pr d n h G G1) (a1 : G1 h = some (12, g1, r1)) (hj : j ∉ [12, 13, 14, 15, 16, 17, 18]) : iv_pr d n h G (iv_up G1 h (12, upd g1 j x, r1)) := fun g r ha => by
  obtain ⟨g0, b1, j1, l1, e1, f1⟩ := hL g r ha
  have e := b1.symm.trans a1
  cases e
  have ne : ∀ i, i ∈ [12, 13, 14, 15, 16, 17, 18] → upd g1 j x i = g1 i := fun i hi => by
    have q : i ≠ j := fun e => hj (e ▸ hi)
    simp [upd, q]
  have n13 := ne 13 (by decide)
  have n16 := ne 16 (by decide)
  have n17 := ne 17 (by decide)
  have n18 := ne 18 (by decide)
  refine ⟨_, iv_up_eq, ?_, by rw [n13, n18]; exact l1, ⟨(ne 12 (by decide)).trans e1.1, (ne 14 (by decide)).trans e1.2.1, (ne 15 (by decide)).trans e1.2.2⟩, fun f q hf => ?_⟩
  · unfold iv_J
    rw [n16, n17, n18]
    exact j1
  · obtain ⟨f', b3, c3⟩ := f1 f q hf
    exact ⟨f', iv_up_cd a1 b3 (fun e => absurd (show (64 : Nat) = 12 from e) (by decide)), c3⟩
theorem iv_pr.oth {d n : Int} {h b : Nat} {G G1 : iv_G} {cb : Nat} {gb : Nat → Int32} {rb : Nat → Nat} {k : iv_K} (hL : iv_pr d n h G G1) (a1 : G1 b = some (cb, gb, rb)) (hc : k.1 = cb) (hj : cb ≠ 12 ∧ cb ≠ 64) : iv_pr d n h G (iv_up G1 b k) := fun g r ha => by
  obtain ⟨g0, b1, j1, l1, e1, f1⟩ := hL g r ha
  refine ⟨g0, iv_up_cd a1 b1 (fun e => hj.1 (show (12 : Nat) = cb from e).symm), j1, l1, e1, fun f q hf => ?_⟩
  obtain ⟨f', b3, c3⟩ := f1 f q hf
  exact ⟨f', iv_up_cd a1 b3 (fun e => hj.2 (show (64 : Nat) = cb from e).symm), c3⟩
/-- one sign more -/
def iv_ly (h : Nat) (k v : Int32) (G G' : iv_G) : Prop := ∀ (g : Nat → Int32) (r : Nat → Nat) (f : Nat → Int32) (q : Nat → Nat), G h = some (12, g, r) → G (r 6) = some (64, f, q) → ∃ (x : Int32) (f' : Nat → Int32), x.toInt = (g 13).toInt + 1 ∧ G' h = some (12, upd g 13 x, r) ∧ G' (r 6) = some (64, f', q) ∧ f' (2 * (g 13).toInt.toNat) = k ∧ f' (2 * (g 13).toInt.toNat + 1) = v ∧ ∀ i : Nat, i < 2 * (g 13).toInt.toNat → f' i = f i
theorem iv_pr.lay {d n : Int} {h : Nat} {G G1 G2 : iv_G} {k v : Int32} {g1 : Nat → Int32} {r1 : Nat → Nat} (hL : iv_pr d n h G G1) (ly : iv_ly h k v G1 G2) (a1 : G1 h = some (12, g1, r1)) (hx : ∃ (f : Nat → Int32) (q : Nat → Nat), G1 (r1 6) = some (64, f, q)) : iv_pr (d - 1) (n + 1) h G G2 := fun g r ha => by
  obtain ⟨g0, b1, j1, l1, e1, f1⟩ := hL g r ha
  have e := b1.symm.trans a1
  cases e
  obtain ⟨f0, q0, h0⟩ := hx
  obtain ⟨x, f', ex, c2, c3, c4, c5, c6⟩ := ly _ _ _ _ a1 h0
  have n13 : upd g1 13 x 13 = x := by simp [upd]
  have n16 : upd g1 13 x 16 = g1 16 := by simp [upd]
  have n17 : upd g1 13 x 17 = g1 17 := by simp [upd]
  have n18 : upd g1 13 x 18 = g1 18 := by simp [upd]
  have n12 : upd g1 13 x 12 = g1 12 := by simp [upd]
  have n14 : upd g1 13 x 14 = g1 14 := by simp [upd]
  have n15 : upd g1 13 x 15 = g1 15 := by simp [upd]
  refine ⟨_, c2, ?_, by rw [n13, n18]; omega, ⟨n12.trans e1.1, n14.trans e1.2.1, n15.trans e1.2.2⟩, fun f q hf => ?_⟩
  · unfold iv_J
    rw [n16, n17, n18]
    exact j1
  · obtain ⟨f2, b3, d3⟩ := f1 f q hf
    have e := b3.symm.trans h0
    cases e
    exact ⟨f', c3, fun i hi => (c6 i (by omega)).trans (d3 i hi)⟩
theorem iv_ly.sl {h : Nat} {G1 G2 : iv_G} {k v : Int32} {g1 g2 : Nat → Int32} {r1 r2 : Nat → Nat} (ly : iv_ly h k v G1 G2) (a1 : G1 h = some (12, g1, r1)) (hx : ∃ (f : Nat → Int32) (q : Nat → Nat), G1 (r1 6) = some (64, f, q)) (a2 : G2 h = some (12, g2, r2)) (j : Nat) (hj : j ≠ 13) : g2 j = g1 j := by
  obtain ⟨f0, q0, h0⟩ := hx
  obtain ⟨x, f', ex, c2, _⟩ := ly _ _ _ _ a1 h0
  have e := c2.symm.trans a2
  cases e
  simp [upd, hj]
theorem iv_pr.ge {d n : Int} {h : Nat} {G G1 : iv_G} {g g' : Nat → Int32} {r r' : Nat → Nat} (h1 : iv_pr d n h G G1) (e : 0 ≤ d) (ha : G h = some (12, g, r)) (ha' : G1 h = some (12, g', r')) : (g 18).toInt ≤ (g' 18).toInt := by
  have w := (h1.at ha ha').2.2.1
  omega
/-- signs from place b on, n of them, over a pile of t numbers, leave u -/
def iv_sE (f : Nat → Int32) : Nat → Nat → Nat → Nat → Prop
  | 0, _, t, u => u = t
  | n + 1, b, t, u => (0 ≤ (f (2 * b)).toInt ∧ (f (2 * b)).toInt < 12 ∧ iv_sE f n (b + 1) (t + 1) u) ∨ ((f (2 * b)).toInt = 26 ∧ 1 ≤ t ∧ ¬ f (2 * b + 1) = 0 ∧ iv_sE f n (b + 1) t u) ∨ ((f (2 * b)).toInt = 30 ∧ 1 ≤ t ∧ iv_sE f n (b + 1) t u) ∨ (23 ≤ (f (2 * b)).toInt ∧ (f (2 * b)).toInt ≤ 32 ∧ (f (2 * b)).toInt ≠ 26 ∧ (f (2 * b)).toInt ≠ 30 ∧ 2 ≤ t ∧ iv_sE f n (b + 1) (t - 1) u)
theorem iv_sE_app {f : Nat → Int32} {m u w : Nat} : ∀ (n b t : Nat), iv_sE f n b t u → iv_sE f m (b + n) u w → iv_sE f (n + m) b t w := by
  intro n
  induction n with
  | zero =>
    intro b t h1 h2
    have h1 : u = t := h1
    subst h1
    rw [Nat.zero_add]
    exact h2
  | succ n ih =>
    intro b t h1 h2
    rw [Nat.succ_add]
    have h3 : iv_sE f m (b + 1 + n) u w := by rw [show b + 1 + n = b + (n + 1) from by omega]; exact h2
    unfold iv_sE at h1 ⊢
    rcases h1 with h | h | h | h
    · exact Or.inl ⟨h.1, h.2.1, ih _ _ h.2.2 h3⟩
    · exact Or.inr (Or.inl ⟨h.1, h.2.1, h.2.2.1, ih _ _ h.2.2.2 h3⟩)
    · exact Or.inr (Or.inr (Or.inl ⟨h.1, h.2.1, ih _ _ h.2.2 h3⟩))
    · exact Or.inr (Or.inr (Or.inr ⟨h.1, h.2.1, h.2.2.1, h.2.2.2.1, h.2.2.2.2.1, ih _ _ h.2.2.2.2.2 h3⟩))
theorem iv_sE_cong {f f' : Nat → Int32} {u : Nat} : ∀ (n b t : Nat), (∀ i, 2 * b ≤ i → i < 2 * (b + n) → f' i = f i) → iv_sE f n b t u → iv_sE f' n b t u := by
  intro n
  induction n with
  | zero => intro b t _ h; exact h
  | succ n ih =>
    intro b t e h
    have e0 := e (2 * b) (by omega) (by omega)
    have e1 := e (2 * b + 1) (by omega) (by omega)
    have e2 : ∀ i, 2 * (b + 1) ≤ i → i < 2 * (b + 1 + n) → f' i = f i := fun i h1 h2 => e i (by omega) (by omega)
    unfold iv_sE at h ⊢
    rw [e0, e1]
    rcases h with h | h | h | h
    · exact Or.inl ⟨h.1, h.2.1, ih _ _ e2 h.2.2⟩
    · exact Or.inr (Or.inl ⟨h.1, h.2.1, h.2.2.1, ih _ _ e2 h.2.2.2⟩)
    · exact Or.inr (Or.inr (Or.inl ⟨h.1, h.2.1, ih _ _ e2 h.2.2⟩))
    · exact Or.inr (Or.inr (Or.inr ⟨h.1, h.2.1, h.2.2.1, h.2.2.2.1, h.2.2.2.2.1, ih _ _ e2 h.2.2.2.2.2⟩))
theorem iv_sE_sg {f g : Nat → Int32} {o u : Nat} : ∀ (n b t : Nat), (∀ i, 2 * b ≤ i → i < 2 * (b + n) → g (o + i) = f i) → iv_sE f n b t u → iv_sg g o n b t := by
  intro n
  induction n with
  | zero => intro b t _ h; unfold iv_sg; trivial
  | succ n ih =>
    intro b t e h
    have e0 := e (2 * b) (by omega) (by omega)
    have e1 : g (o + 2 * b + 1) = f (2 * b + 1) := e (2 * b + 1) (by omega) (by omega)
    have e2 : ∀ i, 2 * (b + 1) ≤ i → i < 2 * (b + 1 + n) → g (o + i) = f i := fun i h1 h2 => e i (by omega) (by omega)
    unfold iv_sE at h
    unfold iv_sg
    rw [e0, e1]
    rcases h with h | h | h | h
    · exact Or.inl ⟨h.1, h.2.1, ih _ _ e2 h.2.2⟩
    · exact Or.inr (Or.inl ⟨h.1, h.2.1, h.2.2.1, ih _ _ e2 h.2.2.2⟩)
    · exact Or.inr (Or.inr (Or.inl ⟨h.1, h.2.1, ih _ _ e2 h.2.2⟩))
    · exact Or.inr (Or.inr (Or.inr ⟨h.1, h.2.1, h.2.2.1, h.2.2.2.1, h.2.2.2.2.1, ih _ _ e2 h.2.2.2.2.2⟩))
/-- what was laid between G and G' yields one number -/
def iv_cd (h : Nat) (G G' : iv_G) : Prop := ∀ (g : Nat → Int32) (r : Nat → Nat) (g' : Nat → Int32) (r' : Nat → Nat) (f' : Nat → Int32) (q' : Nat → Nat), G h = some (12, g, r) → G' h = some (12, g', r') → G' (r' 6) = some (64, f', q') → (0 ≤ (g 13).toInt ∧ (g 13).toInt ≤ (g' 13).toInt) ∧ ∀ t, iv_sE f' ((g' 13).toInt - (g 13).toInt).toNat (g 13).toInt.toNat t (t + 1)
theorem iv_cd.keep {h : Nat} {G G1 G2 : iv_G} {g1 : Nat → Int32} {r1 : Nat → Nat} (hC : iv_cd h G G1) (hm : iv_Md [12] G1 G2) (a1 : G1 h = some (12, g1, r1)) (hx : ∃ (f : Nat → Int32) (q : Nat → Nat), G1 (r1 6) = some (64, f, q)) : iv_cd h G G2 := fun g r g' r' f' q' ha ha' hf => by
  obtain ⟨f0, q0, h0⟩ := hx
  obtain ⟨g2, c2, st, st3⟩ := iv_pr.mdE hm a1
  have e := c2.symm.trans ha'
  cases e
  have e := (hm.at h0 (by decide)).symm.trans hf
  cases e
  rw [st3]
  exact hC g r _ _ _ _ ha a1 h0
theorem iv_cd.put {h : Nat} {G G1 : iv_G} {g1 : Nat → Int32} {r1 : Nat → Nat} {j : Nat} {x : Int32} (hC : iv_cd h G G1) (a1 : G1 h = some (12, g1, r1)) (hj : (13 : Nat) ≠ j) : iv_cd h G (iv_up G1 h (12, upd g1 j x, r1)) := fun g r g' r' f' q' ha ha' hf => by
  have e := (iv_up_eq (G := G1) (a := h) (k := (12, upd g1 j x, r1))).symm.trans ha'
  cases e
  have ne : r1 6 ≠ h := fun e => by
    rw [e, iv_up_eq] at hf
    cases hf
  rw [iv_up_ne ne] at hf
  have n13 : upd g1 j x 13 = g1 13 := by simp [upd, hj]
  rw [n13]
  exact hC g r _ _ _ _ ha a1 hf
theorem iv_cd.num {h : Nat} {G1 G2 : iv_G} {k v : Int32} {g1 : Nat → Int32} {r1 : Nat → Nat} (ly : iv_ly h k v G1 G2) (a1 : G1 h = some (12, g1, r1)) (hx : ∃ (f : Nat → Int32) (q : Nat → Nat), G1 (r1 6) = some (64, f, q)) (h13 : iv_R 0 410 (g1 13)) (hk : iv_R 0 11 k) : iv_cd h G1 G2 := fun g r g' r' f' q' ha ha' hf => by
  obtain ⟨f0, q0, h0⟩ := hx
  have e := a1.symm.trans ha
  cases e
  obtain ⟨x, f1, ex, c2, c3, c4, c5, c6⟩ := ly _ _ _ _ a1 h0
  have e := c2.symm.trans ha'
  cases e
  have e := c3.symm.trans hf
  cases e
  have n13 : upd g1 13 x 13 = x := by simp [upd]
  rw [n13, ex]
  refine ⟨⟨h13.1, by omega⟩, fun t => ?_⟩
  rw [show ((g1 13).toInt + 1 - (g1 13).toInt).toNat = 1 from by omega]
  unfold iv_sE
  rw [c4]
  exact Or.inl ⟨hk.1, by have := hk.2; omega, rfl⟩
theorem iv_cd.un {h : Nat} {G G1 G2 : iv_G} {k v : Int32} {g1 : Nat → Int32} {r1 : Nat → Nat} (hC : iv_cd h G G1) (ly : iv_ly h k v G1 G2) (a1 : G1 h = some (12, g1, r1)) (hx : ∃ (f : Nat → Int32) (q : Nat → Nat), G1 (r1 6) = some (64, f, q)) (hk : (k.toInt = 26 ∧ ¬ v = 0) ∨ k.toInt = 30) : iv_cd h G G2 := fun g r g' r' f' q' ha ha' hf => by
  obtain ⟨f0, q0, h0⟩ := hx
  obtain ⟨x, f1, ex, c2, c3, c4, c5, c6⟩ := ly _ _ _ _ a1 h0
  have e := c2.symm.trans ha'
  cases e
  have e := c3.symm.trans hf
  cases e
  have n13 : upd g1 13 x 13 = x := by simp [upd]
  rw [n13, ex]
  have w := hC g r _ _ _ _ ha a1 h0
  refine ⟨⟨w.1.1, by omega⟩, fun t => ?_⟩
  have w1 := w.2 t
  have w2 := w.1
  rw [show ((g1 13).toInt + 1 - (g 13).toInt).toNat = ((g1 13).toInt - (g 13).toInt).toNat + 1 from by omega]
  refine iv_sE_app _ _ _ (iv_sE_cong _ _ _ (fun i h1 h2 => c6 i (by omega)) w1) ?_
  rw [show (g 13).toInt.toNat + ((g1 13).toInt - (g 13).toInt).toNat = (g1 13).toInt.toNat from by omega]
  unfold iv_sE
  rw [c4, c5]
  rcases hk with hk | hk
  · exact Or.inr (Or.inl ⟨hk.1, by omega, hk.2, rfl⟩)
  · exact Or.inr (Or.inr (Or.inl ⟨hk, by omega, rfl⟩))
theorem iv_cd.op {Z : Prop} {d n : Int} {h : Nat} {G G2 G3 G4 : iv_G} {k v : Int32} {g2 g3 : Nat → Int32} {r2 r3 : Nat → Nat} (hC : iv_cd h G G2) (xp : iv_pr d n h G2 G3 ∧ Z) (hD : iv_cd h G2 G3) (ly : iv_ly h k v G3 G4) (a2 : G2 h = some (12, g2, r2)) (a3 : G3 h = some (12, g3, r3)) (hx : ∃ (f : Nat → Int32) (q : Nat → Nat), G2 (r2 6) = some (64, f, q)) (hk : 23 ≤ k.toInt ∧ k.toInt ≤ 32 ∧ k.toInt ≠ 26 ∧ k.toInt ≠ 30) : iv_cd h G G4 := fun g r g' r' f' q' ha ha' hf => by
  obtain ⟨f0, q0, h0⟩ := hx
  obtain ⟨er, _, p3, _, p5⟩ := xp.1.at a2 a3
  subst er
  obtain ⟨f3, h3, e3⟩ := p5 f0 q0 h0
  obtain ⟨x, f1, ex, c2, c3, c4, c5, c6⟩ := ly _ _ _ _ a3 h3
  have e := c2.symm.trans ha'
  cases e
  have e := c3.symm.trans hf
  cases e
  have n13 : upd g3 13 x 13 = x := by simp [upd]
  rw [n13, ex]
  have w := hC g r _ _ _ _ ha a2 h0
  have y := hD _ _ _ _ _ _ a2 a3 h3
  refine ⟨⟨w.1.1, by omega⟩, fun t => ?_⟩
  have w1 := w.2 t
  have w2 := w.1
  have y1 := y.2 (t + 1)
  have y2 := y.1
  rw [show ((g3 13).toInt + 1 - (g 13).toInt).toNat = ((g2 13).toInt - (g 13).toInt).toNat + (((g3 13).toInt - (g2 13).toInt).toNat + 1) from by omega]
  refine iv_sE_app _ _ _ (iv_sE_cong _ _ _ (fun i h1 h2 => (c6 i (by omega)).trans (e3 i (by omega))) w1) ?_
  rw [show (g 13).toInt.toNat + ((g2 13).toInt - (g 13).toInt).toNat = (g2 13).toInt.toNat from by omega]
  refine iv_sE_app _ _ _ (iv_sE_cong _ _ _ (fun i h1 h2 => c6 i (by omega)) y1) ?_
  rw [show (g2 13).toInt.toNat + ((g3 13).toInt - (g2 13).toInt).toNat = (g3 13).toInt.toNat from by omega]
  unfold iv_sE
  rw [c4, c5]
  exact Or.inr (Or.inr (Or.inr ⟨hk.1, hk.2.1, hk.2.2.1, hk.2.2.2, by omega, rfl⟩))
def iv_s13 (h : Nat) (G G' : iv_G) : Prop := ∀ (g : Nat → Int32) (r : Nat → Nat) (g' : Nat → Int32) (r' : Nat → Nat), G h = some (12, g, r) → G' h = some (12, g', r') → g' 13 = g 13
theorem iv_cd.fr {d n : Int} {h : Nat} {G G1 G2 : iv_G} (hs : iv_s13 h G G1) (hp : iv_pr d n h G G1) (hC : iv_cd h G1 G2) : iv_cd h G G2 := fun g r g' r' f' q' ha ha' hf => by
  obtain ⟨g1, a1, _⟩ := hp g r ha
  have w := hC _ _ _ _ _ _ a1 ha' hf
  rw [hs g r g1 r ha a1] at w
  exact w
theorem iv_cd.oth {h b : Nat} {G G1 : iv_G} {cb : Nat} {gb : Nat → Int32} {rb : Nat → Nat} {k : iv_K} (hC : iv_cd h G G1) (a1 : G1 b = some (cb, gb, rb)) (hc : k.1 = cb) (hj : cb ≠ 12 ∧ cb ≠ 64) : iv_cd h G (iv_up G1 b k) := fun g r g' r' f' q' ha ha' hf => by
  have n1 : h ≠ b := fun e => by
    subst e
    rw [iv_up_eq] at ha'
    cases ha'
    exact hj.1 hc.symm
  rw [iv_up_ne n1] at ha'
  have n2 : r' 6 ≠ b := fun e => by
    rw [e, iv_up_eq] at hf
    cases hf
    exact hj.2 hc.symm
  rw [iv_up_ne n2] at hf
  exact hC g r g' r' f' q' ha ha' hf
/-- the place goes on, the rest is open -/
def iv_pv (d : Int) (h : Nat) (G G' : iv_G) : Prop := ∀ (g : Nat → Int32) (r : Nat → Nat), G h = some (12, g, r) → ∃ g' : Nat → Int32, G' h = some (12, g', r) ∧ iv_J g' ∧ (g 18).toInt + d ≤ (g' 18).toInt
theorem iv_pr.pv {d n : Int} {h : Nat} {G G1 : iv_G} (h1 : iv_pr d n h G G1) : iv_pv d h G G1 := fun g r ha => by
  obtain ⟨g1, a1, j1, l1, _⟩ := h1 g r ha
  exact ⟨g1, a1, j1, by omega⟩
theorem iv_pv.tr {d d' : Int} {h : Nat} {G G1 G2 : iv_G} (h1 : iv_pv d h G G1) (h2 : iv_pv d' h G1 G2) : iv_pv (d + d') h G G2 := fun g r ha => by
  obtain ⟨g1, a1, j1, l1⟩ := h1 g r ha
  obtain ⟨g2, a2, j2, l2⟩ := h2 g1 r a1
  exact ⟨g2, a2, j2, by omega⟩
theorem iv_pv.wk {d d' : Int} {h : Nat} {G G1 : iv_G} (h1 : iv_pv d h G G1) (e : d' ≤ d) : iv_pv d' h G G1 := fun g r ha => by
  obtain ⟨g1, a1, j1, l1⟩ := h1 g r ha
  exact ⟨g1, a1, j1, by omega⟩
theorem iv_pv.at {d : Int} {h : Nat} {G G1 : iv_G} {g g' : Nat → Int32} {r r' : Nat → Nat} (h1 : iv_pv d h G G1) (ha : G h = some (12, g, r)) (ha' : G1 h = some (12, g', r')) : iv_J g' ∧ (g 18).toInt + d ≤ (g' 18).toInt := by
  obtain ⟨g1, a1, j1, l1⟩ := h1 g r ha
  have e := a1.symm.trans ha'
  cases e
  exact ⟨j1, l1⟩
theorem iv_pv.J {d : Int} {h : Nat} {G G1 : iv_G} {g g' : Nat → Int32} {r r' : Nat → Nat} (h1 : iv_pv d h G G1) (ha : G h = some (12, g, r)) (ha' : G1 h = some (12, g', r')) : iv_J g' := (h1.at ha ha').1
theorem iv_pv.put14 {d : Int} {h : Nat} {G G1 : iv_G} {g1 : Nat → Int32} {r1 : Nat → Nat} {x : Int32} (hL : iv_pv d h G G1) (a1 : G1 h = some (12, g1, r1)) : iv_pv d h G (iv_up G1 h (12, upd g1 14 x, r1)) := fun g r ha => by
  obtain ⟨g0, b1, j1, l1⟩ := hL g r ha
  have e := b1.symm.trans a1
  cases e
  have n16 : upd g1 14 x 16 = g1 16 := by simp [upd]
  have n17 : upd g1 14 x 17 = g1 17 := by simp [upd]
  have n18 : upd g1 14 x 18 = g1 18 := by simp [upd]
  refine ⟨_, iv_up_eq, ?_, by rw [n18]; exact l1⟩
  unfold iv_J
  rw [n16, n17, n18]
  exact j1
theorem iv_nIof {x : Int32} (h : 0 ≤ x.toInt) : x = nI x.toInt.toNat := Int32.toInt_inj.mp (by have := Int32.toInt_lt x; rw [nI_toInt (by omega)]; omega)
theorem iv_sg_cong {g g' : Nat → Int32} {o : Nat} : ∀ (n b t : Nat), (∀ i, 2 * b ≤ i → i < 2 * (b + n) → g' (o + i) = g (o + i)) → iv_sg g o n b t → iv_sg g' o n b t := by
  intro n
  induction n with
  | zero => intro b t _ h; unfold iv_sg; trivial
  | succ n ih =>
    intro b t e h
    have e0 := e (2 * b) (by omega) (by omega)
    have e1 : g' (o + 2 * b + 1) = g (o + 2 * b + 1) := e (2 * b + 1) (by omega) (by omega)
    have e2 : ∀ i, 2 * (b + 1) ≤ i → i < 2 * (b + 1 + n) → g' (o + i) = g (o + i) := fun i h1 h2 => e i (by omega) (by omega)
    unfold iv_sg at h ⊢
    rw [e0, e1]
    rcases h with h | h | h | h
    · exact Or.inl ⟨h.1, h.2.1, ih _ _ e2 h.2.2⟩
    · exact Or.inr (Or.inl ⟨h.1, h.2.1, h.2.2.1, ih _ _ e2 h.2.2.2⟩)
    · exact Or.inr (Or.inr (Or.inl ⟨h.1, h.2.1, ih _ _ e2 h.2.2⟩))
    · exact Or.inr (Or.inr (Or.inr ⟨h.1, h.2.1, h.2.2.1, h.2.2.2.1, h.2.2.2.2.1, ih _ _ e2 h.2.2.2.2.2⟩))
/-- the codes laid between two states, as they stand later -/
theorem iv_cd.sg {d n : Int} {h : Nat} {Ga Gb Gc : iv_G} {ga gb gc f : Nat → Int32} {ra rb rc q : Nat → Nat} (hC : iv_cd h Ga Gb) (hp : iv_pr d n h Gb Gc) (a1 : Ga h = some (12, ga, ra)) (a2 : Gb h = some (12, gb, rb)) (hx : ∃ (f : Nat → Int32) (q : Nat → Nat), Gb (rb 6) = some (64, f, q)) (a3 : Gc h = some (12, gc, rc)) (hf : Gc (rc 6) = some (64, f, q)) : ((ga 13).toInt ≤ (gb 13).toInt ∧ (gb 13).toInt ≤ (gc 13).toInt) ∧ iv_sg f 0 ((gb 13).toInt.toNat - (ga 13).toInt.toNat) (ga 13).toInt.toNat 0 := by
  obtain ⟨f0, q0, h0⟩ := hx
  obtain ⟨er, _, p3, _, p5⟩ := hp.at a2 a3
  subst er
  obtain ⟨f1, h1, e1⟩ := p5 f0 q0 h0
  have e := h1.symm.trans hf
  cases e
  have w := hC _ _ _ _ _ _ a1 a2 h0
  refine ⟨⟨w.1.2, by omega⟩, ?_⟩
  have w1 := w.2 0
  have w2 := w.1
  have e3 : ((gb 13).toInt - (ga 13).toInt).toNat = (gb 13).toInt.toNat - (ga 13).toInt.toNat := by omega
  rw [e3] at w1
  refine iv_sE_sg _ _ _ (fun i q1 q2 => ?_) w1
  rw [Nat.zero_add]
  exact e1 i (by omega)
/-- a line: its places, and its signs can be worked off -/
def iv_lf (fl f : Nat → Int32) (u : Int) (i : Nat) : Prop := ∃ b m e : Nat, fl (4 * i) = nI b ∧ fl (4 * i + 1) = nI m ∧ fl (4 * i + 2) = nI e ∧ b ≤ m ∧ m ≤ e ∧ (e : Int) ≤ u ∧ iv_sg f 0 (m - b) b 0 ∧ iv_sg f 0 (e - m) m 0
def iv_FL (h : Nat) (G : iv_G) : Prop := ∀ (g : Nat → Int32) (r : Nat → Nat) (fl : Nat → Int32) (ql : Nat → Nat) (f : Nat → Int32) (q : Nat → Nat), G h = some (12, g, r) → G (r 5) = some (63, fl, ql) → G (r 6) = some (64, f, q) → ∀ i : Nat, (i : Int) < (g 12).toInt → iv_lf fl f (g 13).toInt i
def iv_ln (h : Nat) (G G' : iv_G) : Prop := ∀ (g : Nat → Int32) (r : Nat → Nat) (fl0 : Nat → Int32) (q0 : Nat → Nat) (g' : Nat → Int32) (r' : Nat → Nat) (fl : Nat → Int32) (ql : Nat → Nat) (f : Nat → Int32) (q : Nat → Nat), G h = some (12, g, r) → G (r 5) = some (63, fl0, q0) → G' h = some (12, g', r') → G' (r' 5) = some (63, fl, ql) → G' (r' 6) = some (64, f, q) → (∀ i, i < 4 * (g 12).toInt.toNat → fl i = fl0 i) ∧ iv_lf fl f (g' 13).toInt (g 12).toInt.toNat
/-- one line more -/
theorem iv_FL.step {d n : Int} {h : Nat} {G G' : iv_G} {g g' : Nat → Int32} {r r' : Nat → Nat} {x : Int32} (hF : iv_FL h G) (hl : iv_ln h G G') (hp : iv_pr d n h G G') (a1 : G h = some (12, g, r)) (h5 : ∃ (f : Nat → Int32) (q : Nat → Nat), G (r 5) = some (63, f, q)) (h6 : ∃ (f : Nat → Int32) (q : Nat → Nat), G (r 6) = some (64, f, q)) (a2 : G' h = some (12, g', r')) (hg : 0 ≤ (g 12).toInt) (ex : x.toInt = (g 12).toInt + 1) : iv_FL h (iv_up G' h (12, upd g' 12 x, r')) := fun g2 r2 fl ql f q b2 c2 d2 => by
  have e := (iv_up_eq (G := G') (a := h) (k := (12, upd g' 12 x, r'))).symm.trans b2
  cases e
  have ne : ∀ j : Nat, ∀ k : iv_K, k.1 ≠ 12 → iv_up G' h (12, upd g' 12 x, r') j = some k → G' j = some k := fun j k hk hj => by
    by_cases e : j = h
    · subst e
      rw [iv_up_eq] at hj
      cases hj
      exact absurd rfl hk
    · rw [iv_up_ne e] at hj
      exact hj
  have c3 := ne _ _ (show (63 : Nat) ≠ 12 from by decide) c2
  have d3 := ne _ _ (show (64 : Nat) ≠ 12 from by decide) d2
  obtain ⟨f5, q5, k5⟩ := h5
  obtain ⟨f6, q6, k6⟩ := h6
  obtain ⟨er, _, p3, p4, p5⟩ := hp.at a1 a2
  have w := hl _ _ _ _ _ _ _ _ _ _ a1 k5 a2 c3 d3
  obtain ⟨f7, h7, e7⟩ := p5 f6 q6 k6
  have d4 := d3
  rw [er] at d4
  have e := h7.symm.trans d4
  cases e
  have n12 : upd g' 12 x 12 = x := by simp [upd]
  have n13 : upd g' 12 x 13 = g' 13 := by simp [upd]
  intro i hi
  rw [n12, ex] at hi
  rw [n13]
  by_cases hi2 : (i : Int) < (g 12).toInt
  · obtain ⟨b, m, e, l1, l2, l3, l4, l5, l6, l7, l8⟩ := hF _ _ _ _ _ _ a1 k5 k6 i hi2
    refine ⟨b, m, e, by rw [w.1 _ (by omega)]; exact l1, by rw [w.1 _ (by omega)]; exact l2, by rw [w.1 _ (by omega)]; exact l3, l4, l5, by omega, ?_, ?_⟩
    · exact iv_sg_cong _ _ _ (fun i h1 h2 => by rw [Nat.zero_add]; exact e7 i (by omega)) l7
    · exact iv_sg_cong _ _ _ (fun i h1 h2 => by rw [Nat.zero_add]; exact e7 i (by omega)) l8
  · have e : i = (g 12).toInt.toNat := by omega
    subst e
    exact w.2
