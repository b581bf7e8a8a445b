/-- what the law keeps: the two tapes' lengths, the flags of an image, the numbers of bells -/
def lw_JC (f1 f2 n1 n2 p1 p2 t1 t2 : Int32) (h1 h2 : Nat) (G : iv_G) : Prop := ∃ (g1 : Nat → Int32) (r1 : Nat → Nat) (g2 : Nat → Int32) (r2 : Nat → Nat), G h1 = some (11, g1, r1) ∧ G h2 = some (12, g2, r2) ∧ g1 5 = t1 ∧ g2 15 = t2 ∧ r2 0 ≠ r2 1 ∧ g1 2 = f1 ∧ g2 4 = f2 ∧ r1 0 ≠ r1 1 ∧ iv_kc 5 1 (r1 0) n1 G ∧ iv_kc 5 1 (r1 1) p1 G ∧ iv_kc 60 146 (r2 0) n2 G ∧ iv_kc 60 146 (r2 1) p2 G
theorem lw_r11 {K : Nat → List Nat} {g g' : Nat → Int32} {r r' : Nat → Nat} (h : iv_relK K (11, g, r) (11, g', r')) : ∀ j, r' j = r j := fun j => h.1 j (fun q => absurd (show (11 : Nat) = 5 from q) (by decide))
theorem lw_r12 {K : Nat → List Nat} {g g' : Nat → Int32} {r r' : Nat → Nat} (h : iv_relK K (12, g, r) (12, g', r')) : ∀ j, r' j = r j := fun j => h.1 j (fun q => absurd (show (12 : Nat) = 5 from q) (by decide))
theorem lw_JC.md {f1 f2 n1 n2 p1 p2 t1 t2 : Int32} {h1 h2 : Nat} {G G' : iv_G} {S : List Nat} (h : lw_JC f1 f2 n1 n2 p1 p2 t1 t2 h1 h2 G) (hm : iv_Md S G G') : lw_JC f1 f2 n1 n2 p1 p2 t1 t2 h1 h2 G' := by
  obtain ⟨g1, r1, g2, r2, a1, a2, q1, q2, hne, w1, w2, hnr, k1, k2, k3, k4⟩ := h
  obtain ⟨g1', r1', b1, rel1⟩ := hm.ex a1
  obtain ⟨g2', r2', b2, rel2⟩ := hm.ex a2
  obtain ⟨g3', r3', b3, rel3⟩ := (iv_MdT.of hm).ex a1
  obtain ⟨g4', r4', b4, rel4⟩ := (iv_MdT.of hm).ex a2
  have e5 : g1' 5 = g1 5 := rel1.2.1 5 (show (5 : Nat) ∈ iv_stab 11 from by decide)
  have e2 : g1' 2 = g1 2 := rel1.2.1 2 (show (2 : Nat) ∈ iv_stab 11 from by decide)
  have e15 : g2' 15 = g2 15 := rel2.2.1 15 (show (15 : Nat) ∈ iv_stab 12 from by decide)
  have e4 : g2' 4 = g2 4 := rel2.2.1 4 (show (4 : Nat) ∈ iv_stab 12 from by decide)
  have c1 := b1.symm.trans b3
  cases c1
  have c2 := b2.symm.trans b4
  cases c2
  have er1 := lw_r11 rel3
  have er2 := lw_r12 rel4
  have hT := iv_MdT.of hm
  exact ⟨g1', r1', g2', r2', b1, b2, e5.trans q1, e15.trans q2, by rw [er2 0, er2 1]; exact hne, e2.trans w1, e4.trans w2, by rw [er1 0, er1 1]; exact hnr, by rw [er1 0]; exact k1.T hT (by decide), by rw [er1 1]; exact k2.T hT (by decide), by rw [er2 0]; exact k3.T hT (by decide), by rw [er2 1]; exact k4.T hT (by decide)⟩
theorem lw_JC.same {f1 f2 n1 n2 p1 p2 t1 t2 : Int32} {h1 h2 : Nat} {G G' : iv_G} (h : lw_JC f1 f2 n1 n2 p1 p2 t1 t2 h1 h2 G) (e : G = G') : lw_JC f1 f2 n1 n2 p1 p2 t1 t2 h1 h2 G' := e ▸ h
theorem lw_JC.c {f1 f2 n1 n2 p1 p2 t1 t2 t' : Int32} {h1 h2 : Nat} {G G' : iv_G} {S : List Nat} (h : lw_JC f1 f2 n1 n2 p1 p2 t1 t2 h1 h2 G) (hm : iv_MdT S G G') (n : 12 ∉ S) (hp : ∀ (g' : Nat → Int32) (r' : Nat → Nat), G' h1 = some (11, g', r') → g' 5 = t') : lw_JC f1 f2 n1 n2 p1 p2 t' t2 h1 h2 G' := by
  obtain ⟨g1, r1, g2, r2, a1, a2, q1, q2, hne, w1, w2, hnr, k1, k2, k3, k4⟩ := h
  obtain ⟨g1', r1', b1, rel1⟩ := hm.ex a1
  have er1 := lw_r11 rel1
  have e2 : g1' 2 = g1 2 := rel1.2 2 (show (2 : Nat) ∈ iv_keys 11 from by decide)
  exact ⟨g1', r1', g2, r2, b1, hm.at a2 n, hp _ _ b1, q2, hne, e2.trans w1, w2, by rw [er1 0, er1 1]; exact hnr, by rw [er1 0]; exact k1.T hm (by decide), by rw [er1 1]; exact k2.T hm (by decide), k3.T hm (by decide), k4.T hm (by decide)⟩
theorem lw_JC.m {f1 f2 n1 n2 p1 p2 t1 t2 t' : Int32} {h1 h2 : Nat} {G G' : iv_G} {S : List Nat} (h : lw_JC f1 f2 n1 n2 p1 p2 t1 t2 h1 h2 G) (hm : iv_MdT S G G') (n : 11 ∉ S) (hp : ∀ (g' : Nat → Int32) (r' : Nat → Nat), G' h2 = some (12, g', r') → g' 15 = t') : lw_JC f1 f2 n1 n2 p1 p2 t1 t' h1 h2 G' := by
  obtain ⟨g1, r1, g2, r2, a1, a2, q1, q2, hne, w1, w2, hnr, k1, k2, k3, k4⟩ := h
  obtain ⟨g2', r2', b2, rel2⟩ := hm.ex a2
  have er2 := lw_r12 rel2
  have e4 : g2' 4 = g2 4 := rel2.2 4 (show (4 : Nat) ∈ iv_keys 12 from by decide)
  exact ⟨g1, r1, g2', r2', hm.at a1 n, b2, q1, hp _ _ b2, by rw [er2 0, er2 1]; exact hne, w1, e4.trans w2, hnr, k1.T hm (by decide), k2.T hm (by decide), by rw [er2 0]; exact k3.T hm (by decide), by rw [er2 1]; exact k4.T hm (by decide)⟩
/-- what a bell's call answers, and how many there are then -/
def lb_R (x0 x1 x2 x3 v n n' : Int32) : Prop := (lb_ok x0 x1 x2 x3 n → v = n ∧ n'.toInt = n.toInt + 1) ∧ (¬ lb_ok x0 x1 x2 x3 n → v = -1 ∧ n' = n)
theorem lb_P.out {c j b : Nat} {x0 x1 x2 x3 v n : Int32} {G G' : iv_G} (h : lb_P c j b x0 x1 x2 x3 v G G') (hn : iv_kc c j b n G) : ∃ n', lb_R x0 x1 x2 x3 v n n' ∧ iv_kc c j b n' G' := by
  have w := h.2 n hn
  by_cases q : lb_ok x0 x1 x2 x3 n
  · obtain ⟨e, y, hy, hC⟩ := w.1 q
    exact ⟨y, ⟨fun _ => ⟨e, hy⟩, fun q' => absurd q q'⟩, hC⟩
  · obtain ⟨e, hC⟩ := w.2 q
    exact ⟨n, ⟨fun q' => absurd q' q, fun _ => ⟨e, rfl⟩⟩, hC⟩
theorem lb_R.eq {x0 x1 x2 x3 v w n a b : Int32} (h1 : lb_R x0 x1 x2 x3 v n a) (h2 : lb_R x0 x1 x2 x3 w n b) : v = w ∧ a = b := by
  by_cases q : lb_ok x0 x1 x2 x3 n
  · exact ⟨(h1.1 q).1.trans (h2.1 q).1.symm, Int32.toInt_inj.mp ((h1.1 q).2.trans (h2.1 q).2.symm)⟩
  · exact ⟨(h1.2 q).1.trans (h2.2 q).1.symm, (h1.2 q).2.trans (h2.2 q).2.symm⟩
theorem lw_JC.bell1 {f1 f2 n1 n2 p1 p2 t1 t2 x0 x1 x2 x3 v : Int32} {h1 h2 : Nat} {G G' : iv_G} {S : List Nat} {g1 : Nat → Int32} {r1 : Nat → Nat} (h : lw_JC f1 f2 n1 n2 p1 p2 t1 t2 h1 h2 G) (hm : iv_MdF S G G') (a : G h1 = some (11, g1, r1)) (s1 : 11 ∉ S) (s2 : 12 ∉ S) (s3 : 60 ∉ S) (hP : lb_P 5 1 (r1 0) x0 x1 x2 x3 v G G') : ∃ n', lb_R x0 x1 x2 x3 v n1 n' ∧ lw_JC f1 f2 n' n2 p1 p2 t1 t2 h1 h2 G' := by
  obtain ⟨g1', r1', g2, r2, a1, a2, q1, q2, hne, w1, w2, hnr, k1, k2, k3, k4⟩ := h
  have e := a.symm.trans a1
  cases e
  obtain ⟨n', hR, hC⟩ := hP.out k1
  exact ⟨n', hR, g1, r1, g2, r2, hm.at a1 s1, hm.at a2 s2, q1, q2, hne, w1, w2, hnr, hC, hP.1 _ _ (Ne.symm hnr) k2, k3.O hm s3, k4.O hm s3⟩
theorem lw_JC.bell2 {f1 f2 n1 n2 p1 p2 t1 t2 t' x0 x1 x2 x3 v : Int32} {h1 h2 : Nat} {G G' : iv_G} {S : List Nat} {g2 : Nat → Int32} {r2 : Nat → Nat} (h : lw_JC f1 f2 n1 n2 p1 p2 t1 t2 h1 h2 G) (hm : iv_MdF S G G') (a : G h2 = some (12, g2, r2)) (s1 : 11 ∉ S) (s2 : 5 ∉ S) (hp : ∀ (g' : Nat → Int32) (r' : Nat → Nat), G' h2 = some (12, g', r') → g' 15 = t') (hP : lb_P 60 146 (r2 0) x0 x1 x2 x3 v G G') : ∃ n', lb_R x0 x1 x2 x3 v n2 n' ∧ lw_JC f1 f2 n1 n' p1 p2 t1 t' h1 h2 G' := by
  obtain ⟨g1, r1, g2', r2', a1, a2, q1, q2, hne, w1, w2, hnr, k1, k2, k3, k4⟩ := h
  have e := a.symm.trans a2
  cases e
  obtain ⟨n', hR, hC⟩ := hP.out k3
  obtain ⟨g3, r3, b2, rel2⟩ := hm.ex a2
  have er2 := lw_r12 rel2
  have e4 : g3 4 = g2 4 := rel2.2 4 (show (4 : Nat) ∈ iv_keysF 12 from by decide)
  exact ⟨n', hR, g1, r1, g3, r3, hm.at a1 s1, b2, q1, hp _ _ b2, by rw [er2 0, er2 1]; exact hne, w1, e4.trans w2, hnr, k1.O hm s2, k2.O hm s2, by rw [er2 0]; exact hC, by rw [er2 1]; exact hP.1 _ _ (Ne.symm hne) k4⟩
/-- the numbers of bells behind an image's call -/
def li_R (x v n p n' p' : Int32) : Prop := (¬ x = 0 → n' = n ∧ p' = n) ∧ (x = 0 → v = 0 → n' = n ∧ p' = p) ∧ (x = 0 → ¬ v = 0 → n' = p ∧ p' = p)
theorem li_R.eq {x v n p a b a' b' : Int32} (h1 : li_R x v n p a b) (h2 : li_R x v n p a' b') : a = a' ∧ b = b' := by
  by_cases q : x = 0
  · by_cases w : v = 0
    · exact ⟨(h1.2.1 q w).1.trans (h2.2.1 q w).1.symm, (h1.2.1 q w).2.trans (h2.2.1 q w).2.symm⟩
    · exact ⟨(h1.2.2 q w).1.trans (h2.2.2 q w).1.symm, (h1.2.2 q w).2.trans (h2.2.2 q w).2.symm⟩
  · exact ⟨(h1.1 q).1.trans (h2.1 q).1.symm, (h1.1 q).2.trans (h2.1 q).2.symm⟩
theorem li_P.out {c j : Nat} {r : Nat → Nat} {x v n p : Int32} {G G' : iv_G} (h : li_P c j r x v G G') (hne : r 0 ≠ r 1) (hn : iv_kc c j (r 0) n G) (hp : iv_kc c j (r 1) p G) : ∃ n' p', li_R x v n p n' p' ∧ iv_kc c j (r 0) n' G' ∧ iv_kc c j (r 1) p' G' := by
  have w := h hne n p hn hp
  by_cases q : x = 0
  · by_cases u : v = 0
    · exact ⟨n, p, ⟨fun h => absurd q h, fun _ _ => ⟨rfl, rfl⟩, fun _ h => absurd u h⟩, w.2.1 q u⟩
    · exact ⟨p, p, ⟨fun h => absurd q h, fun _ h => absurd h u, fun _ _ => ⟨rfl, rfl⟩⟩, w.2.2 q u⟩
  · exact ⟨n, n, ⟨fun _ => ⟨rfl, rfl⟩, fun h => absurd h q, fun h => absurd h q⟩, w.1 q⟩
theorem lw_JC.im1 {f1 f2 n1 n2 p1 p2 t1 t2 t' f' x v : Int32} {h1 h2 : Nat} {G G' : iv_G} {S : List Nat} {g1 : Nat → Int32} {r1 : Nat → Nat} (h : lw_JC f1 f2 n1 n2 p1 p2 t1 t2 h1 h2 G) (hm : iv_MdO S G G') (a : G h1 = some (11, g1, r1)) (s2 : 12 ∉ S) (s3 : 60 ∉ S) (hp : ∀ (g' : Nat → Int32) (r' : Nat → Nat), G' h1 = some (11, g', r') → g' 5 = t') (hf : ∀ (g' : Nat → Int32) (r' : Nat → Nat), G' h1 = some (11, g', r') → g' 2 = f') (hP : li_P 5 1 r1 x v G G') : ∃ n' p', li_R x v n1 p1 n' p' ∧ lw_JC f' f2 n' n2 p' p2 t' t2 h1 h2 G' := by
  obtain ⟨g1', r1', g2, r2, a1, a2, q1, q2, hne, w1, w2, hnr, k1, k2, k3, k4⟩ := h
  have e := a.symm.trans a1
  cases e
  obtain ⟨n', p', hR, c1, c2⟩ := hP.out hnr k1 k2
  obtain ⟨g3, r3, b1, rel1⟩ := hm.ex a1
  have er1 := lw_r11 rel1
  exact ⟨n', p', hR, g3, r3, g2, r2, b1, hm.at a2 s2, hp _ _ b1, q2, hne, hf _ _ b1, w2, by rw [er1 0, er1 1]; exact hnr, by rw [er1 0]; exact c1, by rw [er1 1]; exact c2, k3.O hm s3, k4.O hm s3⟩
theorem lw_JC.im2 {f1 f2 n1 n2 p1 p2 t1 t2 t' f' x v : Int32} {h1 h2 : Nat} {G G' : iv_G} {S : List Nat} {g2 : Nat → Int32} {r2 : Nat → Nat} (h : lw_JC f1 f2 n1 n2 p1 p2 t1 t2 h1 h2 G) (hm : iv_MdO S G G') (a : G h2 = some (12, g2, r2)) (s1 : 11 ∉ S) (s2 : 5 ∉ S) (hp : ∀ (g' : Nat → Int32) (r' : Nat → Nat), G' h2 = some (12, g', r') → g' 15 = t') (hf : ∀ (g' : Nat → Int32) (r' : Nat → Nat), G' h2 = some (12, g', r') → g' 4 = f') (hP : li_P 60 146 r2 x v G G') : ∃ n' p', li_R x v n2 p2 n' p' ∧ lw_JC f1 f' n1 n' p1 p' t1 t' h1 h2 G' := by
  obtain ⟨g1, r1, g2', r2', a1, a2, q1, q2, hne, w1, w2, hnr, k1, k2, k3, k4⟩ := h
  have e := a.symm.trans a2
  cases e
  obtain ⟨n', p', hR, c1, c2⟩ := hP.out hne k3 k4
  obtain ⟨g3, r3, b2, rel2⟩ := hm.ex a2
  have er2 := lw_r12 rel2
  exact ⟨n', p', hR, g1, r1, g3, r3, hm.at a1 s1, b2, q1, hp _ _ b2, by rw [er2 0, er2 1]; exact hne, w1, hf _ _ b2, hnr, k1.O hm s2, k2.O hm s2, by rw [er2 0]; exact c1, by rw [er2 1]; exact c2⟩
theorem iv_kc.K {c j b : Nat} {x : Int32} {K : Nat → List Nat} {S : List Nat} {G G' : iv_G} (h : iv_kc c j b x G) (hm : iv_MdK K S G G') (hk : j ∈ K c) : iv_kc c j b x G' := by
  obtain ⟨g, r, ha, e⟩ := h
  obtain ⟨g', r', ha', rel⟩ := hm.ex ha
  exact ⟨g', r', ha', (rel.2 j hk).trans e⟩
theorem lw_JC.mX {f1 f2 n1 n2 p1 p2 t1 t2 t' : Int32} {h1 h2 : Nat} {G G' : iv_G} {S : List Nat} (h : lw_JC f1 f2 n1 n2 p1 p2 t1 t2 h1 h2 G) (hm : iv_MdX S G G') (n : 11 ∉ S) (hp : ∀ (g' : Nat → Int32) (r' : Nat → Nat), G' h2 = some (12, g', r') → g' 15 = t') : lw_JC f1 f2 n1 n2 p1 p2 t1 t' h1 h2 G' := by
  obtain ⟨g1, r1, g2, r2, a1, a2, q1, q2, hne, w1, w2, hnr, k1, k2, k3, k4⟩ := h
  obtain ⟨g2', r2', b2, rel2⟩ := hm.ex a2
  have er2 := lw_r12 rel2
  have e4 : g2' 4 = g2 4 := rel2.2 4 (show (4 : Nat) ∈ iv_keysX 12 from by decide)
  exact ⟨g1, r1, g2', r2', hm.at a1 n, b2, q1, hp _ _ b2, by rw [er2 0, er2 1]; exact hne, w1, e4.trans w2, hnr, k1.K hm (by decide), k2.K hm (by decide), by rw [er2 0]; exact k3.K hm (by decide), by rw [er2 1]; exact k4.K hm (by decide)⟩
theorem lw_cnt {D : va_G} {tys : List (ClassId × FieldType)} {base : Nat} {G : iv_G} {H0 H : Heap} {locs : List Loc} {q : Nat} {n : Int32} (hB : iv_B iv_sh D classes tys base G H0 H locs) (k : iv_kc 60 146 q n G) : 0 ≤ n.toInt ∧ n.toInt ≤ 10 := by
  obtain ⟨g, r, h, e⟩ := k
  have w := (hB.wP h).1 146 (by decide)
  rw [show iv_wb 146 = (0, 10) from by decide, e] at w
  exact w
theorem iv_tbR {D : va_G} {tys : List (ClassId × FieldType)} {base : Nat} {G : iv_G} {H0 H : Heap} {locs : List Loc} {a : Nat} {gt : Nat → Int32} {rt : Nat → Nat} (hB : iv_B iv_sh D classes tys base G H0 H locs) (ht : G a = some (66, gt, rt)) {i : Nat} (hi : i < 400) : iv_R 0 255 (gt i) := by
  obtain ⟨cA, h1, h2, h3⟩ := (hB.got ht).arr sh_66
  exact h3 i hi
theorem lw_same {P : iv_G → Prop} {G G' : iv_G} (h : P G) (e : G = G') : P G' := e ▸ h
/-- the tape of the object h of kind c (its ref s, of kind d) is W below k -/
def lt (c s d h : Nat) (W : Nat → Int32) (k : Nat) (G : iv_G) : Prop := ∃ (g : Nat → Int32) (r : Nat → Nat) (gt : Nat → Int32) (rt : Nat → Nat), G h = some (c, g, r) ∧ G (r s) = some (d, gt, rt) ∧ ∀ i, i < k → gt i = W i
theorem lt.K {c s d h k : Nat} {W : Nat → Int32} {K : Nat → List Nat} {S : List Nat} {G G' : iv_G} (q : lt c s d h W k G) (hm : iv_MdK K S G G') (hc : c ≠ 5) (n : d ∉ S) : lt c s d h W k G' := by
  obtain ⟨g, r, gt, rt, a, b, e⟩ := q
  obtain ⟨g', r', a', rel⟩ := hm.ex a
  have er : r' s = r s := rel.1 s (fun q => absurd q hc)
  exact ⟨g', r', gt, rt, a', by rw [er]; exact hm.at b n, e⟩
theorem lt.cut {c s d h k k' : Nat} {W : Nat → Int32} {G : iv_G} (q : lt c s d h W k G) (hk : k' ≤ k) : lt c s d h W k' G := by
  obtain ⟨g, r, gt, rt, a, b, e⟩ := q
  exact ⟨g, r, gt, rt, a, b, fun i hi => e i (by omega)⟩
theorem lt.got {c s d h k : Nat} {W : Nat → Int32} {G : iv_G} {g : Nat → Int32} {r : Nat → Nat} (q : lt c s d h W k G) (ha : G h = some (c, g, r)) : ∃ (gt : Nat → Int32) (rt : Nat → Nat), G (r s) = some (d, gt, rt) ∧ ∀ i, i < k → gt i = W i := by
  obtain ⟨g', r', gt, rt, a, b, e⟩ := q
  cases ha.symm.trans a
  exact ⟨gt, rt, b, e⟩
def fe_W (W : Nat → Int32) (n : Nat) (f : Nat → Int32) : Nat → Int32 := fun i => if i < n then W i else f (i - n)
theorem lt.feed {c s d h : Nat} {W f : Nat → Int32} {t t1 : Int32} {K : Nat → List Nat} {S : List Nat} {G G' : iv_G} {g gt : Nat → Int32} {r : Nat → Nat} (hm : iv_MdK K S G G') (hc : c ≠ 5) (ha : G h = some (c, g, r)) (ht0 : 0 ≤ t.toInt) (hw : ∀ i, i < t.toInt.toNat → gt i = W i) (F1 : 400 < t.toInt + 20 → fe_T d (r s) t.toInt.toNat 0 gt f G') (F2 : t.toInt + 20 ≤ 400 → fe_T d (r s) t.toInt.toNat 20 gt f G') (e1 : 400 < t.toInt + 20 → t1 = t) (e2 : t.toInt + 20 ≤ 400 → t1.toInt = t.toInt + 20) : lt c s d h (fe_W W t.toInt.toNat f) t1.toInt.toNat G' := by
  obtain ⟨g', r', a', rel⟩ := hm.ex ha
  have er : r' s = r s := rel.1 s (fun q => absurd q hc)
  by_cases q : 400 < t.toInt + 20
  · obtain ⟨gt', rt', u1, u2, u3⟩ := F1 q
    refine ⟨g', r', gt', rt', a', by rw [er]; exact u1, fun i hi => ?_⟩
    rw [e1 q] at hi
    unfold fe_W
    rw [if_pos hi, u2 i hi]
    exact hw i hi
  · obtain ⟨gt', rt', u1, u2, u3⟩ := F2 (by omega)
    have w := e2 (by omega)
    refine ⟨g', r', gt', rt', a', by rw [er]; exact u1, fun i hi => ?_⟩
    unfold fe_W
    by_cases v : i < t.toInt.toNat
    · rw [if_pos v, u2 i v]
      exact hw i v
    · rw [if_neg v]
      have z := u3 (i - t.toInt.toNat) (by omega)
      rw [show t.toInt.toNat + (i - t.toInt.toNat) = i by omega] at z
      exact z
/-- the fault of the class's reader, and of the reference -/
def lf_1 (h : Nat) (a b : Int32) (G : iv_G) : Prop := ∃ (g : Nat → Int32) (r : Nat → Nat) (gr : Nat → Int32) (rr : Nat → Nat), G h = some (11, g, r) ∧ G (r 6) = some (7, gr, rr) ∧ gr 6 = a ∧ gr 7 = b
def lf_2 (h : Nat) (a b : Int32) (G : iv_G) : Prop := ∃ (g : Nat → Int32) (r : Nat → Nat), G h = some (12, g, r) ∧ g 22 = a ∧ g 24 = b
theorem lf_1.K {h : Nat} {a b : Int32} {K : Nat → List Nat} {S : List Nat} {G G' : iv_G} (q : lf_1 h a b G) (hm : iv_MdK K S G G') (n : 7 ∉ S) : lf_1 h a b G' := by
  obtain ⟨g, r, gr, rr, u, v, e⟩ := q
  obtain ⟨g', r', a', rel⟩ := hm.ex u
  exact ⟨g', r', gr, rr, a', by rw [lw_r11 rel 6]; exact hm.at v n, e⟩
theorem lf_2.K {h : Nat} {a b : Int32} {K : Nat → List Nat} {S : List Nat} {G G' : iv_G} (q : lf_2 h a b G) (hm : iv_MdK K S G G') (k22 : 22 ∈ K 12) (k24 : 24 ∈ K 12) : lf_2 h a b G' := by
  obtain ⟨g, r, u, e1, e2⟩ := q
  obtain ⟨g', r', a', rel⟩ := hm.ex u
  exact ⟨g', r', a', (rel.2 22 k22).trans e1, (rel.2 24 k24).trans e2⟩
theorem lf_1.any {h : Nat} {a b : Int32} {K : Nat → List Nat} {S : List Nat} {G G' : iv_G} {g : Nat → Int32} {r : Nat → Nat} (q : lf_1 h a b G) (hm : iv_MdK K S G G') (ha : G h = some (11, g, r)) : ∃ (gr : Nat → Int32) (rr : Nat → Nat), G' (r 6) = some (7, gr, rr) ∧ lf_1 h (gr 6) (gr 7) G' := by
  obtain ⟨g0, r0, gr, rr, u, v, -⟩ := q
  cases ha.symm.trans u
  obtain ⟨g', r', a', rel⟩ := hm.ex ha
  obtain ⟨gr', rr', b', -⟩ := hm.ex v
  exact ⟨gr', rr', b', g', r', gr', rr', a', by rw [lw_r11 rel 6]; exact b', rfl, rfl⟩
/-- what fault answers of a fault a at b -/
def lf_V (x a b v : Int32) : Prop := (x.toInt = 0 → v = a) ∧ (x.toInt = 1 → v = b) ∧ (¬ x.toInt = 0 → ¬ x.toInt = 1 → v = -1)
theorem lf_V.eq {x a b v w : Int32} (h1 : lf_V x a b v) (h2 : lf_V x a b w) : v = w := by
  by_cases q : x.toInt = 0
  · exact (h1.1 q).trans (h2.1 q).symm
  · by_cases u : x.toInt = 1
    · exact (h1.2.1 u).trans (h2.2.1 u).symm
    · exact (h1.2.2 q u).trans (h2.2.2 q u).symm
theorem lf_1.V {h : Nat} {a b x v : Int32} {G G' : iv_G} {g : Nat → Int32} {r : Nat → Nat} (q : lf_1 h a b G) (e : G = G') (ha : G h = some (11, g, r)) (w : (x.toInt = 0 → ∀ (g' : Nat → Int32) (r' : Nat → Nat), G' (r 6) = some (7, g', r') → v = g' 6) ∧ (x.toInt = 1 → ∀ (g' : Nat → Int32) (r' : Nat → Nat), G' (r 6) = some (7, g', r') → v = g' 7) ∧ (¬ x.toInt = 0 → ¬ x.toInt = 1 → v = -1)) : lf_V x a b v := by
  subst e
  obtain ⟨g0, r0, gr, rr, u1, u2, e1, e2⟩ := q
  cases ha.symm.trans u1
  exact ⟨fun h => (w.1 h _ _ u2).trans e1, fun h => (w.2.1 h _ _ u2).trans e2, w.2.2⟩
theorem lf_2.V {h : Nat} {a b x v : Int32} {G : iv_G} {g : Nat → Int32} {r : Nat → Nat} (q : lf_2 h a b G) (ha : G h = some (12, g, r)) (w : (x.toInt = 0 → v = g 22) ∧ (x.toInt = 1 → v = g 24) ∧ (¬ x.toInt = 0 → ¬ x.toInt = 1 → v = -1)) : lf_V x a b v := by
  obtain ⟨g0, r0, u1, e1, e2⟩ := q
  cases ha.symm.trans u1
  exact ⟨fun h => (w.1 h).trans e1, fun h => (w.2.1 h).trans e2, w.2.2⟩
theorem lx_K {R A : Prop} {B : (Nat → Int32) → (Nat → Int32) → (Nat → Int32) → Prop} (h : (¬ R → A) ∧ (R → ∃ gk gv gp : Nat → Int32, B gk gv gp)) : ∃ gk gv gp : Nat → Int32, (¬ R → A) ∧ (R → B gk gv gp) := by
  by_cases q : R
  · obtain ⟨gk, gv, gp, w⟩ := h.2 q
    exact ⟨gk, gv, gp, h.1, fun _ => w⟩
  · exact ⟨fun _ => 0, fun _ => 0, fun _ => 0, h.1, fun w => absurd w q⟩
/-- both readings of one tape end alike -/
theorem lx_out {x v w : Int32} {nn q h2 : Nat} {gk gv gp gr g4 : Nat → Int32} {rr r4 : Nat → Nat} {G1 G2 : iv_G} {TR : Prop}
    (hK : (¬ iv_R 0 2 x → v = -1 ∧ ∀ (g' : Nat → Int32) (r' : Nat → Nat), G1 q = some (7, g', r') → g' 6 = 0 ∧ g' 7 = -1) ∧ (iv_R 0 2 x → TR ∧ ((∃ j l : Nat, tk_cf x.toInt.toNat nn (tk_k gk) (tk_k gv) j = .fin l ∧ v.toInt = (l : Int) ∧ ∀ (g' : Nat → Int32) (r' : Nat → Nat), G1 q = some (7, g', r') → g' 6 = 0 ∧ g' 7 = -1) ∨ (∃ i k : Nat, tk_F x.toInt.toNat nn (tk_k gk) (tk_k gv) i k ∧ v = -1 ∧ ∀ (g' : Nat → Int32) (r' : Nat → Nat), G1 q = some (7, g', r') → (g' 6).toInt = (k : Int) ∧ (g' 7).toInt = tk_k gp i))))
    (hr : G1 q = some (7, gr, rr))
    (hM : (¬ iv_R 0 2 x → w = -1 ∧ ∀ (g' : Nat → Int32) (r' : Nat → Nat), G2 h2 = some (12, g', r') → g' 22 = 0 ∧ g' 24 = -1) ∧ (iv_R 0 2 x → (∃ j l : Nat, tk_cf x.toInt.toNat nn (tk_k gk) (tk_k gv) j = .fin l ∧ w.toInt = (l : Int) ∧ ∀ (g' : Nat → Int32) (r' : Nat → Nat), G2 h2 = some (12, g', r') → g' 22 = 0 ∧ g' 24 = -1) ∨ (∃ i k : Nat, tk_F x.toInt.toNat nn (tk_k gk) (tk_k gv) i k ∧ w = -1 ∧ ∀ (g' : Nat → Int32) (r' : Nat → Nat), G2 h2 = some (12, g', r') → (g' 22).toInt = (k : Int) ∧ (g' 24).toInt = tk_k gp i)))
    (hb : G2 h2 = some (12, g4, r4)) : v = w ∧ gr 6 = g4 22 ∧ gr 7 = g4 24 := by
  by_cases R : iv_R 0 2 x
  · have FE : ∀ {j l : Nat}, tk_cf x.toInt.toNat nn (tk_k gk) (tk_k gv) j = .fin l → tk_end x.toInt.toNat nn (tk_k gk) (tk_k gv) (.fin l) := fun {j l} h => ⟨Or.inl ⟨l, rfl⟩, j, h⟩
    have BE : ∀ {i k : Nat}, tk_F x.toInt.toNat nn (tk_k gk) (tk_k gv) i k → tk_end x.toInt.toNat nn (tk_k gk) (tk_k gv) (.bad k i) := fun {i k} h => ⟨Or.inr ⟨k, i, rfl⟩, i + 1, h⟩
    rcases (hK.2 R).2 with ⟨j, l, c1, c2, c3⟩ | ⟨i, k, c1, c2, c3⟩
    · rcases hM.2 R with ⟨j', l', d1, d2, d3⟩ | ⟨i', k', d1, d2, d3⟩
      · have e := tk_end.one (FE c1) (FE d1)
        cases e
        have z1 := c3 _ _ hr
        have z2 := d3 _ _ hb
        exact ⟨Int32.toInt_inj.mp (c2.trans d2.symm), z1.1.trans z2.1.symm, z1.2.trans z2.2.symm⟩
      · have e := tk_end.one (FE c1) (BE d1)
        cases e
    · rcases hM.2 R with ⟨j', l', d1, d2, d3⟩ | ⟨i', k', d1, d2, d3⟩
      · have e := tk_end.one (BE c1) (FE d1)
        cases e
      · have e := tk_end.one (BE c1) (BE d1)
        cases e
        have z1 := c3 _ _ hr
        have z2 := d3 _ _ hb
        exact ⟨c2.trans d2.symm, Int32.toInt_inj.mp (z1.1.trans z2.1.symm), Int32.toInt_inj.mp (z1.2.trans z2.2.symm)⟩
  · have z1 := (hK.1 R).2 _ _ hr
    have z2 := (hM.1 R).2 _ _ hb
    exact ⟨(hK.1 R).1.trans (hM.1 R).1.symm, z1.1.trans z2.1.symm, z1.2.trans z2.2.symm⟩
def lw_J (t1 t2 : Int32) (h1 h2 : Nat) (G : iv_G) : Prop := ∃ (f n p : Int32) (W : Nat → Int32) (a b : Int32), lw_JC f f n n p p t1 t2 h1 h2 G ∧ lt 11 4 45 h1 W t1.toInt.toNat G ∧ lt 12 8 66 h2 W t2.toInt.toNat G ∧ lf_1 h1 a b G ∧ lf_2 h2 a b G
section IVA
variable {p : Program} {l : Launch} {e : Env} {R : Room} {s : State} {m : MethodId} {args : Array Value} {below : List Frame} {meth : Method} {c : Code} {H : Heap} {locs : List Loc} {cells slots : Nat} {Q : State → Prop}
variable {cc : ByteArray} {nL pc : Nat} {ls : Array Slot} {rest : List Value} {D : va_G} {cl : List vw_C} {tys : List (ClassId × FieldType)} {base : Nat} {G : iv_G} {a b : Nat} {W0 : List Cond} {own : String} {sh : Nat → iv_Sh}
theorem iv_cViA (X : iv_X p m c cc nL s args W0 own D cl tys base) (hW0 : W0.all goodWord = true) {y : MethodName} {bytes : ByteArray} {maxL index n ci N cd mc ms : Nat} {ret : Option FieldType} {rm : Room} (M : iv_MF W0 y bytes maxL ret n) (hinst : Cond.instanceMethod y ∈ W0) (hsel : Cond.selects y.cls y y ∈ W0) (hl : Cond.methodLink own index y ∈ W0) {T : u_T} {ty : Nat → FieldType} (F : iv_FT cl W0 ci y.cls T N ty) (hB : iv_B sh D cl tys base G s.heap H locs) {g : Nat → Int32} {r : Nat → Nat} (ha : G b = some (cd, g, r)) {ts : iv_K → Nat → iv_T} (hsh : sh cd = .inl (ci, ts))
    {As : List Value} {post : Int32 → iv_G → Prop} (hM : Met l y (Cond.code y bytes maxL ret :: W0) rm (iv_Pc sh D cl tys base G (.ref b :: As)) (iv_Qi sh D cl tys base post) mc ms (iv_A base)) (hr0 : rm.cells = mc ∧ rm.slots = ms) (hR : rm.frames + 1 ≤ R.frames ∧ 8 + (maxL + 11) + rm.locals ≤ R.locals) (hRc : cells + mc ≤ R.cells ∧ slots + ms ≤ R.slots) {st0 : List Value} (hst : st0 = As.reverse ++ .ref b :: rest) (hn : As.length = n) (hsize : ls.size = nL) (hcat : (rest.map fun v => v.category).sum ≤ 8) (hdg : decode cc pc = .ok (.invokevirtual index, 3))
    (kk : ∀ (x : Int32) (G1 : iv_G) (H1 : Heap) (locs1 : List Loc), post x G1 → iv_B sh D cl tys base G1 s.heap H1 locs1 → W p l e R s m args below meth c H1 locs1 (cells + mc) (slots + ms) Q (F0 m (pc + 3) ls (.int x :: rest))) : W p l e R s m args below meth c H locs cells slots Q (F0 m pc ls st0) := by
  obtain ⟨q, h1, ⟨cell, o1, o2, o3, o4⟩, h3⟩ := (hB.got ha).obj hsh
  have hq : q = (y.cls, T, N) := Option.some.inj (h1.symm.trans F.1)
  rw [hq] at h1
  have hcls := (X.2.1.1 ci _ h1).2
  refine va_calli (va_runV (As := As) (rest := rest) (C := y.cls) X.1 hM ⟨iv_callB X hW0 M hl hr0 hR, X.1.2.2.2.2 _ hinst, X.1.2.2.2.2 _ hsel⟩ ⟨iv_Pc_blind, ⟨cell, o1, by rw [o3]; rfl, by rw [o2]; exact hcls.1⟩, fun U hU hW => ⟨rfl, by rw [hU]; exact hB.1, ⟨va_K.moved hW.alike X.2.1, iv_N.warm hW hB.2.1 hU X.2.2⟩, by rw [hU]; exact Nat.le_trans hB.2.2 hB.2.1.1⟩⟩ rfl hn hsize hst (lv_room hcat) hdg hRc) hB.2.1 (fun _ _ h => h) (fun _ h => h) (fun x u t H1 locs1 ht hvm hw hb1 hz1 hk1 hS => ?_)
  exact kk x u H1 locs1 hw ⟨by rw [← ht]; exact hb1.1, hS, hB.2.2⟩
end IVA

theorem dL_law_224 : decode cL_law 224 = .ok (.aload_n 1, 1) := by decide +kernel
theorem dL_law_225 : decode cL_law 225 = .ok (.aload_n 0, 1) := by decide +kernel
theorem dL_law_226 : decode cL_law 226 = .ok (.iload_n 3, 1) := by decide +kernel
theorem dL_law_227 : decode cL_law 227 = .ok (.iconst 1, 1) := by decide +kernel
theorem dL_law_228 : decode cL_law 228 = .ok (.iadd, 1) := by decide +kernel
theorem dL_law_229 : decode cL_law 229 = .ok (.iaload, 1) := by decide +kernel
theorem dL_law_230 : decode cL_law 230 = .ok (.invokevirtual 13, 3) := by decide +kernel
theorem dL_law_233 : decode cL_law 233 = .ok (.pop, 1) := by decide +kernel
theorem dL_law_234 : decode cL_law 234 = .ok (.aload_n 2, 1) := by decide +kernel
theorem dL_law_235 : decode cL_law 235 = .ok (.aload_n 0, 1) := by decide +kernel
theorem dL_law_236 : decode cL_law 236 = .ok (.iload_n 3, 1) := by decide +kernel
theorem dL_law_237 : decode cL_law 237 = .ok (.iconst 1, 1) := by decide +kernel
theorem dL_law_238 : decode cL_law 238 = .ok (.iadd, 1) := by decide +kernel
theorem dL_law_239 : decode cL_law 239 = .ok (.iaload, 1) := by decide +kernel
theorem dL_law_240 : decode cL_law 240 = .ok (.invokevirtual 17, 3) := by decide +kernel
theorem dL_law_243 : decode cL_law 243 = .ok (.pop, 1) := by decide +kernel
theorem dL_law_244 : decode cL_law 244 = .ok (.goto 1376, 3) := by decide +kernel
set_option maxHeartbeats 4000000 in
set_option maxRecDepth 100000 in
theorem law_c0 {p : Program} {l : Launch} {e : Env} {R : Room} {s : State} {m : MethodId} {args : Array Value} {below : List Frame} {meth : Method} {c : Code} {Q : State → Prop} {D : va_G} {tys : List (ClassId × FieldType)} {base b L : Nat} {xs : Nat → Int32} (X : iv_X p m c cL_law 4 s args iv_W0 RL D classes tys base) (hty : iv_ty tys) (hRf : 1300 ≤ R.frames) (hRl : 26000 ≤ R.locals) (hX : va_X b L xs s s.heap) (hbl : b < s.heap.size) (hbb : b < base) {h1 h2 : Nat} {t i : Int32} (ii : iv_R 0 3577 i) (hiL : i.toInt + 7 ≤ (L : Int)) {cells slots : Nat} (hRc : cells + 7 ≤ R.cells) (hRs : slots + 896 ≤ R.slots) {G : iv_G} {H : Heap} {locs : List Loc} (hB : iv_B iv_sh D classes tys base G s.heap H locs) (hJ : lw_J t t h1 h2 G) {ls : Array Slot} (hl : lv_has ls 4 [(3, .int i), (0, .ref b), (1, .ref h1), (2, .ref h2)])
    (kk : ∀ (t' : Int32) (G1 : iv_G) (H1 : Heap) (locs1 : List Loc), iv_B iv_sh D classes tys base G1 s.heap H1 locs1 → lw_J t' t' h1 h2 G1 → W p l e R s m args below meth c H1 locs1 (cells + 7) (slots + 896) Q (F0 m 1620 ls [])) : W p l e R s m args below meth c H locs cells slots Q (F0 m 224 ls []) := by
  have hx := X.1.1
  have hb := X.1.2.1
  have hbA : ¬ iv_A base b := fun q => absurd (show base ≤ b from q) (by omega)
  obtain ⟨cf, cn, cp, cW, ca, cb, hJ, hW1, hW2, hF1, hF2⟩ := hJ
  refine lv_aload_n hx hb dL_law_224 rfl (lv_at hl 2 rfl) ?_
  refine lv_aload_n hx hb dL_law_225 rfl (lv_at hl 1 rfl) ?_
  refine lv_iload_n hx hb dL_law_226 rfl (lv_at hl 0 rfl) ?_
  refine lv_iconst (v := 1) hx hb dL_law_227 (by decide) ?_
  refine iv_iadd hx hb ii q_1 (lo := 1) (hi := 3578) (by decide) dL_law_228 (fun y1 e_y1 i_y1 => ?_)
  refine va_sld hx hb hX hbl hbA hB.2.1 (iv_inU i_y1 (by decide) (by have w1 : y1.toInt = i.toInt + (1 : Int32).toInt := e_y1; have w2 : (1 : Int32).toInt = 1 := rfl; omega)) dL_law_229 ?_
  refine lv_topi (fun x2 e_x2 => ?_)
  have i_x2 := iv_R.all x2
  obtain ⟨g1, r1, g2, r2, a1, a2, q1, q2, hne, qf1, qf2, hnr, kn1, kp1, kn2, kp2⟩ := id hJ
  refine iv_cVi X k_good k_mf_X11_state k_im_X11_state k_sel_X11_state k_ml_L_13 ft_X11 hB a1 sh_11 (As := [.int x2]) (c_X11_state l D tys base G h1 g1 r1 a1 x2 i_x2) ⟨rfl, rfl⟩ ⟨Nat.le_trans (m := 1300) (Nat.le_of_ble_eq_true rfl) hRf, Nat.le_trans (m := 26000) (Nat.le_of_ble_eq_true rfl) hRl⟩ ⟨by omega, by omega⟩ rfl rfl hl.1 (Nat.le_of_ble_eq_true rfl) dL_law_230 (fun v3 G3 H locs hq hB => ?_)
  have hJ := hJ.md hq.1
  have hW1 := hW1.K (iv_MdT.of hq.1) (by decide) (by decide)
  have hW2 := hW2.K (iv_MdT.of hq.1) (by decide) (by decide)
  have hF1 := hF1.K (iv_MdT.of hq.1) (by decide)
  have hF2 := hF2.K (iv_MdT.of hq.1) (by decide) (by decide)
  refine lv_pop hx hb dL_law_233 rfl ?_
  refine lv_aload_n hx hb dL_law_234 rfl (lv_at hl 3 rfl) ?_
  refine lv_aload_n hx hb dL_law_235 rfl (lv_at hl 1 rfl) ?_
  refine lv_iload_n hx hb dL_law_236 rfl (lv_at hl 0 rfl) ?_
  refine lv_iconst (v := 1) hx hb dL_law_237 (by decide) ?_
  refine iv_iadd hx hb ii q_1 (lo := 1) (hi := 3578) (by decide) dL_law_238 (fun y4 e_y4 i_y4 => ?_)
  refine va_sld hx hb hX hbl hbA hB.2.1 (iv_inU i_y4 (by decide) (by have w1 : y4.toInt = i.toInt + (1 : Int32).toInt := e_y4; have w2 : (1 : Int32).toInt = 1 := rfl; omega)) dL_law_239 ?_
  refine lv_topi (fun x5 e_x5 => ?_)
  have i_x5 := iv_R.all x5
  obtain ⟨g1, r1, g2, r2, a1, a2, q1, q2, hne, qf1, qf2, hnr, kn1, kp1, kn2, kp2⟩ := id hJ
  refine iv_cVi X k_good k_mf_X12_state k_im_X12_state k_sel_X12_state k_ml_L_17 ft_X12 hB a2 sh_12 (As := [.int x5]) (c_X12_state l D tys base G3 h2 g2 r2 a2 x5 i_x5) ⟨rfl, rfl⟩ ⟨Nat.le_trans (m := 1300) (Nat.le_of_ble_eq_true rfl) hRf, Nat.le_trans (m := 26000) (Nat.le_of_ble_eq_true rfl) hRl⟩ ⟨by omega, by omega⟩ rfl rfl hl.1 (Nat.le_of_ble_eq_true rfl) dL_law_240 (fun v6 G6 H locs hq hB => ?_)
  have hJ := hJ.md hq.1
  have hW1 := hW1.K (iv_MdT.of hq.1) (by decide) (by decide)
  have hW2 := hW2.K (iv_MdT.of hq.1) (by decide) (by decide)
  have hF1 := hF1.K (iv_MdT.of hq.1) (by decide)
  have hF2 := hF2.K (iv_MdT.of hq.1) (by decide) (by decide)
  refine lv_pop hx hb dL_law_243 rfl ?_
  refine lv_goto (tgt := 1620) hx hb dL_law_244 (by decide) ?_
  refine W.widen (k := cells + 7) (n := slots + 896) (by omega) (by omega) ?_
  exact kk _ _ _ _ hB ⟨_, _, _, _, _, _, hJ, hW1, hW2, hF1, hF2⟩
theorem dL_law_247 : decode cL_law 247 = .ok (.aload_n 1, 1) := by decide +kernel
theorem dL_law_248 : decode cL_law 248 = .ok (.aload_n 0, 1) := by decide +kernel
theorem dL_law_249 : decode cL_law 249 = .ok (.iload_n 3, 1) := by decide +kernel
theorem dL_law_250 : decode cL_law 250 = .ok (.iconst 1, 1) := by decide +kernel
theorem dL_law_251 : decode cL_law 251 = .ok (.iadd, 1) := by decide +kernel
theorem dL_law_252 : decode cL_law 252 = .ok (.iaload, 1) := by decide +kernel
theorem dL_law_253 : decode cL_law 253 = .ok (.aload_n 0, 1) := by decide +kernel
theorem dL_law_254 : decode cL_law 254 = .ok (.iload_n 3, 1) := by decide +kernel
theorem dL_law_255 : decode cL_law 255 = .ok (.iconst 2, 1) := by decide +kernel
theorem dL_law_256 : decode cL_law 256 = .ok (.iadd, 1) := by decide +kernel
theorem dL_law_257 : decode cL_law 257 = .ok (.iaload, 1) := by decide +kernel
theorem dL_law_258 : decode cL_law 258 = .ok (.aload_n 0, 1) := by decide +kernel
theorem dL_law_259 : decode cL_law 259 = .ok (.iload_n 3, 1) := by decide +kernel
theorem dL_law_260 : decode cL_law 260 = .ok (.iconst 3, 1) := by decide +kernel
theorem dL_law_261 : decode cL_law 261 = .ok (.iadd, 1) := by decide +kernel
theorem dL_law_262 : decode cL_law 262 = .ok (.iaload, 1) := by decide +kernel
theorem dL_law_263 : decode cL_law 263 = .ok (.invokevirtual 18, 3) := by decide +kernel
theorem dL_law_266 : decode cL_law 266 = .ok (.pop, 1) := by decide +kernel
theorem dL_law_267 : decode cL_law 267 = .ok (.aload_n 2, 1) := by decide +kernel
theorem dL_law_268 : decode cL_law 268 = .ok (.aload_n 0, 1) := by decide +kernel
theorem dL_law_269 : decode cL_law 269 = .ok (.iload_n 3, 1) := by decide +kernel
theorem dL_law_270 : decode cL_law 270 = .ok (.iconst 1, 1) := by decide +kernel
theorem dL_law_271 : decode cL_law 271 = .ok (.iadd, 1) := by decide +kernel
theorem dL_law_272 : decode cL_law 272 = .ok (.iaload, 1) := by decide +kernel
theorem dL_law_273 : decode cL_law 273 = .ok (.aload_n 0, 1) := by decide +kernel
theorem dL_law_274 : decode cL_law 274 = .ok (.iload_n 3, 1) := by decide +kernel
theorem dL_law_275 : decode cL_law 275 = .ok (.iconst 2, 1) := by decide +kernel
theorem dL_law_276 : decode cL_law 276 = .ok (.iadd, 1) := by decide +kernel
theorem dL_law_277 : decode cL_law 277 = .ok (.iaload, 1) := by decide +kernel
theorem dL_law_278 : decode cL_law 278 = .ok (.aload_n 0, 1) := by decide +kernel
theorem dL_law_279 : decode cL_law 279 = .ok (.iload_n 3, 1) := by decide +kernel
theorem dL_law_280 : decode cL_law 280 = .ok (.iconst 3, 1) := by decide +kernel
theorem dL_law_281 : decode cL_law 281 = .ok (.iadd, 1) := by decide +kernel
theorem dL_law_282 : decode cL_law 282 = .ok (.iaload, 1) := by decide +kernel
theorem dL_law_283 : decode cL_law 283 = .ok (.invokevirtual 22, 3) := by decide +kernel
theorem dL_law_286 : decode cL_law 286 = .ok (.pop, 1) := by decide +kernel
theorem dL_law_287 : decode cL_law 287 = .ok (.goto 1333, 3) := by decide +kernel
set_option maxHeartbeats 4000000 in
set_option maxRecDepth 100000 in
theorem law_c1 {p : Program} {l : Launch} {e : Env} {R : Room} {s : State} {m : MethodId} {args : Array Value} {below : List Frame} {meth : Method} {c : Code} {Q : State → Prop} {D : va_G} {tys : List (ClassId × FieldType)} {base b L : Nat} {xs : Nat → Int32} (X : iv_X p m c cL_law 4 s args iv_W0 RL D classes tys base) (hty : iv_ty tys) (hRf : 1300 ≤ R.frames) (hRl : 26000 ≤ R.locals) (hX : va_X b L xs s s.heap) (hbl : b < s.heap.size) (hbb : b < base) {h1 h2 : Nat} {t i : Int32} (ii : iv_R 0 3577 i) (hiL : i.toInt + 7 ≤ (L : Int)) {cells slots : Nat} (hRc : cells + 7 ≤ R.cells) (hRs : slots + 896 ≤ R.slots) {G : iv_G} {H : Heap} {locs : List Loc} (hB : iv_B iv_sh D classes tys base G s.heap H locs) (hJ : lw_J t t h1 h2 G) {ls : Array Slot} (hl : lv_has ls 4 [(3, .int i), (0, .ref b), (1, .ref h1), (2, .ref h2)])
    (kk : ∀ (t' : Int32) (G1 : iv_G) (H1 : Heap) (locs1 : List Loc), iv_B iv_sh D classes tys base G1 s.heap H1 locs1 → lw_J t' t' h1 h2 G1 → W p l e R s m args below meth c H1 locs1 (cells + 7) (slots + 896) Q (F0 m 1620 ls [])) : W p l e R s m args below meth c H locs cells slots Q (F0 m 247 ls []) := by
  have hx := X.1.1
  have hb := X.1.2.1
  have hbA : ¬ iv_A base b := fun q => absurd (show base ≤ b from q) (by omega)
  obtain ⟨cf, cn, cp, cW, ca, cb, hJ, hW1, hW2, hF1, hF2⟩ := hJ
  refine lv_aload_n hx hb dL_law_247 rfl (lv_at hl 2 rfl) ?_
  refine lv_aload_n hx hb dL_law_248 rfl (lv_at hl 1 rfl) ?_
  refine lv_iload_n hx hb dL_law_249 rfl (lv_at hl 0 rfl) ?_
  refine lv_iconst (v := 1) hx hb dL_law_250 (by decide) ?_
  refine iv_iadd hx hb ii q_1 (lo := 1) (hi := 3578) (by decide) dL_law_251 (fun y1 e_y1 i_y1 => ?_)
  refine va_sld hx hb hX hbl hbA hB.2.1 (iv_inU i_y1 (by decide) (by have w1 : y1.toInt = i.toInt + (1 : Int32).toInt := e_y1; have w2 : (1 : Int32).toInt = 1 := rfl; omega)) dL_law_252 ?_
  refine lv_topi (fun x2 e_x2 => ?_)
  have i_x2 := iv_R.all x2
  refine lv_aload_n hx hb dL_law_253 rfl (lv_at hl 1 rfl) ?_
  refine lv_iload_n hx hb dL_law_254 rfl (lv_at hl 0 rfl) ?_
  refine lv_iconst (v := 2) hx hb dL_law_255 (by decide) ?_
  refine iv_iadd hx hb ii q_2 (lo := 2) (hi := 3579) (by decide) dL_law_256 (fun y3 e_y3 i_y3 => ?_)
  refine va_sld hx hb hX hbl hbA hB.2.1 (iv_inU i_y3 (by decide) (by have w1 : y3.toInt = i.toInt + (2 : Int32).toInt := e_y3; have w2 : (2 : Int32).toInt = 2 := rfl; omega)) dL_law_257 ?_
  refine lv_topi (fun x4 e_x4 => ?_)
  have i_x4 := iv_R.all x4
  refine lv_aload_n hx hb dL_law_258 rfl (lv_at hl 1 rfl) ?_
  refine lv_iload_n hx hb dL_law_259 rfl (lv_at hl 0 rfl) ?_
  refine lv_iconst (v := 3) hx hb dL_law_260 (by decide) ?_
  refine iv_iadd hx hb ii q_3 (lo := 3) (hi := 3580) (by decide) dL_law_261 (fun y5 e_y5 i_y5 => ?_)
  refine va_sld hx hb hX hbl hbA hB.2.1 (iv_inU i_y5 (by decide) (by have w1 : y5.toInt = i.toInt + (3 : Int32).toInt := e_y5; have w2 : (3 : Int32).toInt = 3 := rfl; omega)) dL_law_262 ?_
  refine lv_topi (fun x6 e_x6 => ?_)
  have i_x6 := iv_R.all x6
  obtain ⟨g1, r1, g2, r2, a1, a2, q1, q2, hne, qf1, qf2, hnr, kn1, kp1, kn2, kp2⟩ := id hJ
  refine iv_cVi X k_good k_mf_X11_far k_im_X11_far k_sel_X11_far k_ml_L_18 ft_X11 hB a1 sh_11 (As := [.int x2, .int x4, .int x6]) (c_X11_far l D tys base G h1 g1 r1 a1 x2 i_x2 x4 i_x4 x6 i_x6) ⟨rfl, rfl⟩ ⟨Nat.le_trans (m := 1300) (Nat.le_of_ble_eq_true rfl) hRf, Nat.le_trans (m := 26000) (Nat.le_of_ble_eq_true rfl) hRl⟩ ⟨by omega, by omega⟩ rfl rfl hl.1 (Nat.le_of_ble_eq_true rfl) dL_law_263 (fun v7 G7 H locs hq hB => ?_)
  have hJ := hJ.md hq.1
  have hW1 := hW1.K (iv_MdT.of hq.1) (by decide) (by decide)
  have hW2 := hW2.K (iv_MdT.of hq.1) (by decide) (by decide)
  have hF1 := hF1.K (iv_MdT.of hq.1) (by decide)
  have hF2 := hF2.K (iv_MdT.of hq.1) (by decide) (by decide)
  refine lv_pop hx hb dL_law_266 rfl ?_
  refine lv_aload_n hx hb dL_law_267 rfl (lv_at hl 3 rfl) ?_
  refine lv_aload_n hx hb dL_law_268 rfl (lv_at hl 1 rfl) ?_
  refine lv_iload_n hx hb dL_law_269 rfl (lv_at hl 0 rfl) ?_
  refine lv_iconst (v := 1) hx hb dL_law_270 (by decide) ?_
  refine iv_iadd hx hb ii q_1 (lo := 1) (hi := 3578) (by decide) dL_law_271 (fun y8 e_y8 i_y8 => ?_)
  refine va_sld hx hb hX hbl hbA hB.2.1 (iv_inU i_y8 (by decide) (by have w1 : y8.toInt = i.toInt + (1 : Int32).toInt := e_y8; have w2 : (1 : Int32).toInt = 1 := rfl; omega)) dL_law_272 ?_
  refine lv_topi (fun x9 e_x9 => ?_)
  have i_x9 := iv_R.all x9
  refine lv_aload_n hx hb dL_law_273 rfl (lv_at hl 1 rfl) ?_
  refine lv_iload_n hx hb dL_law_274 rfl (lv_at hl 0 rfl) ?_
  refine lv_iconst (v := 2) hx hb dL_law_275 (by decide) ?_
  refine iv_iadd hx hb ii q_2 (lo := 2) (hi := 3579) (by decide) dL_law_276 (fun y10 e_y10 i_y10 => ?_)
  refine va_sld hx hb hX hbl hbA hB.2.1 (iv_inU i_y10 (by decide) (by have w1 : y10.toInt = i.toInt + (2 : Int32).toInt := e_y10; have w2 : (2 : Int32).toInt = 2 := rfl; omega)) dL_law_277 ?_
  refine lv_topi (fun x11 e_x11 => ?_)
  have i_x11 := iv_R.all x11
  refine lv_aload_n hx hb dL_law_278 rfl (lv_at hl 1 rfl) ?_
  refine lv_iload_n hx hb dL_law_279 rfl (lv_at hl 0 rfl) ?_
  refine lv_iconst (v := 3) hx hb dL_law_280 (by decide) ?_
  refine iv_iadd hx hb ii q_3 (lo := 3) (hi := 3580) (by decide) dL_law_281 (fun y12 e_y12 i_y12 => ?_)
  refine va_sld hx hb hX hbl hbA hB.2.1 (iv_inU i_y12 (by decide) (by have w1 : y12.toInt = i.toInt + (3 : Int32).toInt := e_y12; have w2 : (3 : Int32).toInt = 3 := rfl; omega)) dL_law_282 ?_
  refine lv_topi (fun x13 e_x13 => ?_)
  have i_x13 := iv_R.all x13
  obtain ⟨g1, r1, g2, r2, a1, a2, q1, q2, hne, qf1, qf2, hnr, kn1, kp1, kn2, kp2⟩ := id hJ
  refine iv_cVi X k_good k_mf_X12_far k_im_X12_far k_sel_X12_far k_ml_L_22 ft_X12 hB a2 sh_12 (As := [.int x9, .int x11, .int x13]) (c_X12_far l D tys base G7 h2 g2 r2 a2 x9 i_x9 x11 i_x11 x13 i_x13) ⟨rfl, rfl⟩ ⟨Nat.le_trans (m := 1300) (Nat.le_of_ble_eq_true rfl) hRf, Nat.le_trans (m := 26000) (Nat.le_of_ble_eq_true rfl) hRl⟩ ⟨by omega, by omega⟩ rfl rfl hl.1 (Nat.le_of_ble_eq_true rfl) dL_law_283 (fun v14 G14 H locs hq hB => ?_)
  have hJ := hJ.md hq.1
  have hW1 := hW1.K (iv_MdT.of hq.1) (by decide) (by decide)
  have hW2 := hW2.K (iv_MdT.of hq.1) (by decide) (by decide)
  have hF1 := hF1.K (iv_MdT.of hq.1) (by decide)
  have hF2 := hF2.K (iv_MdT.of hq.1) (by decide) (by decide)
  refine lv_pop hx hb dL_law_286 rfl ?_
  refine lv_goto (tgt := 1620) hx hb dL_law_287 (by decide) ?_
  refine W.widen (k := cells + 7) (n := slots + 896) (by omega) (by omega) ?_
  exact kk _ _ _ _ hB ⟨_, _, _, _, _, _, hJ, hW1, hW2, hF1, hF2⟩
theorem dL_law_290 : decode cL_law 290 = .ok (.aload_n 1, 1) := by decide +kernel
theorem dL_law_291 : decode cL_law 291 = .ok (.aload_n 0, 1) := by decide +kernel
theorem dL_law_292 : decode cL_law 292 = .ok (.iload_n 3, 1) := by decide +kernel
theorem dL_law_293 : decode cL_law 293 = .ok (.iconst 1, 1) := by decide +kernel
theorem dL_law_294 : decode cL_law 294 = .ok (.iadd, 1) := by decide +kernel
theorem dL_law_295 : decode cL_law 295 = .ok (.iaload, 1) := by decide +kernel
theorem dL_law_296 : decode cL_law 296 = .ok (.aload_n 0, 1) := by decide +kernel
theorem dL_law_297 : decode cL_law 297 = .ok (.iload_n 3, 1) := by decide +kernel
theorem dL_law_298 : decode cL_law 298 = .ok (.iconst 2, 1) := by decide +kernel
theorem dL_law_299 : decode cL_law 299 = .ok (.iadd, 1) := by decide +kernel
theorem dL_law_300 : decode cL_law 300 = .ok (.iaload, 1) := by decide +kernel
theorem dL_law_301 : decode cL_law 301 = .ok (.aload_n 0, 1) := by decide +kernel
theorem dL_law_302 : decode cL_law 302 = .ok (.iload_n 3, 1) := by decide +kernel
theorem dL_law_303 : decode cL_law 303 = .ok (.iconst 3, 1) := by decide +kernel
theorem dL_law_304 : decode cL_law 304 = .ok (.iadd, 1) := by decide +kernel
theorem dL_law_305 : decode cL_law 305 = .ok (.iaload, 1) := by decide +kernel
theorem dL_law_306 : decode cL_law 306 = .ok (.aload_n 0, 1) := by decide +kernel
theorem dL_law_307 : decode cL_law 307 = .ok (.iload_n 3, 1) := by decide +kernel
theorem dL_law_308 : decode cL_law 308 = .ok (.iconst 4, 1) := by decide +kernel
theorem dL_law_309 : decode cL_law 309 = .ok (.iadd, 1) := by decide +kernel
theorem dL_law_310 : decode cL_law 310 = .ok (.iaload, 1) := by decide +kernel
theorem dL_law_311 : decode cL_law 311 = .ok (.invokevirtual 23, 3) := by decide +kernel
theorem dL_law_314 : decode cL_law 314 = .ok (.pop, 1) := by decide +kernel
theorem dL_law_315 : decode cL_law 315 = .ok (.aload_n 2, 1) := by decide +kernel
theorem dL_law_316 : decode cL_law 316 = .ok (.aload_n 0, 1) := by decide +kernel
theorem dL_law_317 : decode cL_law 317 = .ok (.iload_n 3, 1) := by decide +kernel
theorem dL_law_318 : decode cL_law 318 = .ok (.iconst 1, 1) := by decide +kernel
theorem dL_law_319 : decode cL_law 319 = .ok (.iadd, 1) := by decide +kernel
theorem dL_law_320 : decode cL_law 320 = .ok (.iaload, 1) := by decide +kernel
theorem dL_law_321 : decode cL_law 321 = .ok (.aload_n 0, 1) := by decide +kernel
theorem dL_law_322 : decode cL_law 322 = .ok (.iload_n 3, 1) := by decide +kernel
theorem dL_law_323 : decode cL_law 323 = .ok (.iconst 2, 1) := by decide +kernel
theorem dL_law_324 : decode cL_law 324 = .ok (.iadd, 1) := by decide +kernel
theorem dL_law_325 : decode cL_law 325 = .ok (.iaload, 1) := by decide +kernel
theorem dL_law_326 : decode cL_law 326 = .ok (.aload_n 0, 1) := by decide +kernel
theorem dL_law_327 : decode cL_law 327 = .ok (.iload_n 3, 1) := by decide +kernel
theorem dL_law_328 : decode cL_law 328 = .ok (.iconst 3, 1) := by decide +kernel
theorem dL_law_329 : decode cL_law 329 = .ok (.iadd, 1) := by decide +kernel
theorem dL_law_330 : decode cL_law 330 = .ok (.iaload, 1) := by decide +kernel
theorem dL_law_331 : decode cL_law 331 = .ok (.aload_n 0, 1) := by decide +kernel
theorem dL_law_332 : decode cL_law 332 = .ok (.iload_n 3, 1) := by decide +kernel
theorem dL_law_333 : decode cL_law 333 = .ok (.iconst 4, 1) := by decide +kernel
theorem dL_law_334 : decode cL_law 334 = .ok (.iadd, 1) := by decide +kernel
theorem dL_law_335 : decode cL_law 335 = .ok (.iaload, 1) := by decide +kernel
theorem dL_law_336 : decode cL_law 336 = .ok (.invokevirtual 27, 3) := by decide +kernel
theorem dL_law_339 : decode cL_law 339 = .ok (.pop, 1) := by decide +kernel
theorem dL_law_340 : decode cL_law 340 = .ok (.goto 1280, 3) := by decide +kernel
set_option maxHeartbeats 4000000 in
set_option maxRecDepth 100000 in
theorem law_c2 {p : Program} {l : Launch} {e : Env} {R : Room} {s : State} {m : MethodId} {args : Array Value} {below : List Frame} {meth : Method} {c : Code} {Q : State → Prop} {D : va_G} {tys : List (ClassId × FieldType)} {base b L : Nat} {xs : Nat → Int32} (X : iv_X p m c cL_law 4 s args iv_W0 RL D classes tys base) (hty : iv_ty tys) (hRf : 1300 ≤ R.frames) (hRl : 26000 ≤ R.locals) (hX : va_X b L xs s s.heap) (hbl : b < s.heap.size) (hbb : b < base) {h1 h2 : Nat} {t i : Int32} (ii : iv_R 0 3577 i) (hiL : i.toInt + 7 ≤ (L : Int)) {cells slots : Nat} (hRc : cells + 7 ≤ R.cells) (hRs : slots + 896 ≤ R.slots) {G : iv_G} {H : Heap} {locs : List Loc} (hB : iv_B iv_sh D classes tys base G s.heap H locs) (hJ : lw_J t t h1 h2 G) {ls : Array Slot} (hl : lv_has ls 4 [(3, .int i), (0, .ref b), (1, .ref h1), (2, .ref h2)])
    (kk : ∀ (t' : Int32) (G1 : iv_G) (H1 : Heap) (locs1 : List Loc), iv_B iv_sh D classes tys base G1 s.heap H1 locs1 → lw_J t' t' h1 h2 G1 → W p l e R s m args below meth c H1 locs1 (cells + 7) (slots + 896) Q (F0 m 1620 ls [])) : W p l e R s m args below meth c H locs cells slots Q (F0 m 290 ls []) := by
  have hx := X.1.1
  have hb := X.1.2.1
  have hbA : ¬ iv_A base b := fun q => absurd (show base ≤ b from q) (by omega)
  obtain ⟨cf, cn, cp, cW, ca, cb, hJ, hW1, hW2, hF1, hF2⟩ := hJ
  refine lv_aload_n hx hb dL_law_290 rfl (lv_at hl 2 rfl) ?_
  refine lv_aload_n hx hb dL_law_291 rfl (lv_at hl 1 rfl) ?_
  refine lv_iload_n hx hb dL_law_292 rfl (lv_at hl 0 rfl) ?_
  refine lv_iconst (v := 1) hx hb dL_law_293 (by decide) ?_
  refine iv_iadd hx hb ii q_1 (lo := 1) (hi := 3578) (by decide) dL_law_294 (fun y1 e_y1 i_y1 => ?_)
  refine va_sld hx hb hX hbl hbA hB.2.1 (iv_inU i_y1 (by decide) (by have w1 : y1.toInt = i.toInt + (1 : Int32).toInt := e_y1; have w2 : (1 : Int32).toInt = 1 := rfl; omega)) dL_law_295 ?_
  refine lv_topi (fun x2 e_x2 => ?_)
  have i_x2 := iv_R.all x2
  refine lv_aload_n hx hb dL_law_296 rfl (lv_at hl 1 rfl) ?_
  refine lv_iload_n hx hb dL_law_297 rfl (lv_at hl 0 rfl) ?_
  refine lv_iconst (v := 2) hx hb dL_law_298 (by decide) ?_
  refine iv_iadd hx hb ii q_2 (lo := 2) (hi := 3579) (by decide) dL_law_299 (fun y3 e_y3 i_y3 => ?_)
  refine va_sld hx hb hX hbl hbA hB.2.1 (iv_inU i_y3 (by decide) (by have w1 : y3.toInt = i.toInt + (2 : Int32).toInt := e_y3; have w2 : (2 : Int32).toInt = 2 := rfl; omega)) dL_law_300 ?_
  refine lv_topi (fun x4 e_x4 => ?_)
  have i_x4 := iv_R.all x4
  refine lv_aload_n hx hb dL_law_301 rfl (lv_at hl 1 rfl) ?_
  refine lv_iload_n hx hb dL_law_302 rfl (lv_at hl 0 rfl) ?_
  refine lv_iconst (v := 3) hx hb dL_law_303 (by decide) ?_
  refine iv_iadd hx hb ii q_3 (lo := 3) (hi := 3580) (by decide) dL_law_304 (fun y5 e_y5 i_y5 => ?_)
  refine va_sld hx hb hX hbl hbA hB.2.1 (iv_inU i_y5 (by decide) (by have w1 : y5.toInt = i.toInt + (3 : Int32).toInt := e_y5; have w2 : (3 : Int32).toInt = 3 := rfl; omega)) dL_law_305 ?_
  refine lv_topi (fun x6 e_x6 => ?_)
  have i_x6 := iv_R.all x6
  refine lv_aload_n hx hb dL_law_306 rfl (lv_at hl 1 rfl) ?_
  refine lv_iload_n hx hb dL_law_307 rfl (lv_at hl 0 rfl) ?_
  refine lv_iconst (v := 4) hx hb dL_law_308 (by decide) ?_
  refine iv_iadd hx hb ii q_4 (lo := 4) (hi := 3581) (by decide) dL_law_309 (fun y7 e_y7 i_y7 => ?_)
  refine va_sld hx hb hX hbl hbA hB.2.1 (iv_inU i_y7 (by decide) (by have w1 : y7.toInt = i.toInt + (4 : Int32).toInt := e_y7; have w2 : (4 : Int32).toInt = 4 := rfl; omega)) dL_law_310 ?_
  refine lv_topi (fun x8 e_x8 => ?_)
  have i_x8 := iv_R.all x8
  obtain ⟨g1, r1, g2, r2, a1, a2, q1, q2, hne, qf1, qf2, hnr, kn1, kp1, kn2, kp2⟩ := id hJ
  refine iv_cVi X k_good k_mf_X11_bell k_im_X11_bell k_sel_X11_bell k_ml_L_23 ft_X11 hB a1 sh_11 (As := [.int x2, .int x4, .int x6, .int x8]) (e_X11_bell l D tys base G h1 g1 r1 a1 x2 i_x2 x4 i_x4 x6 i_x6 x8 i_x8) ⟨rfl, rfl⟩ ⟨Nat.le_trans (m := 1300) (Nat.le_of_ble_eq_true rfl) hRf, Nat.le_trans (m := 26000) (Nat.le_of_ble_eq_true rfl) hRl⟩ ⟨by omega, by omega⟩ rfl rfl hl.1 (Nat.le_of_ble_eq_true rfl) dL_law_311 (fun v9 G9 H locs hq hB => ?_)
  obtain ⟨cn1, hR1, hJ⟩ := hJ.bell1 hq.1 a1 (by decide) (by decide) (by decide) hq.2.2
  have hW1 := hW1.K hq.1 (by decide) (by decide)
  have hW2 := hW2.K hq.1 (by decide) (by decide)
  have hF1 := hF1.K hq.1 (by decide)
  have hF2 := hF2.K hq.1 (by decide) (by decide)
  refine lv_pop hx hb dL_law_314 rfl ?_
  refine lv_aload_n hx hb dL_law_315 rfl (lv_at hl 3 rfl) ?_
  refine lv_aload_n hx hb dL_law_316 rfl (lv_at hl 1 rfl) ?_
  refine lv_iload_n hx hb dL_law_317 rfl (lv_at hl 0 rfl) ?_
  refine lv_iconst (v := 1) hx hb dL_law_318 (by decide) ?_
  refine iv_iadd hx hb ii q_1 (lo := 1) (hi := 3578) (by decide) dL_law_319 (fun y10 e_y10 i_y10 => ?_)
  refine va_sld hx hb hX hbl hbA hB.2.1 (iv_inU i_y10 (by decide) (by have w1 : y10.toInt = i.toInt + (1 : Int32).toInt := e_y10; have w2 : (1 : Int32).toInt = 1 := rfl; omega)) dL_law_320 ?_
  refine lv_topi (fun x11 e_x11 => ?_)
  have i_x11 := iv_R.all x11
  refine lv_aload_n hx hb dL_law_321 rfl (lv_at hl 1 rfl) ?_
  refine lv_iload_n hx hb dL_law_322 rfl (lv_at hl 0 rfl) ?_
  refine lv_iconst (v := 2) hx hb dL_law_323 (by decide) ?_
  refine iv_iadd hx hb ii q_2 (lo := 2) (hi := 3579) (by decide) dL_law_324 (fun y12 e_y12 i_y12 => ?_)
  refine va_sld hx hb hX hbl hbA hB.2.1 (iv_inU i_y12 (by decide) (by have w1 : y12.toInt = i.toInt + (2 : Int32).toInt := e_y12; have w2 : (2 : Int32).toInt = 2 := rfl; omega)) dL_law_325 ?_
  refine lv_topi (fun x13 e_x13 => ?_)
  have i_x13 := iv_R.all x13
  refine lv_aload_n hx hb dL_law_326 rfl (lv_at hl 1 rfl) ?_
  refine lv_iload_n hx hb dL_law_327 rfl (lv_at hl 0 rfl) ?_
  refine lv_iconst (v := 3) hx hb dL_law_328 (by decide) ?_
  refine iv_iadd hx hb ii q_3 (lo := 3) (hi := 3580) (by decide) dL_law_329 (fun y14 e_y14 i_y14 => ?_)
  refine va_sld hx hb hX hbl hbA hB.2.1 (iv_inU i_y14 (by decide) (by have w1 : y14.toInt = i.toInt + (3 : Int32).toInt := e_y14; have w2 : (3 : Int32).toInt = 3 := rfl; omega)) dL_law_330 ?_
  refine lv_topi (fun x15 e_x15 => ?_)
  have i_x15 := iv_R.all x15
  refine lv_aload_n hx hb dL_law_331 rfl (lv_at hl 1 rfl) ?_
  refine lv_iload_n hx hb dL_law_332 rfl (lv_at hl 0 rfl) ?_
  refine lv_iconst (v := 4) hx hb dL_law_333 (by decide) ?_
  refine iv_iadd hx hb ii q_4 (lo := 4) (hi := 3581) (by decide) dL_law_334 (fun y16 e_y16 i_y16 => ?_)
  refine va_sld hx hb hX hbl hbA hB.2.1 (iv_inU i_y16 (by decide) (by have w1 : y16.toInt = i.toInt + (4 : Int32).toInt := e_y16; have w2 : (4 : Int32).toInt = 4 := rfl; omega)) dL_law_335 ?_
  refine lv_topi (fun x17 e_x17 => ?_)
  have i_x17 := iv_R.all x17
  obtain ⟨g1, r1, g2, r2, a1, a2, q1, q2, hne, qf1, qf2, hnr, kn1, kp1, kn2, kp2⟩ := id hJ
  refine iv_cVi X k_good k_mf_X12_bell k_im_X12_bell k_sel_X12_bell k_ml_L_27 ft_X12 hB a2 sh_12 (As := [.int x11, .int x13, .int x15, .int x17]) (e_X12_bell l D tys base G9 h2 g2 r2 a2 x11 i_x11 x13 i_x13 x15 i_x15 x17 i_x17) ⟨rfl, rfl⟩ ⟨Nat.le_trans (m := 1300) (Nat.le_of_ble_eq_true rfl) hRf, Nat.le_trans (m := 26000) (Nat.le_of_ble_eq_true rfl) hRl⟩ ⟨by omega, by omega⟩ rfl rfl hl.1 (Nat.le_of_ble_eq_true rfl) dL_law_336 (fun v18 G18 H locs hq hB => ?_)
  obtain ⟨cn2, hR2, hJ⟩ := hJ.bell2 hq.1 a2 (by decide) (by decide) (fun g' r' h9 => (hq.2.2.1 g' r' h9).trans q2) hq.2.2.2
  have exx0 : x11 = x2 := by rw [e_x11, e_x2]; exact congrArg (fun z : Int32 => xs z.toNatClampNeg) (Int32.toInt_inj.mp (e_y10.trans e_y1.symm))
  have exx1 : x13 = x4 := by rw [e_x13, e_x4]; exact congrArg (fun z : Int32 => xs z.toNatClampNeg) (Int32.toInt_inj.mp (e_y12.trans e_y3.symm))
  have exx2 : x15 = x6 := by rw [e_x15, e_x6]; exact congrArg (fun z : Int32 => xs z.toNatClampNeg) (Int32.toInt_inj.mp (e_y14.trans e_y5.symm))
  have exx3 : x17 = x8 := by rw [e_x17, e_x8]; exact congrArg (fun z : Int32 => xs z.toNatClampNeg) (Int32.toInt_inj.mp (e_y16.trans e_y7.symm))
  rw [exx0, exx1, exx2, exx3] at hR2
  obtain ⟨hvv, hcn⟩ := hR1.eq hR2
  rw [hcn] at hJ
  have hW1 := hW1.K hq.1 (by decide) (by decide)
  have hW2 := hW2.K hq.1 (by decide) (by decide)
  have hF1 := hF1.K hq.1 (by decide)
  have hF2 := hF2.K hq.1 (by decide) (by decide)
  refine lv_pop hx hb dL_law_339 rfl ?_
  refine lv_goto (tgt := 1620) hx hb dL_law_340 (by decide) ?_
  refine W.widen (k := cells + 7) (n := slots + 896) (by omega) (by omega) ?_
  exact kk _ _ _ _ hB ⟨_, _, _, _, _, _, hJ, hW1, hW2, hF1, hF2⟩
theorem dL_law_343 : decode cL_law 343 = .ok (.aload_n 1, 1) := by decide +kernel
theorem dL_law_344 : decode cL_law 344 = .ok (.aload_n 0, 1) := by decide +kernel
theorem dL_law_345 : decode cL_law 345 = .ok (.iload_n 3, 1) := by decide +kernel
theorem dL_law_346 : decode cL_law 346 = .ok (.iconst 1, 1) := by decide +kernel
theorem dL_law_347 : decode cL_law 347 = .ok (.iadd, 1) := by decide +kernel
theorem dL_law_348 : decode cL_law 348 = .ok (.iaload, 1) := by decide +kernel
theorem dL_law_349 : decode cL_law 349 = .ok (.aload_n 0, 1) := by decide +kernel
theorem dL_law_350 : decode cL_law 350 = .ok (.iload_n 3, 1) := by decide +kernel
theorem dL_law_351 : decode cL_law 351 = .ok (.iconst 2, 1) := by decide +kernel
theorem dL_law_352 : decode cL_law 352 = .ok (.iadd, 1) := by decide +kernel
theorem dL_law_353 : decode cL_law 353 = .ok (.iaload, 1) := by decide +kernel
theorem dL_law_354 : decode cL_law 354 = .ok (.aload_n 0, 1) := by decide +kernel
theorem dL_law_355 : decode cL_law 355 = .ok (.iload_n 3, 1) := by decide +kernel
theorem dL_law_356 : decode cL_law 356 = .ok (.iconst 3, 1) := by decide +kernel
theorem dL_law_357 : decode cL_law 357 = .ok (.iadd, 1) := by decide +kernel
theorem dL_law_358 : decode cL_law 358 = .ok (.iaload, 1) := by decide +kernel
theorem dL_law_359 : decode cL_law 359 = .ok (.invokevirtual 28, 3) := by decide +kernel
theorem dL_law_362 : decode cL_law 362 = .ok (.pop, 1) := by decide +kernel
theorem dL_law_363 : decode cL_law 363 = .ok (.aload_n 2, 1) := by decide +kernel
theorem dL_law_364 : decode cL_law 364 = .ok (.aload_n 0, 1) := by decide +kernel
theorem dL_law_365 : decode cL_law 365 = .ok (.iload_n 3, 1) := by decide +kernel
theorem dL_law_366 : decode cL_law 366 = .ok (.iconst 1, 1) := by decide +kernel
theorem dL_law_367 : decode cL_law 367 = .ok (.iadd, 1) := by decide +kernel
theorem dL_law_368 : decode cL_law 368 = .ok (.iaload, 1) := by decide +kernel
theorem dL_law_369 : decode cL_law 369 = .ok (.aload_n 0, 1) := by decide +kernel
theorem dL_law_370 : decode cL_law 370 = .ok (.iload_n 3, 1) := by decide +kernel
theorem dL_law_371 : decode cL_law 371 = .ok (.iconst 2, 1) := by decide +kernel
theorem dL_law_372 : decode cL_law 372 = .ok (.iadd, 1) := by decide +kernel
theorem dL_law_373 : decode cL_law 373 = .ok (.iaload, 1) := by decide +kernel
theorem dL_law_374 : decode cL_law 374 = .ok (.aload_n 0, 1) := by decide +kernel
theorem dL_law_375 : decode cL_law 375 = .ok (.iload_n 3, 1) := by decide +kernel
theorem dL_law_376 : decode cL_law 376 = .ok (.iconst 3, 1) := by decide +kernel
theorem dL_law_377 : decode cL_law 377 = .ok (.iadd, 1) := by decide +kernel
theorem dL_law_378 : decode cL_law 378 = .ok (.iaload, 1) := by decide +kernel
theorem dL_law_379 : decode cL_law 379 = .ok (.invokevirtual 31, 3) := by decide +kernel
theorem dL_law_382 : decode cL_law 382 = .ok (.pop, 1) := by decide +kernel
theorem dL_law_383 : decode cL_law 383 = .ok (.goto 1237, 3) := by decide +kernel
set_option maxHeartbeats 4000000 in
set_option maxRecDepth 100000 in
theorem law_c3 {p : Program} {l : Launch} {e : Env} {R : Room} {s : State} {m : MethodId} {args : Array Value} {below : List Frame} {meth : Method} {c : Code} {Q : State → Prop} {D : va_G} {tys : List (ClassId × FieldType)} {base b L : Nat} {xs : Nat → Int32} (X : iv_X p m c cL_law 4 s args iv_W0 RL D classes tys base) (hty : iv_ty tys) (hRf : 1300 ≤ R.frames) (hRl : 26000 ≤ R.locals) (hX : va_X b L xs s s.heap) (hbl : b < s.heap.size) (hbb : b < base) {h1 h2 : Nat} {t i : Int32} (ii : iv_R 0 3577 i) (hiL : i.toInt + 7 ≤ (L : Int)) {cells slots : Nat} (hRc : cells + 7 ≤ R.cells) (hRs : slots + 896 ≤ R.slots) {G : iv_G} {H : Heap} {locs : List Loc} (hB : iv_B iv_sh D classes tys base G s.heap H locs) (hJ : lw_J t t h1 h2 G) {ls : Array Slot} (hl : lv_has ls 4 [(3, .int i), (0, .ref b), (1, .ref h1), (2, .ref h2)])
    (kk : ∀ (t' : Int32) (G1 : iv_G) (H1 : Heap) (locs1 : List Loc), iv_B iv_sh D classes tys base G1 s.heap H1 locs1 → lw_J t' t' h1 h2 G1 → W p l e R s m args below meth c H1 locs1 (cells + 7) (slots + 896) Q (F0 m 1620 ls [])) : W p l e R s m args below meth c H locs cells slots Q (F0 m 343 ls []) := by
  have hx := X.1.1
  have hb := X.1.2.1
  have hbA : ¬ iv_A base b := fun q => absurd (show base ≤ b from q) (by omega)
  obtain ⟨cf, cn, cp, cW, ca, cb, hJ, hW1, hW2, hF1, hF2⟩ := hJ
  refine lv_aload_n hx hb dL_law_343 rfl (lv_at hl 2 rfl) ?_
  refine lv_aload_n hx hb dL_law_344 rfl (lv_at hl 1 rfl) ?_
  refine lv_iload_n hx hb dL_law_345 rfl (lv_at hl 0 rfl) ?_
  refine lv_iconst (v := 1) hx hb dL_law_346 (by decide) ?_
  refine iv_iadd hx hb ii q_1 (lo := 1) (hi := 3578) (by decide) dL_law_347 (fun y1 e_y1 i_y1 => ?_)
  refine va_sld hx hb hX hbl hbA hB.2.1 (iv_inU i_y1 (by decide) (by have w1 : y1.toInt = i.toInt + (1 : Int32).toInt := e_y1; have w2 : (1 : Int32).toInt = 1 := rfl; omega)) dL_law_348 ?_
  refine lv_topi (fun x2 e_x2 => ?_)
  have i_x2 := iv_R.all x2
  refine lv_aload_n hx hb dL_law_349 rfl (lv_at hl 1 rfl) ?_
  refine lv_iload_n hx hb dL_law_350 rfl (lv_at hl 0 rfl) ?_
  refine lv_iconst (v := 2) hx hb dL_law_351 (by decide) ?_
  refine iv_iadd hx hb ii q_2 (lo := 2) (hi := 3579) (by decide) dL_law_352 (fun y3 e_y3 i_y3 => ?_)
  refine va_sld hx hb hX hbl hbA hB.2.1 (iv_inU i_y3 (by decide) (by have w1 : y3.toInt = i.toInt + (2 : Int32).toInt := e_y3; have w2 : (2 : Int32).toInt = 2 := rfl; omega)) dL_law_353 ?_
  refine lv_topi (fun x4 e_x4 => ?_)
  have i_x4 := iv_R.all x4
  refine lv_aload_n hx hb dL_law_354 rfl (lv_at hl 1 rfl) ?_
  refine lv_iload_n hx hb dL_law_355 rfl (lv_at hl 0 rfl) ?_
  refine lv_iconst (v := 3) hx hb dL_law_356 (by decide) ?_
  refine iv_iadd hx hb ii q_3 (lo := 3) (hi := 3580) (by decide) dL_law_357 (fun y5 e_y5 i_y5 => ?_)
  refine va_sld hx hb hX hbl hbA hB.2.1 (iv_inU i_y5 (by decide) (by have w1 : y5.toInt = i.toInt + (3 : Int32).toInt := e_y5; have w2 : (3 : Int32).toInt = 3 := rfl; omega)) dL_law_358 ?_
  refine lv_topi (fun x6 e_x6 => ?_)
  have i_x6 := iv_R.all x6
  obtain ⟨g1, r1, g2, r2, a1, a2, q1, q2, hne, qf1, qf2, hnr, kn1, kp1, kn2, kp2⟩ := id hJ
  refine iv_cVi X k_good k_mf_X11_set k_im_X11_set k_sel_X11_set k_ml_L_28 ft_X11 hB a1 sh_11 (As := [.int x2, .int x4, .int x6]) (c_X11_set l D tys base G h1 g1 r1 a1 x2 i_x2 x4 i_x4 x6 i_x6) ⟨rfl, rfl⟩ ⟨Nat.le_trans (m := 1300) (Nat.le_of_ble_eq_true rfl) hRf, Nat.le_trans (m := 26000) (Nat.le_of_ble_eq_true rfl) hRl⟩ ⟨by omega, by omega⟩ rfl rfl hl.1 (Nat.le_of_ble_eq_true rfl) dL_law_359 (fun v7 G7 H locs hq hB => ?_)
  have hJ := hJ.md hq.1
  have hW1 := hW1.K (iv_MdT.of hq.1) (by decide) (by decide)
  have hW2 := hW2.K (iv_MdT.of hq.1) (by decide) (by decide)
  have hF1 := hF1.K (iv_MdT.of hq.1) (by decide)
  have hF2 := hF2.K (iv_MdT.of hq.1) (by decide) (by decide)
  refine lv_pop hx hb dL_law_362 rfl ?_
  refine lv_aload_n hx hb dL_law_363 rfl (lv_at hl 3 rfl) ?_
  refine lv_aload_n hx hb dL_law_364 rfl (lv_at hl 1 rfl) ?_
  refine lv_iload_n hx hb dL_law_365 rfl (lv_at hl 0 rfl) ?_
  refine lv_iconst (v := 1) hx hb dL_law_366 (by decide) ?_
  refine iv_iadd hx hb ii q_1 (lo := 1) (hi := 3578) (by decide) dL_law_367 (fun y8 e_y8 i_y8 => ?_)
  refine va_sld hx hb hX hbl hbA hB.2.1 (iv_inU i_y8 (by decide) (by have w1 : y8.toInt = i.toInt + (1 : Int32).toInt := e_y8; have w2 : (1 : Int32).toInt = 1 := rfl; omega)) dL_law_368 ?_
  refine lv_topi (fun x9 e_x9 => ?_)
  have i_x9 := iv_R.all x9
  refine lv_aload_n hx hb dL_law_369 rfl (lv_at hl 1 rfl) ?_
  refine lv_iload_n hx hb dL_law_370 rfl (lv_at hl 0 rfl) ?_
  refine lv_iconst (v := 2) hx hb dL_law_371 (by decide) ?_
  refine iv_iadd hx hb ii q_2 (lo := 2) (hi := 3579) (by decide) dL_law_372 (fun y10 e_y10 i_y10 => ?_)
  refine va_sld hx hb hX hbl hbA hB.2.1 (iv_inU i_y10 (by decide) (by have w1 : y10.toInt = i.toInt + (2 : Int32).toInt := e_y10; have w2 : (2 : Int32).toInt = 2 := rfl; omega)) dL_law_373 ?_
  refine lv_topi (fun x11 e_x11 => ?_)
  have i_x11 := iv_R.all x11
  refine lv_aload_n hx hb dL_law_374 rfl (lv_at hl 1 rfl) ?_
  refine lv_iload_n hx hb dL_law_375 rfl (lv_at hl 0 rfl) ?_
  refine lv_iconst (v := 3) hx hb dL_law_376 (by decide) ?_
  refine iv_iadd hx hb ii q_3 (lo := 3) (hi := 3580) (by decide) dL_law_377 (fun y12 e_y12 i_y12 => ?_)
  refine va_sld hx hb hX hbl hbA hB.2.1 (iv_inU i_y12 (by decide) (by have w1 : y12.toInt = i.toInt + (3 : Int32).toInt := e_y12; have w2 : (3 : Int32).toInt = 3 := rfl; omega)) dL_law_378 ?_
  refine lv_topi (fun x13 e_x13 => ?_)
  have i_x13 := iv_R.all x13
  obtain ⟨g1, r1, g2, r2, a1, a2, q1, q2, hne, qf1, qf2, hnr, kn1, kp1, kn2, kp2⟩ := id hJ
  refine iv_cVi X k_good k_mf_X12_set k_im_X12_set k_sel_X12_set k_ml_L_31 ft_X12 hB a2 sh_12 (As := [.int x9, .int x11, .int x13]) (c_X12_set l D tys base G7 h2 g2 r2 a2 x9 i_x9 x11 i_x11 x13 i_x13) ⟨rfl, rfl⟩ ⟨Nat.le_trans (m := 1300) (Nat.le_of_ble_eq_true rfl) hRf, Nat.le_trans (m := 26000) (Nat.le_of_ble_eq_true rfl) hRl⟩ ⟨by omega, by omega⟩ rfl rfl hl.1 (Nat.le_of_ble_eq_true rfl) dL_law_379 (fun v14 G14 H locs hq hB => ?_)
  have hJ := hJ.md hq.1
  have hW1 := hW1.K (iv_MdT.of hq.1) (by decide) (by decide)
  have hW2 := hW2.K (iv_MdT.of hq.1) (by decide) (by decide)
  have hF1 := hF1.K (iv_MdT.of hq.1) (by decide)
  have hF2 := hF2.K (iv_MdT.of hq.1) (by decide) (by decide)
  refine lv_pop hx hb dL_law_382 rfl ?_
  refine lv_goto (tgt := 1620) hx hb dL_law_383 (by decide) ?_
  refine W.widen (k := cells + 7) (n := slots + 896) (by omega) (by omega) ?_
  exact kk _ _ _ _ hB ⟨_, _, _, _, _, _, hJ, hW1, hW2, hF1, hF2⟩
theorem dL_law_386 : decode cL_law 386 = .ok (.aload_n 1, 1) := by decide +kernel
theorem dL_law_387 : decode cL_law 387 = .ok (.aload_n 0, 1) := by decide +kernel
theorem dL_law_388 : decode cL_law 388 = .ok (.iload_n 3, 1) := by decide +kernel
theorem dL_law_389 : decode cL_law 389 = .ok (.iconst 1, 1) := by decide +kernel
theorem dL_law_390 : decode cL_law 390 = .ok (.iadd, 1) := by decide +kernel
theorem dL_law_391 : decode cL_law 391 = .ok (.iaload, 1) := by decide +kernel
theorem dL_law_392 : decode cL_law 392 = .ok (.invokevirtual 32, 3) := by decide +kernel
theorem dL_law_395 : decode cL_law 395 = .ok (.pop, 1) := by decide +kernel
theorem dL_law_396 : decode cL_law 396 = .ok (.aload_n 2, 1) := by decide +kernel
theorem dL_law_397 : decode cL_law 397 = .ok (.aload_n 0, 1) := by decide +kernel
theorem dL_law_398 : decode cL_law 398 = .ok (.iload_n 3, 1) := by decide +kernel
theorem dL_law_399 : decode cL_law 399 = .ok (.iconst 1, 1) := by decide +kernel
theorem dL_law_400 : decode cL_law 400 = .ok (.iadd, 1) := by decide +kernel
theorem dL_law_401 : decode cL_law 401 = .ok (.iaload, 1) := by decide +kernel
theorem dL_law_402 : decode cL_law 402 = .ok (.invokevirtual 36, 3) := by decide +kernel
theorem dL_law_405 : decode cL_law 405 = .ok (.pop, 1) := by decide +kernel
theorem dL_law_406 : decode cL_law 406 = .ok (.goto 1214, 3) := by decide +kernel
set_option maxHeartbeats 4000000 in
set_option maxRecDepth 100000 in
theorem law_c4 {p : Program} {l : Launch} {e : Env} {R : Room} {s : State} {m : MethodId} {args : Array Value} {below : List Frame} {meth : Method} {c : Code} {Q : State → Prop} {D : va_G} {tys : List (ClassId × FieldType)} {base b L : Nat} {xs : Nat → Int32} (X : iv_X p m c cL_law 4 s args iv_W0 RL D classes tys base) (hty : iv_ty tys) (hRf : 1300 ≤ R.frames) (hRl : 26000 ≤ R.locals) (hX : va_X b L xs s s.heap) (hbl : b < s.heap.size) (hbb : b < base) {h1 h2 : Nat} {t i : Int32} (ii : iv_R 0 3577 i) (hiL : i.toInt + 7 ≤ (L : Int)) {cells slots : Nat} (hRc : cells + 7 ≤ R.cells) (hRs : slots + 896 ≤ R.slots) {G : iv_G} {H : Heap} {locs : List Loc} (hB : iv_B iv_sh D classes tys base G s.heap H locs) (hJ : lw_J t t h1 h2 G) {ls : Array Slot} (hl : lv_has ls 4 [(3, .int i), (0, .ref b), (1, .ref h1), (2, .ref h2)])
    (kk : ∀ (t' : Int32) (G1 : iv_G) (H1 : Heap) (locs1 : List Loc), iv_B iv_sh D classes tys base G1 s.heap H1 locs1 → lw_J t' t' h1 h2 G1 → W p l e R s m args below meth c H1 locs1 (cells + 7) (slots + 896) Q (F0 m 1620 ls [])) : W p l e R s m args below meth c H locs cells slots Q (F0 m 386 ls []) := by
  have hx := X.1.1
  have hb := X.1.2.1
  have hbA : ¬ iv_A base b := fun q => absurd (show base ≤ b from q) (by omega)
  obtain ⟨cf, cn, cp, cW, ca, cb, hJ, hW1, hW2, hF1, hF2⟩ := hJ
  refine lv_aload_n hx hb dL_law_386 rfl (lv_at hl 2 rfl) ?_
  refine lv_aload_n hx hb dL_law_387 rfl (lv_at hl 1 rfl) ?_
  refine lv_iload_n hx hb dL_law_388 rfl (lv_at hl 0 rfl) ?_
  refine lv_iconst (v := 1) hx hb dL_law_389 (by decide) ?_
  refine iv_iadd hx hb ii q_1 (lo := 1) (hi := 3578) (by decide) dL_law_390 (fun y1 e_y1 i_y1 => ?_)
  refine va_sld hx hb hX hbl hbA hB.2.1 (iv_inU i_y1 (by decide) (by have w1 : y1.toInt = i.toInt + (1 : Int32).toInt := e_y1; have w2 : (1 : Int32).toInt = 1 := rfl; omega)) dL_law_391 ?_
  refine lv_topi (fun x2 e_x2 => ?_)
  have i_x2 := iv_R.all x2
  obtain ⟨g1, r1, g2, r2, a1, a2, q1, q2, hne, qf1, qf2, hnr, kn1, kp1, kn2, kp2⟩ := id hJ
  refine iv_cVi X k_good k_mf_X11_melt k_im_X11_melt k_sel_X11_melt k_ml_L_32 ft_X11 hB a1 sh_11 (As := [.int x2]) (c_X11_melt l D tys base G h1 g1 r1 a1 x2 i_x2) ⟨rfl, rfl⟩ ⟨Nat.le_trans (m := 1300) (Nat.le_of_ble_eq_true rfl) hRf, Nat.le_trans (m := 26000) (Nat.le_of_ble_eq_true rfl) hRl⟩ ⟨by omega, by omega⟩ rfl rfl hl.1 (Nat.le_of_ble_eq_true rfl) dL_law_392 (fun v3 G3 H locs hq hB => ?_)
  have hJ := hJ.md hq.1
  have hW1 := hW1.K (iv_MdT.of hq.1) (by decide) (by decide)
  have hW2 := hW2.K (iv_MdT.of hq.1) (by decide) (by decide)
  have hF1 := hF1.K (iv_MdT.of hq.1) (by decide)
  have hF2 := hF2.K (iv_MdT.of hq.1) (by decide) (by decide)
  refine lv_pop hx hb dL_law_395 rfl ?_
  refine lv_aload_n hx hb dL_law_396 rfl (lv_at hl 3 rfl) ?_
  refine lv_aload_n hx hb dL_law_397 rfl (lv_at hl 1 rfl) ?_
  refine lv_iload_n hx hb dL_law_398 rfl (lv_at hl 0 rfl) ?_
  refine lv_iconst (v := 1) hx hb dL_law_399 (by decide) ?_
  refine iv_iadd hx hb ii q_1 (lo := 1) (hi := 3578) (by decide) dL_law_400 (fun y4 e_y4 i_y4 => ?_)
  refine va_sld hx hb hX hbl hbA hB.2.1 (iv_inU i_y4 (by decide) (by have w1 : y4.toInt = i.toInt + (1 : Int32).toInt := e_y4; have w2 : (1 : Int32).toInt = 1 := rfl; omega)) dL_law_401 ?_
  refine lv_topi (fun x5 e_x5 => ?_)
  have i_x5 := iv_R.all x5
  obtain ⟨g1, r1, g2, r2, a1, a2, q1, q2, hne, qf1, qf2, hnr, kn1, kp1, kn2, kp2⟩ := id hJ
  refine iv_cVi X k_good k_mf_X12_melt k_im_X12_melt k_sel_X12_melt k_ml_L_36 ft_X12 hB a2 sh_12 (As := [.int x5]) (c_X12_melt l D tys base G3 h2 g2 r2 a2 x5 i_x5) ⟨rfl, rfl⟩ ⟨Nat.le_trans (m := 1300) (Nat.le_of_ble_eq_true rfl) hRf, Nat.le_trans (m := 26000) (Nat.le_of_ble_eq_true rfl) hRl⟩ ⟨by omega, by omega⟩ rfl rfl hl.1 (Nat.le_of_ble_eq_true rfl) dL_law_402 (fun v6 G6 H locs hq hB => ?_)
  have hJ := hJ.md hq.1
  have hW1 := hW1.K (iv_MdT.of hq.1) (by decide) (by decide)
  have hW2 := hW2.K (iv_MdT.of hq.1) (by decide) (by decide)
  have hF1 := hF1.K (iv_MdT.of hq.1) (by decide)
  have hF2 := hF2.K (iv_MdT.of hq.1) (by decide) (by decide)
  refine lv_pop hx hb dL_law_405 rfl ?_
  refine lv_goto (tgt := 1620) hx hb dL_law_406 (by decide) ?_
  refine W.widen (k := cells + 7) (n := slots + 896) (by omega) (by omega) ?_
  exact kk _ _ _ _ hB ⟨_, _, _, _, _, _, hJ, hW1, hW2, hF1, hF2⟩
theorem dL_law_409 : decode cL_law 409 = .ok (.aload_n 1, 1) := by decide +kernel
theorem dL_law_410 : decode cL_law 410 = .ok (.aload_n 0, 1) := by decide +kernel
theorem dL_law_411 : decode cL_law 411 = .ok (.iload_n 3, 1) := by decide +kernel
theorem dL_law_412 : decode cL_law 412 = .ok (.iconst 1, 1) := by decide +kernel
theorem dL_law_413 : decode cL_law 413 = .ok (.iadd, 1) := by decide +kernel
theorem dL_law_414 : decode cL_law 414 = .ok (.iaload, 1) := by decide +kernel
theorem dL_law_415 : decode cL_law 415 = .ok (.aload_n 0, 1) := by decide +kernel
theorem dL_law_416 : decode cL_law 416 = .ok (.iload_n 3, 1) := by decide +kernel
theorem dL_law_417 : decode cL_law 417 = .ok (.iconst 2, 1) := by decide +kernel
theorem dL_law_418 : decode cL_law 418 = .ok (.iadd, 1) := by decide +kernel
theorem dL_law_419 : decode cL_law 419 = .ok (.iaload, 1) := by decide +kernel
theorem dL_law_420 : decode cL_law 420 = .ok (.ifCond .eq 7, 3) := by decide +kernel
theorem dL_law_423 : decode cL_law 423 = .ok (.iconst 1, 1) := by decide +kernel
theorem dL_law_424 : decode cL_law 424 = .ok (.goto 4, 3) := by decide +kernel
theorem dL_law_427 : decode cL_law 427 = .ok (.iconst 0, 1) := by decide +kernel
theorem dL_law_428 : decode cL_law 428 = .ok (.invokevirtual 37, 3) := by decide +kernel
theorem dL_law_431 : decode cL_law 431 = .ok (.pop, 1) := by decide +kernel
theorem dL_law_432 : decode cL_law 432 = .ok (.aload_n 2, 1) := by decide +kernel
theorem dL_law_433 : decode cL_law 433 = .ok (.aload_n 0, 1) := by decide +kernel
theorem dL_law_434 : decode cL_law 434 = .ok (.iload_n 3, 1) := by decide +kernel
theorem dL_law_435 : decode cL_law 435 = .ok (.iconst 1, 1) := by decide +kernel
theorem dL_law_436 : decode cL_law 436 = .ok (.iadd, 1) := by decide +kernel
theorem dL_law_437 : decode cL_law 437 = .ok (.iaload, 1) := by decide +kernel
theorem dL_law_438 : decode cL_law 438 = .ok (.aload_n 0, 1) := by decide +kernel
theorem dL_law_439 : decode cL_law 439 = .ok (.iload_n 3, 1) := by decide +kernel
theorem dL_law_440 : decode cL_law 440 = .ok (.iconst 2, 1) := by decide +kernel
theorem dL_law_441 : decode cL_law 441 = .ok (.iadd, 1) := by decide +kernel
theorem dL_law_442 : decode cL_law 442 = .ok (.iaload, 1) := by decide +kernel
theorem dL_law_443 : decode cL_law 443 = .ok (.ifCond .eq 7, 3) := by decide +kernel
theorem dL_law_446 : decode cL_law 446 = .ok (.iconst 1, 1) := by decide +kernel
theorem dL_law_447 : decode cL_law 447 = .ok (.goto 4, 3) := by decide +kernel
theorem dL_law_450 : decode cL_law 450 = .ok (.iconst 0, 1) := by decide +kernel
theorem dL_law_451 : decode cL_law 451 = .ok (.invokevirtual 41, 3) := by decide +kernel
theorem dL_law_454 : decode cL_law 454 = .ok (.pop, 1) := by decide +kernel
theorem dL_law_455 : decode cL_law 455 = .ok (.goto 1165, 3) := by decide +kernel
set_option maxHeartbeats 4000000 in
set_option maxRecDepth 100000 in
theorem law_c5 {p : Program} {l : Launch} {e : Env} {R : Room} {s : State} {m : MethodId} {args : Array Value} {below : List Frame} {meth : Method} {c : Code} {Q : State → Prop} {D : va_G} {tys : List (ClassId × FieldType)} {base b L : Nat} {xs : Nat → Int32} (X : iv_X p m c cL_law 4 s args iv_W0 RL D classes tys base) (hty : iv_ty tys) (hRf : 1300 ≤ R.frames) (hRl : 26000 ≤ R.locals) (hX : va_X b L xs s s.heap) (hbl : b < s.heap.size) (hbb : b < base) {h1 h2 : Nat} {t i : Int32} (ii : iv_R 0 3577 i) (hiL : i.toInt + 7 ≤ (L : Int)) {cells slots : Nat} (hRc : cells + 7 ≤ R.cells) (hRs : slots + 896 ≤ R.slots) {G : iv_G} {H : Heap} {locs : List Loc} (hB : iv_B iv_sh D classes tys base G s.heap H locs) (hJ : lw_J t t h1 h2 G) {ls : Array Slot} (hl : lv_has ls 4 [(3, .int i), (0, .ref b), (1, .ref h1), (2, .ref h2)])
    (kk : ∀ (t' : Int32) (G1 : iv_G) (H1 : Heap) (locs1 : List Loc), iv_B iv_sh D classes tys base G1 s.heap H1 locs1 → lw_J t' t' h1 h2 G1 → W p l e R s m args below meth c H1 locs1 (cells + 7) (slots + 896) Q (F0 m 1620 ls [])) : W p l e R s m args below meth c H locs cells slots Q (F0 m 409 ls []) := by
  have hx := X.1.1
  have hb := X.1.2.1
  have hbA : ¬ iv_A base b := fun q => absurd (show base ≤ b from q) (by omega)
  obtain ⟨cf, cn, cp, cW, ca, cb, hJ, hW1, hW2, hF1, hF2⟩ := hJ
  refine lv_aload_n hx hb dL_law_409 rfl (lv_at hl 2 rfl) ?_
  refine lv_aload_n hx hb dL_law_410 rfl (lv_at hl 1 rfl) ?_
  refine lv_iload_n hx hb dL_law_411 rfl (lv_at hl 0 rfl) ?_
  refine lv_iconst (v := 1) hx hb dL_law_412 (by decide) ?_
  refine iv_iadd hx hb ii q_1 (lo := 1) (hi := 3578) (by decide) dL_law_413 (fun y1 e_y1 i_y1 => ?_)
  refine va_sld hx hb hX hbl hbA hB.2.1 (iv_inU i_y1 (by decide) (by have w1 : y1.toInt = i.toInt + (1 : Int32).toInt := e_y1; have w2 : (1 : Int32).toInt = 1 := rfl; omega)) dL_law_414 ?_
  refine lv_topi (fun x2 e_x2 => ?_)
  have i_x2 := iv_R.all x2
  refine lv_aload_n hx hb dL_law_415 rfl (lv_at hl 1 rfl) ?_
  refine lv_iload_n hx hb dL_law_416 rfl (lv_at hl 0 rfl) ?_
  refine lv_iconst (v := 2) hx hb dL_law_417 (by decide) ?_
  refine iv_iadd hx hb ii q_2 (lo := 2) (hi := 3579) (by decide) dL_law_418 (fun y3 e_y3 i_y3 => ?_)
  refine va_sld hx hb hX hbl hbA hB.2.1 (iv_inU i_y3 (by decide) (by have w1 : y3.toInt = i.toInt + (2 : Int32).toInt := e_y3; have w2 : (2 : Int32).toInt = 2 := rfl; omega)) dL_law_419 ?_
  refine lv_topi (fun x4 e_x4 => ?_)
  have i_x4 := iv_R.all x4
  refine lv_if_eq (tgt := 427) hx hb dL_law_420 (by decide) (fun c420 => ?_) (fun c420 => ?_)
  · skip
    refine lv_iconst (v := 0) hx hb dL_law_427 (by decide) ?_
    obtain ⟨g1, r1, g2, r2, a1, a2, q1, q2, hne, qf1, qf2, hnr, kn1, kp1, kn2, kp2⟩ := id hJ
    refine iv_cVi X k_good k_mf_X11_muffle k_im_X11_muffle k_sel_X11_muffle k_ml_L_37 ft_X11 hB a1 sh_11 (As := [.int x2, .int 0]) (c_X11_muffle l D tys base G h1 g1 r1 a1 x2 i_x2 0 (q_0.wk (by decide))) ⟨rfl, rfl⟩ ⟨Nat.le_trans (m := 1300) (Nat.le_of_ble_eq_true rfl) hRf, Nat.le_trans (m := 26000) (Nat.le_of_ble_eq_true rfl) hRl⟩ ⟨by omega, by omega⟩ rfl rfl hl.1 (Nat.le_of_ble_eq_true rfl) dL_law_428 (fun v5 G5 H locs hq hB => ?_)
    have hJ := hJ.md hq.1
    have hW1 := hW1.K (iv_MdT.of hq.1) (by decide) (by decide)
    have hW2 := hW2.K (iv_MdT.of hq.1) (by decide) (by decide)
    have hF1 := hF1.K (iv_MdT.of hq.1) (by decide)
    have hF2 := hF2.K (iv_MdT.of hq.1) (by decide) (by decide)
    refine lv_pop hx hb dL_law_431 rfl ?_
    refine lv_aload_n hx hb dL_law_432 rfl (lv_at hl 3 rfl) ?_
    refine lv_aload_n hx hb dL_law_433 rfl (lv_at hl 1 rfl) ?_
    refine lv_iload_n hx hb dL_law_434 rfl (lv_at hl 0 rfl) ?_
    refine lv_iconst (v := 1) hx hb dL_law_435 (by decide) ?_
    refine iv_iadd hx hb ii q_1 (lo := 1) (hi := 3578) (by decide) dL_law_436 (fun y6 e_y6 i_y6 => ?_)
    refine va_sld hx hb hX hbl hbA hB.2.1 (iv_inU i_y6 (by decide) (by have w1 : y6.toInt = i.toInt + (1 : Int32).toInt := e_y6; have w2 : (1 : Int32).toInt = 1 := rfl; omega)) dL_law_437 ?_
    refine lv_topi (fun x7 e_x7 => ?_)
    have i_x7 := iv_R.all x7
    refine lv_aload_n hx hb dL_law_438 rfl (lv_at hl 1 rfl) ?_
    refine lv_iload_n hx hb dL_law_439 rfl (lv_at hl 0 rfl) ?_
    refine lv_iconst (v := 2) hx hb dL_law_440 (by decide) ?_
    refine iv_iadd hx hb ii q_2 (lo := 2) (hi := 3579) (by decide) dL_law_441 (fun y8 e_y8 i_y8 => ?_)
    refine va_sld hx hb hX hbl hbA hB.2.1 (iv_inU i_y8 (by decide) (by have w1 : y8.toInt = i.toInt + (2 : Int32).toInt := e_y8; have w2 : (2 : Int32).toInt = 2 := rfl; omega)) dL_law_442 ?_
    refine lv_topi (fun x9 e_x9 => ?_)
    have i_x9 := iv_R.all x9
    refine lv_if_eq (tgt := 450) hx hb dL_law_443 (by decide) (fun c443 => ?_) (fun c443 => ?_)
    · skip
      refine lv_iconst (v := 0) hx hb dL_law_450 (by decide) ?_
      obtain ⟨g1, r1, g2, r2, a1, a2, q1, q2, hne, qf1, qf2, hnr, kn1, kp1, kn2, kp2⟩ := id hJ
      refine iv_cVi X k_good k_mf_X12_muffle k_im_X12_muffle k_sel_X12_muffle k_ml_L_41 ft_X12 hB a2 sh_12 (As := [.int x7, .int 0]) (c_X12_muffle l D tys base G5 h2 g2 r2 a2 x7 i_x7 0 (q_0.wk (by decide))) ⟨rfl, rfl⟩ ⟨Nat.le_trans (m := 1300) (Nat.le_of_ble_eq_true rfl) hRf, Nat.le_trans (m := 26000) (Nat.le_of_ble_eq_true rfl) hRl⟩ ⟨by omega, by omega⟩ rfl rfl hl.1 (Nat.le_of_ble_eq_true rfl) dL_law_451 (fun v10 G10 H locs hq hB => ?_)
      have hJ := hJ.md hq.1
      have hW1 := hW1.K (iv_MdT.of hq.1) (by decide) (by decide)
      have hW2 := hW2.K (iv_MdT.of hq.1) (by decide) (by decide)
      have hF1 := hF1.K (iv_MdT.of hq.1) (by decide)
      have hF2 := hF2.K (iv_MdT.of hq.1) (by decide) (by decide)
      refine lv_pop hx hb dL_law_454 rfl ?_
      refine lv_goto (tgt := 1620) hx hb dL_law_455 (by decide) ?_
      refine W.widen (k := cells + 7) (n := slots + 896) (by omega) (by omega) ?_
      exact kk _ _ _ _ hB ⟨_, _, _, _, _, _, hJ, hW1, hW2, hF1, hF2⟩
    · skip
      refine lv_iconst (v := 1) hx hb dL_law_446 (by decide) ?_
      refine lv_goto (tgt := 451) hx hb dL_law_447 (by decide) ?_
      obtain ⟨g1, r1, g2, r2, a1, a2, q1, q2, hne, qf1, qf2, hnr, kn1, kp1, kn2, kp2⟩ := id hJ
      refine iv_cVi X k_good k_mf_X12_muffle k_im_X12_muffle k_sel_X12_muffle k_ml_L_41 ft_X12 hB a2 sh_12 (As := [.int x7, .int 1]) (c_X12_muffle l D tys base G5 h2 g2 r2 a2 x7 i_x7 1 (q_1.wk (by decide))) ⟨rfl, rfl⟩ ⟨Nat.le_trans (m := 1300) (Nat.le_of_ble_eq_true rfl) hRf, Nat.le_trans (m := 26000) (Nat.le_of_ble_eq_true rfl) hRl⟩ ⟨by omega, by omega⟩ rfl rfl hl.1 (Nat.le_of_ble_eq_true rfl) dL_law_451 (fun v11 G11 H locs hq hB => ?_)
      have hJ := hJ.md hq.1
      have hW1 := hW1.K (iv_MdT.of hq.1) (by decide) (by decide)
      have hW2 := hW2.K (iv_MdT.of hq.1) (by decide) (by decide)
      have hF1 := hF1.K (iv_MdT.of hq.1) (by decide)
      have hF2 := hF2.K (iv_MdT.of hq.1) (by decide) (by decide)
      refine lv_pop hx hb dL_law_454 rfl ?_
      refine lv_goto (tgt := 1620) hx hb dL_law_455 (by decide) ?_
      refine W.widen (k := cells + 7) (n := slots + 896) (by omega) (by omega) ?_
      exact kk _ _ _ _ hB ⟨_, _, _, _, _, _, hJ, hW1, hW2, hF1, hF2⟩
  · skip
    refine lv_iconst (v := 1) hx hb dL_law_423 (by decide) ?_
    refine lv_goto (tgt := 428) hx hb dL_law_424 (by decide) ?_
    obtain ⟨g1, r1, g2, r2, a1, a2, q1, q2, hne, qf1, qf2, hnr, kn1, kp1, kn2, kp2⟩ := id hJ
    refine iv_cVi X k_good k_mf_X11_muffle k_im_X11_muffle k_sel_X11_muffle k_ml_L_37 ft_X11 hB a1 sh_11 (As := [.int x2, .int 1]) (c_X11_muffle l D tys base G h1 g1 r1 a1 x2 i_x2 1 (q_1.wk (by decide))) ⟨rfl, rfl⟩ ⟨Nat.le_trans (m := 1300) (Nat.le_of_ble_eq_true rfl) hRf, Nat.le_trans (m := 26000) (Nat.le_of_ble_eq_true rfl) hRl⟩ ⟨by omega, by omega⟩ rfl rfl hl.1 (Nat.le_of_ble_eq_true rfl) dL_law_428 (fun v12 G12 H locs hq hB => ?_)
    have hJ := hJ.md hq.1
    have hW1 := hW1.K (iv_MdT.of hq.1) (by decide) (by decide)
    have hW2 := hW2.K (iv_MdT.of hq.1) (by decide) (by decide)
    have hF1 := hF1.K (iv_MdT.of hq.1) (by decide)
    have hF2 := hF2.K (iv_MdT.of hq.1) (by decide) (by decide)
    refine lv_pop hx hb dL_law_431 rfl ?_
    refine lv_aload_n hx hb dL_law_432 rfl (lv_at hl 3 rfl) ?_
    refine lv_aload_n hx hb dL_law_433 rfl (lv_at hl 1 rfl) ?_
    refine lv_iload_n hx hb dL_law_434 rfl (lv_at hl 0 rfl) ?_
    refine lv_iconst (v := 1) hx hb dL_law_435 (by decide) ?_
    refine iv_iadd hx hb ii q_1 (lo := 1) (hi := 3578) (by decide) dL_law_436 (fun y13 e_y13 i_y13 => ?_)
    refine va_sld hx hb hX hbl hbA hB.2.1 (iv_inU i_y13 (by decide) (by have w1 : y13.toInt = i.toInt + (1 : Int32).toInt := e_y13; have w2 : (1 : Int32).toInt = 1 := rfl; omega)) dL_law_437 ?_
    refine lv_topi (fun x14 e_x14 => ?_)
    have i_x14 := iv_R.all x14
    refine lv_aload_n hx hb dL_law_438 rfl (lv_at hl 1 rfl) ?_
    refine lv_iload_n hx hb dL_law_439 rfl (lv_at hl 0 rfl) ?_
    refine lv_iconst (v := 2) hx hb dL_law_440 (by decide) ?_
    refine iv_iadd hx hb ii q_2 (lo := 2) (hi := 3579) (by decide) dL_law_441 (fun y15 e_y15 i_y15 => ?_)
    refine va_sld hx hb hX hbl hbA hB.2.1 (iv_inU i_y15 (by decide) (by have w1 : y15.toInt = i.toInt + (2 : Int32).toInt := e_y15; have w2 : (2 : Int32).toInt = 2 := rfl; omega)) dL_law_442 ?_
    refine lv_topi (fun x16 e_x16 => ?_)
    have i_x16 := iv_R.all x16
    refine lv_if_eq (tgt := 450) hx hb dL_law_443 (by decide) (fun c443 => ?_) (fun c443 => ?_)
    · skip
      refine lv_iconst (v := 0) hx hb dL_law_450 (by decide) ?_
      obtain ⟨g1, r1, g2, r2, a1, a2, q1, q2, hne, qf1, qf2, hnr, kn1, kp1, kn2, kp2⟩ := id hJ
      refine iv_cVi X k_good k_mf_X12_muffle k_im_X12_muffle k_sel_X12_muffle k_ml_L_41 ft_X12 hB a2 sh_12 (As := [.int x14, .int 0]) (c_X12_muffle l D tys base G12 h2 g2 r2 a2 x14 i_x14 0 (q_0.wk (by decide))) ⟨rfl, rfl⟩ ⟨Nat.le_trans (m := 1300) (Nat.le_of_ble_eq_true rfl) hRf, Nat.le_trans (m := 26000) (Nat.le_of_ble_eq_true rfl) hRl⟩ ⟨by omega, by omega⟩ rfl rfl hl.1 (Nat.le_of_ble_eq_true rfl) dL_law_451 (fun v17 G17 H locs hq hB => ?_)
      have hJ := hJ.md hq.1
      have hW1 := hW1.K (iv_MdT.of hq.1) (by decide) (by decide)
      have hW2 := hW2.K (iv_MdT.of hq.1) (by decide) (by decide)
      have hF1 := hF1.K (iv_MdT.of hq.1) (by decide)
      have hF2 := hF2.K (iv_MdT.of hq.1) (by decide) (by decide)
      refine lv_pop hx hb dL_law_454 rfl ?_
      refine lv_goto (tgt := 1620) hx hb dL_law_455 (by decide) ?_
      refine W.widen (k := cells + 7) (n := slots + 896) (by omega) (by omega) ?_
      exact kk _ _ _ _ hB ⟨_, _, _, _, _, _, hJ, hW1, hW2, hF1, hF2⟩
    · skip
      refine lv_iconst (v := 1) hx hb dL_law_446 (by decide) ?_
      refine lv_goto (tgt := 451) hx hb dL_law_447 (by decide) ?_
      obtain ⟨g1, r1, g2, r2, a1, a2, q1, q2, hne, qf1, qf2, hnr, kn1, kp1, kn2, kp2⟩ := id hJ
      refine iv_cVi X k_good k_mf_X12_muffle k_im_X12_muffle k_sel_X12_muffle k_ml_L_41 ft_X12 hB a2 sh_12 (As := [.int x14, .int 1]) (c_X12_muffle l D tys base G12 h2 g2 r2 a2 x14 i_x14 1 (q_1.wk (by decide))) ⟨rfl, rfl⟩ ⟨Nat.le_trans (m := 1300) (Nat.le_of_ble_eq_true rfl) hRf, Nat.le_trans (m := 26000) (Nat.le_of_ble_eq_true rfl) hRl⟩ ⟨by omega, by omega⟩ rfl rfl hl.1 (Nat.le_of_ble_eq_true rfl) dL_law_451 (fun v18 G18 H locs hq hB => ?_)
      have hJ := hJ.md hq.1
      have hW1 := hW1.K (iv_MdT.of hq.1) (by decide) (by decide)
      have hW2 := hW2.K (iv_MdT.of hq.1) (by decide) (by decide)
      have hF1 := hF1.K (iv_MdT.of hq.1) (by decide)
      have hF2 := hF2.K (iv_MdT.of hq.1) (by decide) (by decide)
      refine lv_pop hx hb dL_law_454 rfl ?_
      refine lv_goto (tgt := 1620) hx hb dL_law_455 (by decide) ?_
      refine W.widen (k := cells + 7) (n := slots + 896) (by omega) (by omega) ?_
      exact kk _ _ _ _ hB ⟨_, _, _, _, _, _, hJ, hW1, hW2, hF1, hF2⟩
theorem dL_law_458 : decode cL_law 458 = .ok (.aload_n 1, 1) := by decide +kernel
theorem dL_law_459 : decode cL_law 459 = .ok (.aload_n 0, 1) := by decide +kernel
theorem dL_law_460 : decode cL_law 460 = .ok (.iload_n 3, 1) := by decide +kernel
theorem dL_law_461 : decode cL_law 461 = .ok (.iconst 1, 1) := by decide +kernel
theorem dL_law_462 : decode cL_law 462 = .ok (.iadd, 1) := by decide +kernel
theorem dL_law_463 : decode cL_law 463 = .ok (.iaload, 1) := by decide +kernel
theorem dL_law_464 : decode cL_law 464 = .ok (.aload_n 0, 1) := by decide +kernel
theorem dL_law_465 : decode cL_law 465 = .ok (.iload_n 3, 1) := by decide +kernel
theorem dL_law_466 : decode cL_law 466 = .ok (.iconst 2, 1) := by decide +kernel
theorem dL_law_467 : decode cL_law 467 = .ok (.iadd, 1) := by decide +kernel
theorem dL_law_468 : decode cL_law 468 = .ok (.iaload, 1) := by decide +kernel
theorem dL_law_469 : decode cL_law 469 = .ok (.invokevirtual 42, 3) := by decide +kernel
theorem dL_law_472 : decode cL_law 472 = .ok (.pop, 1) := by decide +kernel
theorem dL_law_473 : decode cL_law 473 = .ok (.aload_n 2, 1) := by decide +kernel
theorem dL_law_474 : decode cL_law 474 = .ok (.aload_n 0, 1) := by decide +kernel
theorem dL_law_475 : decode cL_law 475 = .ok (.iload_n 3, 1) := by decide +kernel
theorem dL_law_476 : decode cL_law 476 = .ok (.iconst 1, 1) := by decide +kernel
theorem dL_law_477 : decode cL_law 477 = .ok (.iadd, 1) := by decide +kernel
theorem dL_law_478 : decode cL_law 478 = .ok (.iaload, 1) := by decide +kernel
theorem dL_law_479 : decode cL_law 479 = .ok (.aload_n 0, 1) := by decide +kernel
theorem dL_law_480 : decode cL_law 480 = .ok (.iload_n 3, 1) := by decide +kernel
theorem dL_law_481 : decode cL_law 481 = .ok (.iconst 2, 1) := by decide +kernel
theorem dL_law_482 : decode cL_law 482 = .ok (.iadd, 1) := by decide +kernel
theorem dL_law_483 : decode cL_law 483 = .ok (.iaload, 1) := by decide +kernel
theorem dL_law_484 : decode cL_law 484 = .ok (.invokevirtual 46, 3) := by decide +kernel
theorem dL_law_487 : decode cL_law 487 = .ok (.pop, 1) := by decide +kernel
theorem dL_law_488 : decode cL_law 488 = .ok (.goto 1132, 3) := by decide +kernel
set_option maxHeartbeats 4000000 in
set_option maxRecDepth 100000 in
theorem law_c6 {p : Program} {l : Launch} {e : Env} {R : Room} {s : State} {m : MethodId} {args : Array Value} {below : List Frame} {meth : Method} {c : Code} {Q : State → Prop} {D : va_G} {tys : List (ClassId × FieldType)} {base b L : Nat} {xs : Nat → Int32} (X : iv_X p m c cL_law 4 s args iv_W0 RL D classes tys base) (hty : iv_ty tys) (hRf : 1300 ≤ R.frames) (hRl : 26000 ≤ R.locals) (hX : va_X b L xs s s.heap) (hbl : b < s.heap.size) (hbb : b < base) {h1 h2 : Nat} {t i : Int32} (ii : iv_R 0 3577 i) (hiL : i.toInt + 7 ≤ (L : Int)) {cells slots : Nat} (hRc : cells + 7 ≤ R.cells) (hRs : slots + 896 ≤ R.slots) {G : iv_G} {H : Heap} {locs : List Loc} (hB : iv_B iv_sh D classes tys base G s.heap H locs) (hJ : lw_J t t h1 h2 G) {ls : Array Slot} (hl : lv_has ls 4 [(3, .int i), (0, .ref b), (1, .ref h1), (2, .ref h2)])
    (kk : ∀ (t' : Int32) (G1 : iv_G) (H1 : Heap) (locs1 : List Loc), iv_B iv_sh D classes tys base G1 s.heap H1 locs1 → lw_J t' t' h1 h2 G1 → W p l e R s m args below meth c H1 locs1 (cells + 7) (slots + 896) Q (F0 m 1620 ls [])) : W p l e R s m args below meth c H locs cells slots Q (F0 m 458 ls []) := by
  have hx := X.1.1
  have hb := X.1.2.1
  have hbA : ¬ iv_A base b := fun q => absurd (show base ≤ b from q) (by omega)
  obtain ⟨cf, cn, cp, cW, ca, cb, hJ, hW1, hW2, hF1, hF2⟩ := hJ
  refine lv_aload_n hx hb dL_law_458 rfl (lv_at hl 2 rfl) ?_
  refine lv_aload_n hx hb dL_law_459 rfl (lv_at hl 1 rfl) ?_
  refine lv_iload_n hx hb dL_law_460 rfl (lv_at hl 0 rfl) ?_
  refine lv_iconst (v := 1) hx hb dL_law_461 (by decide) ?_
  refine iv_iadd hx hb ii q_1 (lo := 1) (hi := 3578) (by decide) dL_law_462 (fun y1 e_y1 i_y1 => ?_)
  refine va_sld hx hb hX hbl hbA hB.2.1 (iv_inU i_y1 (by decide) (by have w1 : y1.toInt = i.toInt + (1 : Int32).toInt := e_y1; have w2 : (1 : Int32).toInt = 1 := rfl; omega)) dL_law_463 ?_
  refine lv_topi (fun x2 e_x2 => ?_)
  have i_x2 := iv_R.all x2
  refine lv_aload_n hx hb dL_law_464 rfl (lv_at hl 1 rfl) ?_
  refine lv_iload_n hx hb dL_law_465 rfl (lv_at hl 0 rfl) ?_
  refine lv_iconst (v := 2) hx hb dL_law_466 (by decide) ?_
  refine iv_iadd hx hb ii q_2 (lo := 2) (hi := 3579) (by decide) dL_law_467 (fun y3 e_y3 i_y3 => ?_)
  refine va_sld hx hb hX hbl hbA hB.2.1 (iv_inU i_y3 (by decide) (by have w1 : y3.toInt = i.toInt + (2 : Int32).toInt := e_y3; have w2 : (2 : Int32).toInt = 2 := rfl; omega)) dL_law_468 ?_
  refine lv_topi (fun x4 e_x4 => ?_)
  have i_x4 := iv_R.all x4
  obtain ⟨g1, r1, g2, r2, a1, a2, q1, q2, hne, qf1, qf2, hnr, kn1, kp1, kn2, kp2⟩ := id hJ
  refine iv_cVi X k_good k_mf_X11_swap k_im_X11_swap k_sel_X11_swap k_ml_L_42 ft_X11 hB a1 sh_11 (As := [.int x2, .int x4]) (c_X11_swap l D tys base G h1 g1 r1 a1 x2 i_x2 x4 i_x4) ⟨rfl, rfl⟩ ⟨Nat.le_trans (m := 1300) (Nat.le_of_ble_eq_true rfl) hRf, Nat.le_trans (m := 26000) (Nat.le_of_ble_eq_true rfl) hRl⟩ ⟨by omega, by omega⟩ rfl rfl hl.1 (Nat.le_of_ble_eq_true rfl) dL_law_469 (fun v5 G5 H locs hq hB => ?_)
  have hJ := hJ.md hq.1
  have hW1 := hW1.K (iv_MdT.of hq.1) (by decide) (by decide)
  have hW2 := hW2.K (iv_MdT.of hq.1) (by decide) (by decide)
  have hF1 := hF1.K (iv_MdT.of hq.1) (by decide)
  have hF2 := hF2.K (iv_MdT.of hq.1) (by decide) (by decide)
  refine lv_pop hx hb dL_law_472 rfl ?_
  refine lv_aload_n hx hb dL_law_473 rfl (lv_at hl 3 rfl) ?_
  refine lv_aload_n hx hb dL_law_474 rfl (lv_at hl 1 rfl) ?_
  refine lv_iload_n hx hb dL_law_475 rfl (lv_at hl 0 rfl) ?_
  refine lv_iconst (v := 1) hx hb dL_law_476 (by decide) ?_
  refine iv_iadd hx hb ii q_1 (lo := 1) (hi := 3578) (by decide) dL_law_477 (fun y6 e_y6 i_y6 => ?_)
  refine va_sld hx hb hX hbl hbA hB.2.1 (iv_inU i_y6 (by decide) (by have w1 : y6.toInt = i.toInt + (1 : Int32).toInt := e_y6; have w2 : (1 : Int32).toInt = 1 := rfl; omega)) dL_law_478 ?_
  refine lv_topi (fun x7 e_x7 => ?_)
  have i_x7 := iv_R.all x7
  refine lv_aload_n hx hb dL_law_479 rfl (lv_at hl 1 rfl) ?_
  refine lv_iload_n hx hb dL_law_480 rfl (lv_at hl 0 rfl) ?_
  refine lv_iconst (v := 2) hx hb dL_law_481 (by decide) ?_
  refine iv_iadd hx hb ii q_2 (lo := 2) (hi := 3579) (by decide) dL_law_482 (fun y8 e_y8 i_y8 => ?_)
  refine va_sld hx hb hX hbl hbA hB.2.1 (iv_inU i_y8 (by decide) (by have w1 : y8.toInt = i.toInt + (2 : Int32).toInt := e_y8; have w2 : (2 : Int32).toInt = 2 := rfl; omega)) dL_law_483 ?_
  refine lv_topi (fun x9 e_x9 => ?_)
  have i_x9 := iv_R.all x9
  obtain ⟨g1, r1, g2, r2, a1, a2, q1, q2, hne, qf1, qf2, hnr, kn1, kp1, kn2, kp2⟩ := id hJ
  refine iv_cVi X k_good k_mf_X12_swap k_im_X12_swap k_sel_X12_swap k_ml_L_46 ft_X12 hB a2 sh_12 (As := [.int x7, .int x9]) (c_X12_swap l D tys base G5 h2 g2 r2 a2 x7 i_x7 x9 i_x9) ⟨rfl, rfl⟩ ⟨Nat.le_trans (m := 1300) (Nat.le_of_ble_eq_true rfl) hRf, Nat.le_trans (m := 26000) (Nat.le_of_ble_eq_true rfl) hRl⟩ ⟨by omega, by omega⟩ rfl rfl hl.1 (Nat.le_of_ble_eq_true rfl) dL_law_484 (fun v10 G10 H locs hq hB => ?_)
  have hJ := hJ.md hq.1
  have hW1 := hW1.K (iv_MdT.of hq.1) (by decide) (by decide)
  have hW2 := hW2.K (iv_MdT.of hq.1) (by decide) (by decide)
  have hF1 := hF1.K (iv_MdT.of hq.1) (by decide)
  have hF2 := hF2.K (iv_MdT.of hq.1) (by decide) (by decide)
  refine lv_pop hx hb dL_law_487 rfl ?_
  refine lv_goto (tgt := 1620) hx hb dL_law_488 (by decide) ?_
  refine W.widen (k := cells + 7) (n := slots + 896) (by omega) (by omega) ?_
  exact kk _ _ _ _ hB ⟨_, _, _, _, _, _, hJ, hW1, hW2, hF1, hF2⟩
theorem dL_law_491 : decode cL_law 491 = .ok (.aload_n 1, 1) := by decide +kernel
theorem dL_law_492 : decode cL_law 492 = .ok (.aload_n 0, 1) := by decide +kernel
theorem dL_law_493 : decode cL_law 493 = .ok (.iload_n 3, 1) := by decide +kernel
theorem dL_law_494 : decode cL_law 494 = .ok (.iconst 1, 1) := by decide +kernel
theorem dL_law_495 : decode cL_law 495 = .ok (.iadd, 1) := by decide +kernel
theorem dL_law_496 : decode cL_law 496 = .ok (.iaload, 1) := by decide +kernel
theorem dL_law_497 : decode cL_law 497 = .ok (.invokevirtual 47, 3) := by decide +kernel
theorem dL_law_500 : decode cL_law 500 = .ok (.pop, 1) := by decide +kernel
theorem dL_law_501 : decode cL_law 501 = .ok (.aload_n 2, 1) := by decide +kernel
theorem dL_law_502 : decode cL_law 502 = .ok (.aload_n 0, 1) := by decide +kernel
theorem dL_law_503 : decode cL_law 503 = .ok (.iload_n 3, 1) := by decide +kernel
theorem dL_law_504 : decode cL_law 504 = .ok (.iconst 1, 1) := by decide +kernel
theorem dL_law_505 : decode cL_law 505 = .ok (.iadd, 1) := by decide +kernel
theorem dL_law_506 : decode cL_law 506 = .ok (.iaload, 1) := by decide +kernel
theorem dL_law_507 : decode cL_law 507 = .ok (.invokevirtual 50, 3) := by decide +kernel
theorem dL_law_510 : decode cL_law 510 = .ok (.pop, 1) := by decide +kernel
theorem dL_law_511 : decode cL_law 511 = .ok (.goto 1109, 3) := by decide +kernel
set_option maxHeartbeats 4000000 in
set_option maxRecDepth 100000 in
theorem law_c7 {p : Program} {l : Launch} {e : Env} {R : Room} {s : State} {m : MethodId} {args : Array Value} {below : List Frame} {meth : Method} {c : Code} {Q : State → Prop} {D : va_G} {tys : List (ClassId × FieldType)} {base b L : Nat} {xs : Nat → Int32} (X : iv_X p m c cL_law 4 s args iv_W0 RL D classes tys base) (hty : iv_ty tys) (hRf : 1300 ≤ R.frames) (hRl : 26000 ≤ R.locals) (hX : va_X b L xs s s.heap) (hbl : b < s.heap.size) (hbb : b < base) {h1 h2 : Nat} {t i : Int32} (ii : iv_R 0 3577 i) (hiL : i.toInt + 7 ≤ (L : Int)) {cells slots : Nat} (hRc : cells + 7 ≤ R.cells) (hRs : slots + 896 ≤ R.slots) {G : iv_G} {H : Heap} {locs : List Loc} (hB : iv_B iv_sh D classes tys base G s.heap H locs) (hJ : lw_J t t h1 h2 G) {ls : Array Slot} (hl : lv_has ls 4 [(3, .int i), (0, .ref b), (1, .ref h1), (2, .ref h2)])
    (kk : ∀ (t' : Int32) (G1 : iv_G) (H1 : Heap) (locs1 : List Loc), iv_B iv_sh D classes tys base G1 s.heap H1 locs1 → lw_J t' t' h1 h2 G1 → W p l e R s m args below meth c H1 locs1 (cells + 7) (slots + 896) Q (F0 m 1620 ls [])) : W p l e R s m args below meth c H locs cells slots Q (F0 m 491 ls []) := by
  have hx := X.1.1
  have hb := X.1.2.1
  have hbA : ¬ iv_A base b := fun q => absurd (show base ≤ b from q) (by omega)
  obtain ⟨cf, cn, cp, cW, ca, cb, hJ, hW1, hW2, hF1, hF2⟩ := hJ
  refine lv_aload_n hx hb dL_law_491 rfl (lv_at hl 2 rfl) ?_
  refine lv_aload_n hx hb dL_law_492 rfl (lv_at hl 1 rfl) ?_
  refine lv_iload_n hx hb dL_law_493 rfl (lv_at hl 0 rfl) ?_
  refine lv_iconst (v := 1) hx hb dL_law_494 (by decide) ?_
  refine iv_iadd hx hb ii q_1 (lo := 1) (hi := 3578) (by decide) dL_law_495 (fun y1 e_y1 i_y1 => ?_)
  refine va_sld hx hb hX hbl hbA hB.2.1 (iv_inU i_y1 (by decide) (by have w1 : y1.toInt = i.toInt + (1 : Int32).toInt := e_y1; have w2 : (1 : Int32).toInt = 1 := rfl; omega)) dL_law_496 ?_
  refine lv_topi (fun x2 e_x2 => ?_)
  have i_x2 := iv_R.all x2
  obtain ⟨g1, r1, g2, r2, a1, a2, q1, q2, hne, qf1, qf2, hnr, kn1, kp1, kn2, kp2⟩ := id hJ
  refine iv_cVi X k_good k_mf_X11_days k_im_X11_days k_sel_X11_days k_ml_L_47 ft_X11 hB a1 sh_11 (As := [.int x2]) (c_X11_days l D tys base G h1 g1 r1 a1 x2 i_x2) ⟨rfl, rfl⟩ ⟨Nat.le_trans (m := 1300) (Nat.le_of_ble_eq_true rfl) hRf, Nat.le_trans (m := 26000) (Nat.le_of_ble_eq_true rfl) hRl⟩ ⟨by omega, by omega⟩ rfl rfl hl.1 (Nat.le_of_ble_eq_true rfl) dL_law_497 (fun v3 G3 H locs hq hB => ?_)
  have hJ := hJ.md hq.1
  have hW1 := hW1.K (iv_MdT.of hq.1) (by decide) (by decide)
  have hW2 := hW2.K (iv_MdT.of hq.1) (by decide) (by decide)
  have hF1 := hF1.K (iv_MdT.of hq.1) (by decide)
  have hF2 := hF2.K (iv_MdT.of hq.1) (by decide) (by decide)
  refine lv_pop hx hb dL_law_500 rfl ?_
  refine lv_aload_n hx hb dL_law_501 rfl (lv_at hl 3 rfl) ?_
  refine lv_aload_n hx hb dL_law_502 rfl (lv_at hl 1 rfl) ?_
  refine lv_iload_n hx hb dL_law_503 rfl (lv_at hl 0 rfl) ?_
  refine lv_iconst (v := 1) hx hb dL_law_504 (by decide) ?_
  refine iv_iadd hx hb ii q_1 (lo := 1) (hi := 3578) (by decide) dL_law_505 (fun y4 e_y4 i_y4 => ?_)
  refine va_sld hx hb hX hbl hbA hB.2.1 (iv_inU i_y4 (by decide) (by have w1 : y4.toInt = i.toInt + (1 : Int32).toInt := e_y4; have w2 : (1 : Int32).toInt = 1 := rfl; omega)) dL_law_506 ?_
  refine lv_topi (fun x5 e_x5 => ?_)
  have i_x5 := iv_R.all x5
  obtain ⟨g1, r1, g2, r2, a1, a2, q1, q2, hne, qf1, qf2, hnr, kn1, kp1, kn2, kp2⟩ := id hJ
  refine iv_cVi X k_good k_mf_X12_days k_im_X12_days k_sel_X12_days k_ml_L_50 ft_X12 hB a2 sh_12 (As := [.int x5]) (c_X12_days l D tys base G3 h2 g2 r2 a2 x5 i_x5) ⟨rfl, rfl⟩ ⟨Nat.le_trans (m := 1300) (Nat.le_of_ble_eq_true rfl) hRf, Nat.le_trans (m := 26000) (Nat.le_of_ble_eq_true rfl) hRl⟩ ⟨by omega, by omega⟩ rfl rfl hl.1 (Nat.le_of_ble_eq_true rfl) dL_law_507 (fun v6 G6 H locs hq hB => ?_)
  have hJ := hJ.md hq.1
  have hW1 := hW1.K (iv_MdT.of hq.1) (by decide) (by decide)
  have hW2 := hW2.K (iv_MdT.of hq.1) (by decide) (by decide)
  have hF1 := hF1.K (iv_MdT.of hq.1) (by decide)
  have hF2 := hF2.K (iv_MdT.of hq.1) (by decide) (by decide)
  refine lv_pop hx hb dL_law_510 rfl ?_
  refine lv_goto (tgt := 1620) hx hb dL_law_511 (by decide) ?_
  refine W.widen (k := cells + 7) (n := slots + 896) (by omega) (by omega) ?_
  exact kk _ _ _ _ hB ⟨_, _, _, _, _, _, hJ, hW1, hW2, hF1, hF2⟩
theorem dL_law_514 : decode cL_law 514 = .ok (.aload_n 1, 1) := by decide +kernel
theorem dL_law_515 : decode cL_law 515 = .ok (.aload_n 0, 1) := by decide +kernel
theorem dL_law_516 : decode cL_law 516 = .ok (.iload_n 3, 1) := by decide +kernel
theorem dL_law_517 : decode cL_law 517 = .ok (.iconst 1, 1) := by decide +kernel
theorem dL_law_518 : decode cL_law 518 = .ok (.iadd, 1) := by decide +kernel
theorem dL_law_519 : decode cL_law 519 = .ok (.iaload, 1) := by decide +kernel
theorem dL_law_520 : decode cL_law 520 = .ok (.aload_n 0, 1) := by decide +kernel
theorem dL_law_521 : decode cL_law 521 = .ok (.iload_n 3, 1) := by decide +kernel
theorem dL_law_522 : decode cL_law 522 = .ok (.iconst 2, 1) := by decide +kernel
theorem dL_law_523 : decode cL_law 523 = .ok (.iadd, 1) := by decide +kernel
theorem dL_law_524 : decode cL_law 524 = .ok (.iaload, 1) := by decide +kernel
theorem dL_law_525 : decode cL_law 525 = .ok (.aload_n 0, 1) := by decide +kernel
theorem dL_law_526 : decode cL_law 526 = .ok (.iload_n 3, 1) := by decide +kernel
theorem dL_law_527 : decode cL_law 527 = .ok (.iconst 3, 1) := by decide +kernel
theorem dL_law_528 : decode cL_law 528 = .ok (.iadd, 1) := by decide +kernel
theorem dL_law_529 : decode cL_law 529 = .ok (.iaload, 1) := by decide +kernel
theorem dL_law_530 : decode cL_law 530 = .ok (.aload_n 0, 1) := by decide +kernel
theorem dL_law_531 : decode cL_law 531 = .ok (.iload_n 3, 1) := by decide +kernel
theorem dL_law_532 : decode cL_law 532 = .ok (.iconst 4, 1) := by decide +kernel
theorem dL_law_533 : decode cL_law 533 = .ok (.iadd, 1) := by decide +kernel
theorem dL_law_534 : decode cL_law 534 = .ok (.iaload, 1) := by decide +kernel
theorem dL_law_535 : decode cL_law 535 = .ok (.aload_n 0, 1) := by decide +kernel
theorem dL_law_536 : decode cL_law 536 = .ok (.iload_n 3, 1) := by decide +kernel
theorem dL_law_537 : decode cL_law 537 = .ok (.iconst 5, 1) := by decide +kernel
theorem dL_law_538 : decode cL_law 538 = .ok (.iadd, 1) := by decide +kernel
theorem dL_law_539 : decode cL_law 539 = .ok (.iaload, 1) := by decide +kernel
theorem dL_law_540 : decode cL_law 540 = .ok (.invokevirtual 51, 3) := by decide +kernel
theorem dL_law_543 : decode cL_law 543 = .ok (.pop, 1) := by decide +kernel
theorem dL_law_544 : decode cL_law 544 = .ok (.aload_n 2, 1) := by decide +kernel
theorem dL_law_545 : decode cL_law 545 = .ok (.aload_n 0, 1) := by decide +kernel
theorem dL_law_546 : decode cL_law 546 = .ok (.iload_n 3, 1) := by decide +kernel
theorem dL_law_547 : decode cL_law 547 = .ok (.iconst 1, 1) := by decide +kernel
theorem dL_law_548 : decode cL_law 548 = .ok (.iadd, 1) := by decide +kernel
theorem dL_law_549 : decode cL_law 549 = .ok (.iaload, 1) := by decide +kernel
theorem dL_law_550 : decode cL_law 550 = .ok (.aload_n 0, 1) := by decide +kernel
theorem dL_law_551 : decode cL_law 551 = .ok (.iload_n 3, 1) := by decide +kernel
theorem dL_law_552 : decode cL_law 552 = .ok (.iconst 2, 1) := by decide +kernel
theorem dL_law_553 : decode cL_law 553 = .ok (.iadd, 1) := by decide +kernel
theorem dL_law_554 : decode cL_law 554 = .ok (.iaload, 1) := by decide +kernel
theorem dL_law_555 : decode cL_law 555 = .ok (.aload_n 0, 1) := by decide +kernel
theorem dL_law_556 : decode cL_law 556 = .ok (.iload_n 3, 1) := by decide +kernel
theorem dL_law_557 : decode cL_law 557 = .ok (.iconst 3, 1) := by decide +kernel
theorem dL_law_558 : decode cL_law 558 = .ok (.iadd, 1) := by decide +kernel
theorem dL_law_559 : decode cL_law 559 = .ok (.iaload, 1) := by decide +kernel
theorem dL_law_560 : decode cL_law 560 = .ok (.aload_n 0, 1) := by decide +kernel
theorem dL_law_561 : decode cL_law 561 = .ok (.iload_n 3, 1) := by decide +kernel
theorem dL_law_562 : decode cL_law 562 = .ok (.iconst 4, 1) := by decide +kernel
theorem dL_law_563 : decode cL_law 563 = .ok (.iadd, 1) := by decide +kernel
theorem dL_law_564 : decode cL_law 564 = .ok (.iaload, 1) := by decide +kernel
theorem dL_law_565 : decode cL_law 565 = .ok (.aload_n 0, 1) := by decide +kernel
theorem dL_law_566 : decode cL_law 566 = .ok (.iload_n 3, 1) := by decide +kernel
theorem dL_law_567 : decode cL_law 567 = .ok (.iconst 5, 1) := by decide +kernel
theorem dL_law_568 : decode cL_law 568 = .ok (.iadd, 1) := by decide +kernel
theorem dL_law_569 : decode cL_law 569 = .ok (.iaload, 1) := by decide +kernel
theorem dL_law_570 : decode cL_law 570 = .ok (.invokevirtual 55, 3) := by decide +kernel
theorem dL_law_573 : decode cL_law 573 = .ok (.pop, 1) := by decide +kernel
theorem dL_law_574 : decode cL_law 574 = .ok (.goto 1046, 3) := by decide +kernel
set_option maxHeartbeats 4000000 in
set_option maxRecDepth 100000 in
theorem law_c8 {p : Program} {l : Launch} {e : Env} {R : Room} {s : State} {m : MethodId} {args : Array Value} {below : List Frame} {meth : Method} {c : Code} {Q : State → Prop} {D : va_G} {tys : List (ClassId × FieldType)} {base b L : Nat} {xs : Nat → Int32} (X : iv_X p m c cL_law 4 s args iv_W0 RL D classes tys base) (hty : iv_ty tys) (hRf : 1300 ≤ R.frames) (hRl : 26000 ≤ R.locals) (hX : va_X b L xs s s.heap) (hbl : b < s.heap.size) (hbb : b < base) {h1 h2 : Nat} {t i : Int32} (ii : iv_R 0 3577 i) (hiL : i.toInt + 7 ≤ (L : Int)) {cells slots : Nat} (hRc : cells + 7 ≤ R.cells) (hRs : slots + 896 ≤ R.slots) {G : iv_G} {H : Heap} {locs : List Loc} (hB : iv_B iv_sh D classes tys base G s.heap H locs) (hJ : lw_J t t h1 h2 G) {ls : Array Slot} (hl : lv_has ls 4 [(3, .int i), (0, .ref b), (1, .ref h1), (2, .ref h2)])
    (kk : ∀ (t' : Int32) (G1 : iv_G) (H1 : Heap) (locs1 : List Loc), iv_B iv_sh D classes tys base G1 s.heap H1 locs1 → lw_J t' t' h1 h2 G1 → W p l e R s m args below meth c H1 locs1 (cells + 7) (slots + 896) Q (F0 m 1620 ls [])) : W p l e R s m args below meth c H locs cells slots Q (F0 m 514 ls []) := by
  have hx := X.1.1
  have hb := X.1.2.1
  have hbA : ¬ iv_A base b := fun q => absurd (show base ≤ b from q) (by omega)
  obtain ⟨cf, cn, cp, cW, ca, cb, hJ, hW1, hW2, hF1, hF2⟩ := hJ
  refine lv_aload_n hx hb dL_law_514 rfl (lv_at hl 2 rfl) ?_
  refine lv_aload_n hx hb dL_law_515 rfl (lv_at hl 1 rfl) ?_
  refine lv_iload_n hx hb dL_law_516 rfl (lv_at hl 0 rfl) ?_
  refine lv_iconst (v := 1) hx hb dL_law_517 (by decide) ?_
  refine iv_iadd hx hb ii q_1 (lo := 1) (hi := 3578) (by decide) dL_law_518 (fun y1 e_y1 i_y1 => ?_)
  refine va_sld hx hb hX hbl hbA hB.2.1 (iv_inU i_y1 (by decide) (by have w1 : y1.toInt = i.toInt + (1 : Int32).toInt := e_y1; have w2 : (1 : Int32).toInt = 1 := rfl; omega)) dL_law_519 ?_
  refine lv_topi (fun x2 e_x2 => ?_)
  have i_x2 := iv_R.all x2
  refine lv_aload_n hx hb dL_law_520 rfl (lv_at hl 1 rfl) ?_
  refine lv_iload_n hx hb dL_law_521 rfl (lv_at hl 0 rfl) ?_
  refine lv_iconst (v := 2) hx hb dL_law_522 (by decide) ?_
  refine iv_iadd hx hb ii q_2 (lo := 2) (hi := 3579) (by decide) dL_law_523 (fun y3 e_y3 i_y3 => ?_)
  refine va_sld hx hb hX hbl hbA hB.2.1 (iv_inU i_y3 (by decide) (by have w1 : y3.toInt = i.toInt + (2 : Int32).toInt := e_y3; have w2 : (2 : Int32).toInt = 2 := rfl; omega)) dL_law_524 ?_
  refine lv_topi (fun x4 e_x4 => ?_)
  have i_x4 := iv_R.all x4
  refine lv_aload_n hx hb dL_law_525 rfl (lv_at hl 1 rfl) ?_
  refine lv_iload_n hx hb dL_law_526 rfl (lv_at hl 0 rfl) ?_
  refine lv_iconst (v := 3) hx hb dL_law_527 (by decide) ?_
  refine iv_iadd hx hb ii q_3 (lo := 3) (hi := 3580) (by decide) dL_law_528 (fun y5 e_y5 i_y5 => ?_)
  refine va_sld hx hb hX hbl hbA hB.2.1 (iv_inU i_y5 (by decide) (by have w1 : y5.toInt = i.toInt + (3 : Int32).toInt := e_y5; have w2 : (3 : Int32).toInt = 3 := rfl; omega)) dL_law_529 ?_
  refine lv_topi (fun x6 e_x6 => ?_)
  have i_x6 := iv_R.all x6
  refine lv_aload_n hx hb dL_law_530 rfl (lv_at hl 1 rfl) ?_
  refine lv_iload_n hx hb dL_law_531 rfl (lv_at hl 0 rfl) ?_
  refine lv_iconst (v := 4) hx hb dL_law_532 (by decide) ?_
  refine iv_iadd hx hb ii q_4 (lo := 4) (hi := 3581) (by decide) dL_law_533 (fun y7 e_y7 i_y7 => ?_)
  refine va_sld hx hb hX hbl hbA hB.2.1 (iv_inU i_y7 (by decide) (by have w1 : y7.toInt = i.toInt + (4 : Int32).toInt := e_y7; have w2 : (4 : Int32).toInt = 4 := rfl; omega)) dL_law_534 ?_
  refine lv_topi (fun x8 e_x8 => ?_)
  have i_x8 := iv_R.all x8
  refine lv_aload_n hx hb dL_law_535 rfl (lv_at hl 1 rfl) ?_
  refine lv_iload_n hx hb dL_law_536 rfl (lv_at hl 0 rfl) ?_
  refine lv_iconst (v := 5) hx hb dL_law_537 (by decide) ?_
  refine iv_iadd hx hb ii q_5 (lo := 5) (hi := 3582) (by decide) dL_law_538 (fun y9 e_y9 i_y9 => ?_)
  refine va_sld hx hb hX hbl hbA hB.2.1 (iv_inU i_y9 (by decide) (by have w1 : y9.toInt = i.toInt + (5 : Int32).toInt := e_y9; have w2 : (5 : Int32).toInt = 5 := rfl; omega)) dL_law_539 ?_
  refine lv_topi (fun x10 e_x10 => ?_)
  have i_x10 := iv_R.all x10
  obtain ⟨g1, r1, g2, r2, a1, a2, q1, q2, hne, qf1, qf2, hnr, kn1, kp1, kn2, kp2⟩ := id hJ
  have ht0 := (iv_sl12 hB a2 15 (by decide) rfl)
  rw [q2] at ht0
  have ht4 := ht0.2
  have ht0 := ht0.1
  obtain ⟨gt1, rt1, hu1, hw1⟩ := hW1.got a1
  refine iv_cVi X k_good k_mf_X11_feed k_im_X11_feed k_sel_X11_feed k_ml_L_51 ft_X11 hB a1 sh_11 (As := [.int x2, .int x4, .int x6, .int x8, .int x10]) (f_X11_feed l D tys base G h1 g1 r1 a1 x2 i_x2 x4 i_x4 x6 i_x6 x8 i_x8 x10 i_x10 gt1 rt1 hu1) ⟨rfl, rfl⟩ ⟨Nat.le_trans (m := 1300) (Nat.le_of_ble_eq_true rfl) hRf, Nat.le_trans (m := 26000) (Nat.le_of_ble_eq_true rfl) hRl⟩ ⟨by omega, by omega⟩ rfl rfl hl.1 (Nat.le_of_ble_eq_true rfl) dL_law_540 (fun v11 G11 H locs hq hB => ?_)
  obtain ⟨hq1, hq2, hqF, hqN⟩ := hq
  have hq := And.intro hq1 (And.intro hq2 hqF)
  obtain ⟨g1', r1', b1, -⟩ := hq.1.ex a1
  have hJ := hJ.c (t' := g1' 5) hq.1 (by decide) (fun g' r' h9 => by have w1 := b1.symm.trans h9; cases w1; rfl)
  rw [q1] at hq
  have f1 : 400 < t.toInt + 20 → g1' 5 = t := fun h9 => ((hq.2.2.1 h9).2 _ _ b1)
  have f2 : t.toInt + 20 ≤ 400 → (g1' 5).toInt = t.toInt + 20 := fun h9 => ((hq.2.2.2 h9) _ _ b1).1
  obtain ⟨t1, et1⟩ : ∃ t1, t1 = g1' 5 := ⟨_, rfl⟩
  rw [← et1] at hJ f1 f2
  have hW2 := hW2.K hq.1 (by decide) (by decide)
  have hF1 := hF1.K hq.1 (by decide)
  have hF2 := hF2.K hq.1 (by decide) (by decide)
  rw [q1] at hqN
  have hW1 := lt.feed hq.1 (by decide) a1 ht0 hw1 hqN.1 hqN.2 f1 f2
  refine lv_pop hx hb dL_law_543 rfl ?_
  refine lv_aload_n hx hb dL_law_544 rfl (lv_at hl 3 rfl) ?_
  refine lv_aload_n hx hb dL_law_545 rfl (lv_at hl 1 rfl) ?_
  refine lv_iload_n hx hb dL_law_546 rfl (lv_at hl 0 rfl) ?_
  refine lv_iconst (v := 1) hx hb dL_law_547 (by decide) ?_
  refine iv_iadd hx hb ii q_1 (lo := 1) (hi := 3578) (by decide) dL_law_548 (fun y12 e_y12 i_y12 => ?_)
  refine va_sld hx hb hX hbl hbA hB.2.1 (iv_inU i_y12 (by decide) (by have w1 : y12.toInt = i.toInt + (1 : Int32).toInt := e_y12; have w2 : (1 : Int32).toInt = 1 := rfl; omega)) dL_law_549 ?_
  refine lv_topi (fun x13 e_x13 => ?_)
  have i_x13 := iv_R.all x13
  refine lv_aload_n hx hb dL_law_550 rfl (lv_at hl 1 rfl) ?_
  refine lv_iload_n hx hb dL_law_551 rfl (lv_at hl 0 rfl) ?_
  refine lv_iconst (v := 2) hx hb dL_law_552 (by decide) ?_
  refine iv_iadd hx hb ii q_2 (lo := 2) (hi := 3579) (by decide) dL_law_553 (fun y14 e_y14 i_y14 => ?_)
  refine va_sld hx hb hX hbl hbA hB.2.1 (iv_inU i_y14 (by decide) (by have w1 : y14.toInt = i.toInt + (2 : Int32).toInt := e_y14; have w2 : (2 : Int32).toInt = 2 := rfl; omega)) dL_law_554 ?_
  refine lv_topi (fun x15 e_x15 => ?_)
  have i_x15 := iv_R.all x15
  refine lv_aload_n hx hb dL_law_555 rfl (lv_at hl 1 rfl) ?_
  refine lv_iload_n hx hb dL_law_556 rfl (lv_at hl 0 rfl) ?_
  refine lv_iconst (v := 3) hx hb dL_law_557 (by decide) ?_
  refine iv_iadd hx hb ii q_3 (lo := 3) (hi := 3580) (by decide) dL_law_558 (fun y16 e_y16 i_y16 => ?_)
  refine va_sld hx hb hX hbl hbA hB.2.1 (iv_inU i_y16 (by decide) (by have w1 : y16.toInt = i.toInt + (3 : Int32).toInt := e_y16; have w2 : (3 : Int32).toInt = 3 := rfl; omega)) dL_law_559 ?_
  refine lv_topi (fun x17 e_x17 => ?_)
  have i_x17 := iv_R.all x17
  refine lv_aload_n hx hb dL_law_560 rfl (lv_at hl 1 rfl) ?_
  refine lv_iload_n hx hb dL_law_561 rfl (lv_at hl 0 rfl) ?_
  refine lv_iconst (v := 4) hx hb dL_law_562 (by decide) ?_
  refine iv_iadd hx hb ii q_4 (lo := 4) (hi := 3581) (by decide) dL_law_563 (fun y18 e_y18 i_y18 => ?_)
  refine va_sld hx hb hX hbl hbA hB.2.1 (iv_inU i_y18 (by decide) (by have w1 : y18.toInt = i.toInt + (4 : Int32).toInt := e_y18; have w2 : (4 : Int32).toInt = 4 := rfl; omega)) dL_law_564 ?_
  refine lv_topi (fun x19 e_x19 => ?_)
  have i_x19 := iv_R.all x19
  refine lv_aload_n hx hb dL_law_565 rfl (lv_at hl 1 rfl) ?_
  refine lv_iload_n hx hb dL_law_566 rfl (lv_at hl 0 rfl) ?_
  refine lv_iconst (v := 5) hx hb dL_law_567 (by decide) ?_
  refine iv_iadd hx hb ii q_5 (lo := 5) (hi := 3582) (by decide) dL_law_568 (fun y20 e_y20 i_y20 => ?_)
  refine va_sld hx hb hX hbl hbA hB.2.1 (iv_inU i_y20 (by decide) (by have w1 : y20.toInt = i.toInt + (5 : Int32).toInt := e_y20; have w2 : (5 : Int32).toInt = 5 := rfl; omega)) dL_law_569 ?_
  refine lv_topi (fun x21 e_x21 => ?_)
  have i_x21 := iv_R.all x21
  obtain ⟨g1, r1, g2, r2, a1, a2, q1, q2, hne, qf1, qf2, hnr, kn1, kp1, kn2, kp2⟩ := id hJ
  have exz0 : x13 = x2 := by rw [e_x13, e_x2]; exact congrArg (fun z : Int32 => xs z.toNatClampNeg) (Int32.toInt_inj.mp (e_y12.trans e_y1.symm))
  have exz1 : x15 = x4 := by rw [e_x15, e_x4]; exact congrArg (fun z : Int32 => xs z.toNatClampNeg) (Int32.toInt_inj.mp (e_y14.trans e_y3.symm))
  have exz2 : x17 = x6 := by rw [e_x17, e_x6]; exact congrArg (fun z : Int32 => xs z.toNatClampNeg) (Int32.toInt_inj.mp (e_y16.trans e_y5.symm))
  have exz3 : x19 = x8 := by rw [e_x19, e_x8]; exact congrArg (fun z : Int32 => xs z.toNatClampNeg) (Int32.toInt_inj.mp (e_y18.trans e_y7.symm))
  have exz4 : x21 = x10 := by rw [e_x21, e_x10]; exact congrArg (fun z : Int32 => xs z.toNatClampNeg) (Int32.toInt_inj.mp (e_y20.trans e_y9.symm))
  obtain ⟨gt3, rt3, hu3, hw3⟩ := hW2.got a2
  refine iv_cVi X k_good k_mf_X12_feed k_im_X12_feed k_sel_X12_feed k_ml_L_55 ft_X12 hB a2 sh_12 (As := [.int x13, .int x15, .int x17, .int x19, .int x21]) (f_X12_feed l D tys base G11 h2 g2 r2 a2 x13 i_x13 x15 i_x15 x17 i_x17 x19 i_x19 x21 i_x21 gt3 rt3 hu3) ⟨rfl, rfl⟩ ⟨Nat.le_trans (m := 1300) (Nat.le_of_ble_eq_true rfl) hRf, Nat.le_trans (m := 26000) (Nat.le_of_ble_eq_true rfl) hRl⟩ ⟨by omega, by omega⟩ rfl rfl hl.1 (Nat.le_of_ble_eq_true rfl) dL_law_570 (fun v22 G22 H locs hq hB => ?_)
  obtain ⟨hq1, hq2, hqF, hqN⟩ := hq
  have hq := And.intro hq1 (And.intro hq2 hqF)
  obtain ⟨g2', r2', b2, -⟩ := hq.1.ex a2
  have hJ := hJ.m (t' := g2' 15) hq.1 (by decide) (fun g' r' h9 => by have w1 := b2.symm.trans h9; cases w1; rfl)
  rw [q2] at hq
  have f3 : 400 < t.toInt + 20 → g2' 15 = t := fun h9 => ((hq.2.2.1 h9).2 _ _ b2)
  have f4 : t.toInt + 20 ≤ 400 → (g2' 15).toInt = t.toInt + 20 := fun h9 => ((hq.2.2.2 h9) _ _ b2).1
  have ett : g2' 15 = t1 := by
    by_cases h9 : 400 < t.toInt + 20
    · rw [f1 h9, f3 h9]
    · exact Int32.toInt_inj.mp (by rw [f2 (by omega), f4 (by omega)])
  rw [ett] at hJ
  have hW1 := hW1.K hq.1 (by decide) (by decide)
  have hF1 := hF1.K hq.1 (by decide)
  have hF2 := hF2.K hq.1 (by decide) (by decide)
  rw [q2, exz0, exz1, exz2, exz3, exz4] at hqN
  have hW2 := lt.feed hq.1 (by decide) a2 ht0 hw3 hqN.1 hqN.2 f3 f4
  rw [ett] at hW2
  refine lv_pop hx hb dL_law_573 rfl ?_
  refine lv_goto (tgt := 1620) hx hb dL_law_574 (by decide) ?_
  refine W.widen (k := cells + 7) (n := slots + 896) (by omega) (by omega) ?_
  exact kk _ _ _ _ hB ⟨_, _, _, _, _, _, hJ, hW1, hW2, hF1, hF2⟩
theorem dL_law_577 : decode cL_law 577 = .ok (.aload_n 1, 1) := by decide +kernel
theorem dL_law_578 : decode cL_law 578 = .ok (.aload_n 0, 1) := by decide +kernel
theorem dL_law_579 : decode cL_law 579 = .ok (.iload_n 3, 1) := by decide +kernel
theorem dL_law_580 : decode cL_law 580 = .ok (.iconst 1, 1) := by decide +kernel
theorem dL_law_581 : decode cL_law 581 = .ok (.iadd, 1) := by decide +kernel
theorem dL_law_582 : decode cL_law 582 = .ok (.iaload, 1) := by decide +kernel
theorem dL_law_583 : decode cL_law 583 = .ok (.invokevirtual 56, 3) := by decide +kernel
theorem dL_law_586 : decode cL_law 586 = .ok (.pop, 1) := by decide +kernel
theorem dL_law_587 : decode cL_law 587 = .ok (.aload_n 2, 1) := by decide +kernel
theorem dL_law_588 : decode cL_law 588 = .ok (.aload_n 0, 1) := by decide +kernel
theorem dL_law_589 : decode cL_law 589 = .ok (.iload_n 3, 1) := by decide +kernel
theorem dL_law_590 : decode cL_law 590 = .ok (.iconst 1, 1) := by decide +kernel
theorem dL_law_591 : decode cL_law 591 = .ok (.iadd, 1) := by decide +kernel
theorem dL_law_592 : decode cL_law 592 = .ok (.iaload, 1) := by decide +kernel
theorem dL_law_593 : decode cL_law 593 = .ok (.invokevirtual 59, 3) := by decide +kernel
theorem dL_law_596 : decode cL_law 596 = .ok (.pop, 1) := by decide +kernel
theorem dL_law_597 : decode cL_law 597 = .ok (.goto 1023, 3) := by decide +kernel
set_option maxHeartbeats 4000000 in
set_option maxRecDepth 100000 in
theorem law_c9 {p : Program} {l : Launch} {e : Env} {R : Room} {s : State} {m : MethodId} {args : Array Value} {below : List Frame} {meth : Method} {c : Code} {Q : State → Prop} {D : va_G} {tys : List (ClassId × FieldType)} {base b L : Nat} {xs : Nat → Int32} (X : iv_X p m c cL_law 4 s args iv_W0 RL D classes tys base) (hty : iv_ty tys) (hRf : 1300 ≤ R.frames) (hRl : 26000 ≤ R.locals) (hX : va_X b L xs s s.heap) (hbl : b < s.heap.size) (hbb : b < base) {h1 h2 : Nat} {t i : Int32} (ii : iv_R 0 3577 i) (hiL : i.toInt + 7 ≤ (L : Int)) {cells slots : Nat} (hRc : cells + 7 ≤ R.cells) (hRs : slots + 896 ≤ R.slots) {G : iv_G} {H : Heap} {locs : List Loc} (hB : iv_B iv_sh D classes tys base G s.heap H locs) (hJ : lw_J t t h1 h2 G) {ls : Array Slot} (hl : lv_has ls 4 [(3, .int i), (0, .ref b), (1, .ref h1), (2, .ref h2)])
    (kk : ∀ (t' : Int32) (G1 : iv_G) (H1 : Heap) (locs1 : List Loc), iv_B iv_sh D classes tys base G1 s.heap H1 locs1 → lw_J t' t' h1 h2 G1 → W p l e R s m args below meth c H1 locs1 (cells + 7) (slots + 896) Q (F0 m 1620 ls [])) : W p l e R s m args below meth c H locs cells slots Q (F0 m 577 ls []) := by
  have hx := X.1.1
  have hb := X.1.2.1
  have hbA : ¬ iv_A base b := fun q => absurd (show base ≤ b from q) (by omega)
  obtain ⟨cf, cn, cp, cW, ca, cb, hJ, hW1, hW2, hF1, hF2⟩ := hJ
  refine lv_aload_n hx hb dL_law_577 rfl (lv_at hl 2 rfl) ?_
  refine lv_aload_n hx hb dL_law_578 rfl (lv_at hl 1 rfl) ?_
  refine lv_iload_n hx hb dL_law_579 rfl (lv_at hl 0 rfl) ?_
  refine lv_iconst (v := 1) hx hb dL_law_580 (by decide) ?_
  refine iv_iadd hx hb ii q_1 (lo := 1) (hi := 3578) (by decide) dL_law_581 (fun y1 e_y1 i_y1 => ?_)
  refine va_sld hx hb hX hbl hbA hB.2.1 (iv_inU i_y1 (by decide) (by have w1 : y1.toInt = i.toInt + (1 : Int32).toInt := e_y1; have w2 : (1 : Int32).toInt = 1 := rfl; omega)) dL_law_582 ?_
  refine lv_topi (fun x2 e_x2 => ?_)
  have i_x2 := iv_R.all x2
  obtain ⟨g1, r1, g2, r2, a1, a2, q1, q2, hne, qf1, qf2, hnr, kn1, kp1, kn2, kp2⟩ := id hJ
  refine iv_cVi X k_good k_mf_X11_end k_im_X11_end k_sel_X11_end k_ml_L_56 ft_X11 hB a1 sh_11 (As := [.int x2]) (c_X11_end l D tys base G h1 g1 r1 a1 x2 i_x2) ⟨rfl, rfl⟩ ⟨Nat.le_trans (m := 1300) (Nat.le_of_ble_eq_true rfl) hRf, Nat.le_trans (m := 26000) (Nat.le_of_ble_eq_true rfl) hRl⟩ ⟨by omega, by omega⟩ rfl rfl hl.1 (Nat.le_of_ble_eq_true rfl) dL_law_583 (fun v3 G3 H locs hq hB => ?_)
  obtain ⟨g1', r1', b1, -⟩ := hq.1.ex a1
  have hJ := hJ.c (t' := g1' 5) hq.1 (by decide) (fun g' r' h9 => by have w1 := b1.symm.trans h9; cases w1; rfl)
  rw [q1] at hq
  have f0 := hq.2.1
  have f1 : v3 = 0 → (x2.toInt < 0 ∨ t.toInt < x2.toInt) ∧ g1' 5 = t := fun h9 => ⟨(hq.2.2.2.1 h9).1, (hq.2.2.2.1 h9).2 _ _ b1⟩
  have f2 : ¬ v3 = 0 → (0 ≤ x2.toInt ∧ x2.toInt ≤ t.toInt) ∧ g1' 5 = x2 := fun h9 => ⟨(hq.2.2.2.2 h9).1, (hq.2.2.2.2 h9).2 _ _ b1⟩
  obtain ⟨t1, et1⟩ : ∃ t1, t1 = g1' 5 := ⟨_, rfl⟩
  rw [← et1] at hJ f1 f2
  have hW1 := hW1.K hq.1 (by decide) (by decide)
  have hW2 := hW2.K hq.1 (by decide) (by decide)
  have hF1 := hF1.K hq.1 (by decide)
  have hF2 := hF2.K hq.1 (by decide) (by decide)
  have hle9 : t1.toInt ≤ t.toInt := by
    by_cases h9 : v3 = 0
    · rw [(f1 h9).2]; exact Int.le_refl _
    · rw [(f2 h9).2]; exact (f2 h9).1.2
  have hW1 := hW1.cut (k' := t1.toInt.toNat) (by omega)
  refine lv_pop hx hb dL_law_586 rfl ?_
  refine lv_aload_n hx hb dL_law_587 rfl (lv_at hl 3 rfl) ?_
  refine lv_aload_n hx hb dL_law_588 rfl (lv_at hl 1 rfl) ?_
  refine lv_iload_n hx hb dL_law_589 rfl (lv_at hl 0 rfl) ?_
  refine lv_iconst (v := 1) hx hb dL_law_590 (by decide) ?_
  refine iv_iadd hx hb ii q_1 (lo := 1) (hi := 3578) (by decide) dL_law_591 (fun y4 e_y4 i_y4 => ?_)
  refine va_sld hx hb hX hbl hbA hB.2.1 (iv_inU i_y4 (by decide) (by have w1 : y4.toInt = i.toInt + (1 : Int32).toInt := e_y4; have w2 : (1 : Int32).toInt = 1 := rfl; omega)) dL_law_592 ?_
  refine lv_topi (fun x5 e_x5 => ?_)
  have i_x5 := iv_R.all x5
  obtain ⟨g1, r1, g2, r2, a1, a2, q1, q2, hne, qf1, qf2, hnr, kn1, kp1, kn2, kp2⟩ := id hJ
  refine iv_cVi X k_good k_mf_X12_end k_im_X12_end k_sel_X12_end k_ml_L_59 ft_X12 hB a2 sh_12 (As := [.int x5]) (e_X12_end l D tys base G3 h2 g2 r2 a2 x5 i_x5) ⟨rfl, rfl⟩ ⟨Nat.le_trans (m := 1300) (Nat.le_of_ble_eq_true rfl) hRf, Nat.le_trans (m := 26000) (Nat.le_of_ble_eq_true rfl) hRl⟩ ⟨by omega, by omega⟩ rfl rfl hl.1 (Nat.le_of_ble_eq_true rfl) dL_law_593 (fun v6 G6 H locs hq hB => ?_)
  obtain ⟨g2', r2', b2, -⟩ := hq.1.ex a2
  have hJ := hJ.m (t' := g2' 15) hq.1 (by decide) (fun g' r' h9 => by have w1 := b2.symm.trans h9; cases w1; rfl)
  have exx : x5 = x2 := by rw [e_x5, e_x2]; exact congrArg (fun z : Int32 => xs z.toNatClampNeg) (Int32.toInt_inj.mp (e_y4.trans e_y1.symm))
  rw [q2, exx] at hq
  have f5 := hq.2.1
  have f3 : v6 = 0 → (x2.toInt < 0 ∨ t.toInt < x2.toInt) ∧ g2' 15 = t := fun h9 => ⟨(hq.2.2.2.1 h9).1, (hq.2.2.2.1 h9).2 _ _ b2⟩
  have f4 : ¬ v6 = 0 → (0 ≤ x2.toInt ∧ x2.toInt ≤ t.toInt) ∧ g2' 15 = x2 := fun h9 => ⟨(hq.2.2.2.2 h9).1, (hq.2.2.2.2 h9).2 _ _ b2⟩
  have hvv : v3 = v6 := by
    by_cases h8 : v3 = 0
    · by_cases h9 : v6 = 0
      · rw [h8, h9]
      · have w1 := (f1 h8).1
        have w2 := (f4 h9).1
        omega
    · by_cases h9 : v6 = 0
      · have w1 := (f2 h8).1
        have w2 := (f3 h9).1
        omega
      · exact Int32.toInt_inj.mp (by have w1 : ¬ v3.toInt = 0 := fun q => h8 (Int32.toInt_inj.mp q); have w2 : ¬ v6.toInt = 0 := fun q => h9 (Int32.toInt_inj.mp q); have w3 := f0.1; have w4 := f0.2; have w5 := f5.1; have w6 := f5.2; omega)
  have ett : g2' 15 = t1 := by
    by_cases h8 : v3 = 0
    · rw [(f1 h8).2, (f3 (hvv ▸ h8)).2]
    · rw [(f2 h8).2, (f4 (hvv ▸ h8)).2]
  rw [ett] at hJ
  have hW1 := hW1.K hq.1 (by decide) (by decide)
  have hW2 := hW2.K hq.1 (by decide) (by decide)
  have hF1 := hF1.K hq.1 (by decide)
  have hF2 := hF2.K hq.1 (by decide) (by decide)
  have hW2 := hW2.cut (k' := t1.toInt.toNat) (by omega)
  refine lv_pop hx hb dL_law_596 rfl ?_
  refine lv_goto (tgt := 1620) hx hb dL_law_597 (by decide) ?_
  refine W.widen (k := cells + 7) (n := slots + 896) (by omega) (by omega) ?_
  exact kk _ _ _ _ hB ⟨_, _, _, _, _, _, hJ, hW1, hW2, hF1, hF2⟩
theorem dL_law_600 : decode cL_law 600 = .ok (.aload_n 1, 1) := by decide +kernel
theorem dL_law_601 : decode cL_law 601 = .ok (.aload_n 0, 1) := by decide +kernel
theorem dL_law_602 : decode cL_law 602 = .ok (.iload_n 3, 1) := by decide +kernel
theorem dL_law_603 : decode cL_law 603 = .ok (.iconst 1, 1) := by decide +kernel
theorem dL_law_604 : decode cL_law 604 = .ok (.iadd, 1) := by decide +kernel
theorem dL_law_605 : decode cL_law 605 = .ok (.iaload, 1) := by decide +kernel
theorem dL_law_606 : decode cL_law 606 = .ok (.invokevirtual 60, 3) := by decide +kernel
theorem dL_law_609 : decode cL_law 609 = .ok (.pop, 1) := by decide +kernel
theorem dL_law_610 : decode cL_law 610 = .ok (.aload_n 2, 1) := by decide +kernel
theorem dL_law_611 : decode cL_law 611 = .ok (.aload_n 0, 1) := by decide +kernel
theorem dL_law_612 : decode cL_law 612 = .ok (.iload_n 3, 1) := by decide +kernel
theorem dL_law_613 : decode cL_law 613 = .ok (.iconst 1, 1) := by decide +kernel
theorem dL_law_614 : decode cL_law 614 = .ok (.iadd, 1) := by decide +kernel
theorem dL_law_615 : decode cL_law 615 = .ok (.iaload, 1) := by decide +kernel
theorem dL_law_616 : decode cL_law 616 = .ok (.invokevirtual 63, 3) := by decide +kernel
theorem dL_law_619 : decode cL_law 619 = .ok (.pop, 1) := by decide +kernel
theorem dL_law_620 : decode cL_law 620 = .ok (.goto 1000, 3) := by decide +kernel
set_option maxHeartbeats 4000000 in
set_option maxRecDepth 100000 in
theorem law_c10 {p : Program} {l : Launch} {e : Env} {R : Room} {s : State} {m : MethodId} {args : Array Value} {below : List Frame} {meth : Method} {c : Code} {Q : State → Prop} {D : va_G} {tys : List (ClassId × FieldType)} {base b L : Nat} {xs : Nat → Int32} (X : iv_X p m c cL_law 4 s args iv_W0 RL D classes tys base) (hty : iv_ty tys) (hRf : 1300 ≤ R.frames) (hRl : 26000 ≤ R.locals) (hX : va_X b L xs s s.heap) (hbl : b < s.heap.size) (hbb : b < base) {h1 h2 : Nat} {t i : Int32} (ii : iv_R 0 3577 i) (hiL : i.toInt + 7 ≤ (L : Int)) {cells slots : Nat} (hRc : cells + 7 ≤ R.cells) (hRs : slots + 896 ≤ R.slots) {G : iv_G} {H : Heap} {locs : List Loc} (hB : iv_B iv_sh D classes tys base G s.heap H locs) (hJ : lw_J t t h1 h2 G) {ls : Array Slot} (hl : lv_has ls 4 [(3, .int i), (0, .ref b), (1, .ref h1), (2, .ref h2)])
    (kk : ∀ (t' : Int32) (G1 : iv_G) (H1 : Heap) (locs1 : List Loc), iv_B iv_sh D classes tys base G1 s.heap H1 locs1 → lw_J t' t' h1 h2 G1 → W p l e R s m args below meth c H1 locs1 (cells + 7) (slots + 896) Q (F0 m 1620 ls [])) : W p l e R s m args below meth c H locs cells slots Q (F0 m 600 ls []) := by
  have hx := X.1.1
  have hb := X.1.2.1
  have hbA : ¬ iv_A base b := fun q => absurd (show base ≤ b from q) (by omega)
  obtain ⟨cf, cn, cp, cW, ca, cb, hJ, hW1, hW2, hF1, hF2⟩ := hJ
  refine lv_aload_n hx hb dL_law_600 rfl (lv_at hl 2 rfl) ?_
  refine lv_aload_n hx hb dL_law_601 rfl (lv_at hl 1 rfl) ?_
  refine lv_iload_n hx hb dL_law_602 rfl (lv_at hl 0 rfl) ?_
  refine lv_iconst (v := 1) hx hb dL_law_603 (by decide) ?_
  refine iv_iadd hx hb ii q_1 (lo := 1) (hi := 3578) (by decide) dL_law_604 (fun y1 e_y1 i_y1 => ?_)
  refine va_sld hx hb hX hbl hbA hB.2.1 (iv_inU i_y1 (by decide) (by have w1 : y1.toInt = i.toInt + (1 : Int32).toInt := e_y1; have w2 : (1 : Int32).toInt = 1 := rfl; omega)) dL_law_605 ?_
  refine lv_topi (fun x2 e_x2 => ?_)
  have i_x2 := iv_R.all x2
  obtain ⟨g1, r1, g2, r2, a1, a2, q1, q2, hne, qf1, qf2, hnr, kn1, kp1, kn2, kp2⟩ := id hJ
  have ht0 := (iv_sl12 hB a2 15 (by decide) rfl)
  rw [q2] at ht0
  have ht4 := ht0.2
  have ht0 := ht0.1
  obtain ⟨gt1, rt1, hu1, hw1⟩ := hW1.got a1
  obtain ⟨gt2, rt2, hu2, hw2⟩ := hW2.got a2
  have hcn := lw_cnt hB kn2
  obtain ⟨gb9, rb9, hb59, hbn9⟩ := id kn1
  have hby := fun (i9 : Nat) (hi9 : i9 < t.toInt.toNat) => (show iv_R 0 255 (gt1 i9) from by rw [hw1 i9 hi9, ← hw2 i9 hi9]; exact iv_tbR hB hu2 (by omega))
  refine iv_cViA X k_good k_mf_X11_text k_im_X11_text k_sel_X11_text k_ml_L_60 ft_X11 hB a1 sh_11 (As := [.int x2]) (f_X11_text l D tys base G h1 g1 r1 a1 x2 i_x2 hty gt1 rt1 hu1 t.toInt.toNat (by rw [q1]; omega) hby cn.toInt.toNat gb9 rb9 hb59 (by rw [hbn9]; omega)) ⟨rfl, rfl⟩ ⟨Nat.le_trans (m := 1300) (Nat.le_of_ble_eq_true rfl) hRf, Nat.le_trans (m := 26000) (Nat.le_of_ble_eq_true rfl) hRl⟩ ⟨by omega, by omega⟩ rfl rfl hl.1 (Nat.le_of_ble_eq_true rfl) dL_law_606 (fun v3 G3 H locs hq hB => ?_)
  obtain ⟨hq1, hq2, hqF, hqN⟩ := hq
  have hq := And.intro hq1 (And.intro hq2 hqF)
  have hJ := hJ.c hq.1 (by decide) hq.2.2
  have hW1 := hW1.K hq.1 (by decide) (by decide)
  have hW2 := hW2.K hq.1 (by decide) (by decide)
  have hF2 := hF2.K hq.1 (by decide) (by decide)
  have hW1 := hW1.cut (k' := (0 : Int32).toInt.toNat) (Nat.zero_le _)
  obtain ⟨gr9, rr9, hr9, hF1⟩ := hF1.any hq.1 a1
  obtain ⟨gk, gv, gp, hK⟩ := lx_K hqN
  refine lv_pop hx hb dL_law_609 rfl ?_
  refine lv_aload_n hx hb dL_law_610 rfl (lv_at hl 3 rfl) ?_
  refine lv_aload_n hx hb dL_law_611 rfl (lv_at hl 1 rfl) ?_
  refine lv_iload_n hx hb dL_law_612 rfl (lv_at hl 0 rfl) ?_
  refine lv_iconst (v := 1) hx hb dL_law_613 (by decide) ?_
  refine iv_iadd hx hb ii q_1 (lo := 1) (hi := 3578) (by decide) dL_law_614 (fun y4 e_y4 i_y4 => ?_)
  refine va_sld hx hb hX hbl hbA hB.2.1 (iv_inU i_y4 (by decide) (by have w1 : y4.toInt = i.toInt + (1 : Int32).toInt := e_y4; have w2 : (1 : Int32).toInt = 1 := rfl; omega)) dL_law_615 ?_
  refine lv_topi (fun x5 e_x5 => ?_)
  have i_x5 := iv_R.all x5
  obtain ⟨g1, r1, g2, r2, a1, a2, q1, q2, hne, qf1, qf2, hnr, kn1, kp1, kn2, kp2⟩ := id hJ
  have exz0 : x5 = x2 := by rw [e_x5, e_x2]; exact congrArg (fun z : Int32 => xs z.toNatClampNeg) (Int32.toInt_inj.mp (e_y4.trans e_y1.symm))
  obtain ⟨gt3, rt3, hu3, hw3⟩ := hW2.got a2
  obtain ⟨gw9, rw9, hw9, hwn9⟩ := id kn2
  refine iv_cVi X k_good k_mf_X12_text k_im_X12_text k_sel_X12_text k_ml_L_63 ft_X12 hB a2 sh_12 (As := [.int x5]) (f_X12_text l D tys base G3 h2 g2 r2 a2 x5 i_x5 gt3 rt3 hu3 t.toInt.toNat (by rw [q2]; omega) (tk_k gk) (tk_k gv) (tk_k gp) (by rw [exz0, tk_T.eq (h := gt3) (g := gt1) (fun i hi => (hw3 i hi).trans (hw1 i hi).symm)]; exact fun h => (hK.2 h).1) cn.toInt.toNat gw9 rw9 hw9 (by rw [hwn9]; omega)) ⟨rfl, rfl⟩ ⟨Nat.le_trans (m := 1300) (Nat.le_of_ble_eq_true rfl) hRf, Nat.le_trans (m := 26000) (Nat.le_of_ble_eq_true rfl) hRl⟩ ⟨by omega, by omega⟩ rfl rfl hl.1 (Nat.le_of_ble_eq_true rfl) dL_law_616 (fun v6 G6 H locs hq hB => ?_)
  obtain ⟨hq1, hq2, hqF, hqN⟩ := hq
  have hq := And.intro hq1 (And.intro hq2 hqF)
  have hJ := hJ.mX hq.1 (by decide) hq.2.2
  have hW1 := hW1.K hq.1 (by decide) (by decide)
  have hW2 := hW2.K hq.1 (by decide) (by decide)
  have hF1 := hF1.K hq.1 (by decide)
  have hW2 := hW2.cut (k' := (0 : Int32).toInt.toNat) (Nat.zero_le _)
  rw [exz0] at hqN
  obtain ⟨g4, r4, b4, -⟩ := hq.1.ex a2
  obtain ⟨hvv, he6, he7⟩ := lx_out hK hr9 hqN b4
  have hF2 : lf_2 h2 (gr9 6) (gr9 7) G6 := ⟨g4, r4, b4, he6.symm, he7.symm⟩
  refine lv_pop hx hb dL_law_619 rfl ?_
  refine lv_goto (tgt := 1620) hx hb dL_law_620 (by decide) ?_
  refine W.widen (k := cells + 7) (n := slots + 896) (by omega) (by omega) ?_
  exact kk _ _ _ _ hB ⟨_, _, _, _, _, _, hJ, hW1, hW2, hF1, hF2⟩
theorem dL_law_623 : decode cL_law 623 = .ok (.aload_n 1, 1) := by decide +kernel
theorem dL_law_624 : decode cL_law 624 = .ok (.aload_n 0, 1) := by decide +kernel
theorem dL_law_625 : decode cL_law 625 = .ok (.iload_n 3, 1) := by decide +kernel
theorem dL_law_626 : decode cL_law 626 = .ok (.iconst 1, 1) := by decide +kernel
theorem dL_law_627 : decode cL_law 627 = .ok (.iadd, 1) := by decide +kernel
theorem dL_law_628 : decode cL_law 628 = .ok (.iaload, 1) := by decide +kernel
theorem dL_law_629 : decode cL_law 629 = .ok (.invokevirtual 64, 3) := by decide +kernel
theorem dL_law_632 : decode cL_law 632 = .ok (.aload_n 2, 1) := by decide +kernel
theorem dL_law_633 : decode cL_law 633 = .ok (.aload_n 0, 1) := by decide +kernel
theorem dL_law_634 : decode cL_law 634 = .ok (.iload_n 3, 1) := by decide +kernel
theorem dL_law_635 : decode cL_law 635 = .ok (.iconst 1, 1) := by decide +kernel
theorem dL_law_636 : decode cL_law 636 = .ok (.iadd, 1) := by decide +kernel
theorem dL_law_637 : decode cL_law 637 = .ok (.iaload, 1) := by decide +kernel
theorem dL_law_638 : decode cL_law 638 = .ok (.invokevirtual 67, 3) := by decide +kernel
theorem dL_law_641 : decode cL_law 641 = .ok (.if_icmp .eq 979, 3) := by decide +kernel
set_option maxHeartbeats 4000000 in
set_option maxRecDepth 100000 in
theorem law_c11 {p : Program} {l : Launch} {e : Env} {R : Room} {s : State} {m : MethodId} {args : Array Value} {below : List Frame} {meth : Method} {c : Code} {Q : State → Prop} {D : va_G} {tys : List (ClassId × FieldType)} {base b L : Nat} {xs : Nat → Int32} (X : iv_X p m c cL_law 4 s args iv_W0 RL D classes tys base) (hty : iv_ty tys) (hRf : 1300 ≤ R.frames) (hRl : 26000 ≤ R.locals) (hX : va_X b L xs s s.heap) (hbl : b < s.heap.size) (hbb : b < base) {h1 h2 : Nat} {t i : Int32} (ii : iv_R 0 3577 i) (hiL : i.toInt + 7 ≤ (L : Int)) {cells slots : Nat} (hRc : cells + 7 ≤ R.cells) (hRs : slots + 896 ≤ R.slots) {G : iv_G} {H : Heap} {locs : List Loc} (hB : iv_B iv_sh D classes tys base G s.heap H locs) (hJ : lw_J t t h1 h2 G) {ls : Array Slot} (hl : lv_has ls 4 [(3, .int i), (0, .ref b), (1, .ref h1), (2, .ref h2)])
    (kk : ∀ (t' : Int32) (G1 : iv_G) (H1 : Heap) (locs1 : List Loc), iv_B iv_sh D classes tys base G1 s.heap H1 locs1 → lw_J t' t' h1 h2 G1 → W p l e R s m args below meth c H1 locs1 (cells + 7) (slots + 896) Q (F0 m 1620 ls [])) : W p l e R s m args below meth c H locs cells slots Q (F0 m 623 ls []) := by
  have hx := X.1.1
  have hb := X.1.2.1
  have hbA : ¬ iv_A base b := fun q => absurd (show base ≤ b from q) (by omega)
  obtain ⟨cf, cn, cp, cW, ca, cb, hJ, hW1, hW2, hF1, hF2⟩ := hJ
  refine lv_aload_n hx hb dL_law_623 rfl (lv_at hl 2 rfl) ?_
  refine lv_aload_n hx hb dL_law_624 rfl (lv_at hl 1 rfl) ?_
  refine lv_iload_n hx hb dL_law_625 rfl (lv_at hl 0 rfl) ?_
  refine lv_iconst (v := 1) hx hb dL_law_626 (by decide) ?_
  refine iv_iadd hx hb ii q_1 (lo := 1) (hi := 3578) (by decide) dL_law_627 (fun y1 e_y1 i_y1 => ?_)
  refine va_sld hx hb hX hbl hbA hB.2.1 (iv_inU i_y1 (by decide) (by have w1 : y1.toInt = i.toInt + (1 : Int32).toInt := e_y1; have w2 : (1 : Int32).toInt = 1 := rfl; omega)) dL_law_628 ?_
  refine lv_topi (fun x2 e_x2 => ?_)
  have i_x2 := iv_R.all x2
  obtain ⟨g1, r1, g2, r2, a1, a2, q1, q2, hne, qf1, qf2, hnr, kn1, kp1, kn2, kp2⟩ := id hJ
  refine iv_cVi X k_good k_mf_X11_fault k_im_X11_fault k_sel_X11_fault k_ml_L_64 ft_X11 hB a1 sh_11 (As := [.int x2]) (f_X11_fault l D tys base G h1 g1 r1 a1 x2 i_x2) ⟨rfl, rfl⟩ ⟨Nat.le_trans (m := 1300) (Nat.le_of_ble_eq_true rfl) hRf, Nat.le_trans (m := 26000) (Nat.le_of_ble_eq_true rfl) hRl⟩ ⟨by omega, by omega⟩ rfl rfl hl.1 (Nat.le_of_ble_eq_true rfl) dL_law_629 (fun v3 G3 H locs hq hB => ?_)
  have fV := hF1.V (x := x2) hq.1 a1 hq.2.2
  have hJ := hJ.same hq.1
  have hW1 := lw_same hW1 hq.1
  have hW2 := lw_same hW2 hq.1
  have hF1 := lw_same hF1 hq.1
  have hF2 := lw_same hF2 hq.1
  refine lv_aload_n hx hb dL_law_632 rfl (lv_at hl 3 rfl) ?_
  refine lv_aload_n hx hb dL_law_633 rfl (lv_at hl 1 rfl) ?_
  refine lv_iload_n hx hb dL_law_634 rfl (lv_at hl 0 rfl) ?_
  refine lv_iconst (v := 1) hx hb dL_law_635 (by decide) ?_
  refine iv_iadd hx hb ii q_1 (lo := 1) (hi := 3578) (by decide) dL_law_636 (fun y4 e_y4 i_y4 => ?_)
  refine va_sld hx hb hX hbl hbA hB.2.1 (iv_inU i_y4 (by decide) (by have w1 : y4.toInt = i.toInt + (1 : Int32).toInt := e_y4; have w2 : (1 : Int32).toInt = 1 := rfl; omega)) dL_law_637 ?_
  refine lv_topi (fun x5 e_x5 => ?_)
  have i_x5 := iv_R.all x5
  obtain ⟨g1, r1, g2, r2, a1, a2, q1, q2, hne, qf1, qf2, hnr, kn1, kp1, kn2, kp2⟩ := id hJ
  refine iv_cVi X k_good k_mf_X12_fault k_im_X12_fault k_sel_X12_fault k_ml_L_67 ft_X12 hB a2 sh_12 (As := [.int x5]) (f_X12_fault l D tys base G3 h2 g2 r2 a2 x5 i_x5) ⟨rfl, rfl⟩ ⟨Nat.le_trans (m := 1300) (Nat.le_of_ble_eq_true rfl) hRf, Nat.le_trans (m := 26000) (Nat.le_of_ble_eq_true rfl) hRl⟩ ⟨by omega, by omega⟩ rfl rfl hl.1 (Nat.le_of_ble_eq_true rfl) dL_law_638 (fun v6 G6 H locs hq hB => ?_)
  have exz0 : x5 = x2 := by rw [e_x5, e_x2]; exact congrArg (fun z : Int32 => xs z.toNatClampNeg) (Int32.toInt_inj.mp (e_y4.trans e_y1.symm))
  rw [exz0] at hq
  have hvv : v3 = v6 := fV.eq (hF2.V a2 hq.2.2)
  have hJ := hJ.same hq.1
  have hW1 := lw_same hW1 hq.1
  have hW2 := lw_same hW2 hq.1
  have hF1 := lw_same hF1 hq.1
  have hF2 := lw_same hF2 hq.1
  refine lv_icmp_eq (tgt := 1620) hx hb dL_law_641 (by decide) (fun c641 => ?_) (fun c641 => absurd hvv c641)
  refine W.widen (k := cells + 7) (n := slots + 896) (by omega) (by omega) ?_
  exact kk _ _ _ _ hB ⟨_, _, _, _, _, _, hJ, hW1, hW2, hF1, hF2⟩
theorem dL_law_646 : decode cL_law 646 = .ok (.aload_n 1, 1) := by decide +kernel
theorem dL_law_647 : decode cL_law 647 = .ok (.aload_n 0, 1) := by decide +kernel
theorem dL_law_648 : decode cL_law 648 = .ok (.iload_n 3, 1) := by decide +kernel
theorem dL_law_649 : decode cL_law 649 = .ok (.iconst 1, 1) := by decide +kernel
theorem dL_law_650 : decode cL_law 650 = .ok (.iadd, 1) := by decide +kernel
theorem dL_law_651 : decode cL_law 651 = .ok (.iaload, 1) := by decide +kernel
theorem dL_law_652 : decode cL_law 652 = .ok (.aload_n 0, 1) := by decide +kernel
theorem dL_law_653 : decode cL_law 653 = .ok (.iload_n 3, 1) := by decide +kernel
theorem dL_law_654 : decode cL_law 654 = .ok (.iconst 2, 1) := by decide +kernel
theorem dL_law_655 : decode cL_law 655 = .ok (.iadd, 1) := by decide +kernel
theorem dL_law_656 : decode cL_law 656 = .ok (.iaload, 1) := by decide +kernel
theorem dL_law_657 : decode cL_law 657 = .ok (.invokevirtual 68, 3) := by decide +kernel
theorem dL_law_660 : decode cL_law 660 = .ok (.pop, 1) := by decide +kernel
theorem dL_law_661 : decode cL_law 661 = .ok (.aload_n 2, 1) := by decide +kernel
theorem dL_law_662 : decode cL_law 662 = .ok (.aload_n 0, 1) := by decide +kernel
theorem dL_law_663 : decode cL_law 663 = .ok (.iload_n 3, 1) := by decide +kernel
theorem dL_law_664 : decode cL_law 664 = .ok (.iconst 1, 1) := by decide +kernel
theorem dL_law_665 : decode cL_law 665 = .ok (.iadd, 1) := by decide +kernel
theorem dL_law_666 : decode cL_law 666 = .ok (.iaload, 1) := by decide +kernel
theorem dL_law_667 : decode cL_law 667 = .ok (.aload_n 0, 1) := by decide +kernel
theorem dL_law_668 : decode cL_law 668 = .ok (.iload_n 3, 1) := by decide +kernel
theorem dL_law_669 : decode cL_law 669 = .ok (.iconst 2, 1) := by decide +kernel
theorem dL_law_670 : decode cL_law 670 = .ok (.iadd, 1) := by decide +kernel
theorem dL_law_671 : decode cL_law 671 = .ok (.iaload, 1) := by decide +kernel
theorem dL_law_672 : decode cL_law 672 = .ok (.invokevirtual 72, 3) := by decide +kernel
theorem dL_law_675 : decode cL_law 675 = .ok (.pop, 1) := by decide +kernel
theorem dL_law_676 : decode cL_law 676 = .ok (.goto 944, 3) := by decide +kernel
set_option maxHeartbeats 4000000 in
set_option maxRecDepth 100000 in
theorem law_c12 {p : Program} {l : Launch} {e : Env} {R : Room} {s : State} {m : MethodId} {args : Array Value} {below : List Frame} {meth : Method} {c : Code} {Q : State → Prop} {D : va_G} {tys : List (ClassId × FieldType)} {base b L : Nat} {xs : Nat → Int32} (X : iv_X p m c cL_law 4 s args iv_W0 RL D classes tys base) (hty : iv_ty tys) (hRf : 1300 ≤ R.frames) (hRl : 26000 ≤ R.locals) (hX : va_X b L xs s s.heap) (hbl : b < s.heap.size) (hbb : b < base) {h1 h2 : Nat} {t i : Int32} (ii : iv_R 0 3577 i) (hiL : i.toInt + 7 ≤ (L : Int)) {cells slots : Nat} (hRc : cells + 7 ≤ R.cells) (hRs : slots + 896 ≤ R.slots) {G : iv_G} {H : Heap} {locs : List Loc} (hB : iv_B iv_sh D classes tys base G s.heap H locs) (hJ : lw_J t t h1 h2 G) {ls : Array Slot} (hl : lv_has ls 4 [(3, .int i), (0, .ref b), (1, .ref h1), (2, .ref h2)])
    (kk : ∀ (t' : Int32) (G1 : iv_G) (H1 : Heap) (locs1 : List Loc), iv_B iv_sh D classes tys base G1 s.heap H1 locs1 → lw_J t' t' h1 h2 G1 → W p l e R s m args below meth c H1 locs1 (cells + 7) (slots + 896) Q (F0 m 1620 ls [])) : W p l e R s m args below meth c H locs cells slots Q (F0 m 646 ls []) := by
  have hx := X.1.1
  have hb := X.1.2.1
  have hbA : ¬ iv_A base b := fun q => absurd (show base ≤ b from q) (by omega)
  obtain ⟨cf, cn, cp, cW, ca, cb, hJ, hW1, hW2, hF1, hF2⟩ := hJ
  refine lv_aload_n hx hb dL_law_646 rfl (lv_at hl 2 rfl) ?_
  refine lv_aload_n hx hb dL_law_647 rfl (lv_at hl 1 rfl) ?_
  refine lv_iload_n hx hb dL_law_648 rfl (lv_at hl 0 rfl) ?_
  refine lv_iconst (v := 1) hx hb dL_law_649 (by decide) ?_
  refine iv_iadd hx hb ii q_1 (lo := 1) (hi := 3578) (by decide) dL_law_650 (fun y1 e_y1 i_y1 => ?_)
  refine va_sld hx hb hX hbl hbA hB.2.1 (iv_inU i_y1 (by decide) (by have w1 : y1.toInt = i.toInt + (1 : Int32).toInt := e_y1; have w2 : (1 : Int32).toInt = 1 := rfl; omega)) dL_law_651 ?_
  refine lv_topi (fun x2 e_x2 => ?_)
  have i_x2 := iv_R.all x2
  refine lv_aload_n hx hb dL_law_652 rfl (lv_at hl 1 rfl) ?_
  refine lv_iload_n hx hb dL_law_653 rfl (lv_at hl 0 rfl) ?_
  refine lv_iconst (v := 2) hx hb dL_law_654 (by decide) ?_
  refine iv_iadd hx hb ii q_2 (lo := 2) (hi := 3579) (by decide) dL_law_655 (fun y3 e_y3 i_y3 => ?_)
  refine va_sld hx hb hX hbl hbA hB.2.1 (iv_inU i_y3 (by decide) (by have w1 : y3.toInt = i.toInt + (2 : Int32).toInt := e_y3; have w2 : (2 : Int32).toInt = 2 := rfl; omega)) dL_law_656 ?_
  refine lv_topi (fun x4 e_x4 => ?_)
  have i_x4 := iv_R.all x4
  obtain ⟨g1, r1, g2, r2, a1, a2, q1, q2, hne, qf1, qf2, hnr, kn1, kp1, kn2, kp2⟩ := id hJ
  refine iv_cVi X k_good k_mf_X11_of k_im_X11_of k_sel_X11_of k_ml_L_68 ft_X11 hB a1 sh_11 (As := [.int x2, .int x4]) (c_X11_of l D tys base G h1 g1 r1 a1 x2 i_x2 x4 i_x4) ⟨rfl, rfl⟩ ⟨Nat.le_trans (m := 1300) (Nat.le_of_ble_eq_true rfl) hRf, Nat.le_trans (m := 26000) (Nat.le_of_ble_eq_true rfl) hRl⟩ ⟨by omega, by omega⟩ rfl rfl hl.1 (Nat.le_of_ble_eq_true rfl) dL_law_657 (fun v5 G5 H locs hq hB => ?_)
  have hJ := hJ.md hq.1
  have hW1 := hW1.K (iv_MdT.of hq.1) (by decide) (by decide)
  have hW2 := hW2.K (iv_MdT.of hq.1) (by decide) (by decide)
  have hF1 := hF1.K (iv_MdT.of hq.1) (by decide)
  have hF2 := hF2.K (iv_MdT.of hq.1) (by decide) (by decide)
  refine lv_pop hx hb dL_law_660 rfl ?_
  refine lv_aload_n hx hb dL_law_661 rfl (lv_at hl 3 rfl) ?_
  refine lv_aload_n hx hb dL_law_662 rfl (lv_at hl 1 rfl) ?_
  refine lv_iload_n hx hb dL_law_663 rfl (lv_at hl 0 rfl) ?_
  refine lv_iconst (v := 1) hx hb dL_law_664 (by decide) ?_
  refine iv_iadd hx hb ii q_1 (lo := 1) (hi := 3578) (by decide) dL_law_665 (fun y6 e_y6 i_y6 => ?_)
  refine va_sld hx hb hX hbl hbA hB.2.1 (iv_inU i_y6 (by decide) (by have w1 : y6.toInt = i.toInt + (1 : Int32).toInt := e_y6; have w2 : (1 : Int32).toInt = 1 := rfl; omega)) dL_law_666 ?_
  refine lv_topi (fun x7 e_x7 => ?_)
  have i_x7 := iv_R.all x7
  refine lv_aload_n hx hb dL_law_667 rfl (lv_at hl 1 rfl) ?_
  refine lv_iload_n hx hb dL_law_668 rfl (lv_at hl 0 rfl) ?_
  refine lv_iconst (v := 2) hx hb dL_law_669 (by decide) ?_
  refine iv_iadd hx hb ii q_2 (lo := 2) (hi := 3579) (by decide) dL_law_670 (fun y8 e_y8 i_y8 => ?_)
  refine va_sld hx hb hX hbl hbA hB.2.1 (iv_inU i_y8 (by decide) (by have w1 : y8.toInt = i.toInt + (2 : Int32).toInt := e_y8; have w2 : (2 : Int32).toInt = 2 := rfl; omega)) dL_law_671 ?_
  refine lv_topi (fun x9 e_x9 => ?_)
  have i_x9 := iv_R.all x9
  obtain ⟨g1, r1, g2, r2, a1, a2, q1, q2, hne, qf1, qf2, hnr, kn1, kp1, kn2, kp2⟩ := id hJ
  refine iv_cVi X k_good k_mf_X12_of k_im_X12_of k_sel_X12_of k_ml_L_72 ft_X12 hB a2 sh_12 (As := [.int x7, .int x9]) (c_X12_of l D tys base G5 h2 g2 r2 a2 x7 i_x7 x9 i_x9) ⟨rfl, rfl⟩ ⟨Nat.le_trans (m := 1300) (Nat.le_of_ble_eq_true rfl) hRf, Nat.le_trans (m := 26000) (Nat.le_of_ble_eq_true rfl) hRl⟩ ⟨by omega, by omega⟩ rfl rfl hl.1 (Nat.le_of_ble_eq_true rfl) dL_law_672 (fun v10 G10 H locs hq hB => ?_)
  have hJ := hJ.md hq.1
  have hW1 := hW1.K (iv_MdT.of hq.1) (by decide) (by decide)
  have hW2 := hW2.K (iv_MdT.of hq.1) (by decide) (by decide)
  have hF1 := hF1.K (iv_MdT.of hq.1) (by decide)
  have hF2 := hF2.K (iv_MdT.of hq.1) (by decide) (by decide)
  refine lv_pop hx hb dL_law_675 rfl ?_
  refine lv_goto (tgt := 1620) hx hb dL_law_676 (by decide) ?_
  refine W.widen (k := cells + 7) (n := slots + 896) (by omega) (by omega) ?_
  exact kk _ _ _ _ hB ⟨_, _, _, _, _, _, hJ, hW1, hW2, hF1, hF2⟩
theorem dL_law_679 : decode cL_law 679 = .ok (.aload_n 1, 1) := by decide +kernel
theorem dL_law_680 : decode cL_law 680 = .ok (.aload_n 0, 1) := by decide +kernel
theorem dL_law_681 : decode cL_law 681 = .ok (.iload_n 3, 1) := by decide +kernel
theorem dL_law_682 : decode cL_law 682 = .ok (.iconst 1, 1) := by decide +kernel
theorem dL_law_683 : decode cL_law 683 = .ok (.iadd, 1) := by decide +kernel
theorem dL_law_684 : decode cL_law 684 = .ok (.iaload, 1) := by decide +kernel
theorem dL_law_685 : decode cL_law 685 = .ok (.aload_n 0, 1) := by decide +kernel
theorem dL_law_686 : decode cL_law 686 = .ok (.iload_n 3, 1) := by decide +kernel
theorem dL_law_687 : decode cL_law 687 = .ok (.iconst 2, 1) := by decide +kernel
theorem dL_law_688 : decode cL_law 688 = .ok (.iadd, 1) := by decide +kernel
theorem dL_law_689 : decode cL_law 689 = .ok (.iaload, 1) := by decide +kernel
theorem dL_law_690 : decode cL_law 690 = .ok (.aload_n 0, 1) := by decide +kernel
theorem dL_law_691 : decode cL_law 691 = .ok (.iload_n 3, 1) := by decide +kernel
theorem dL_law_692 : decode cL_law 692 = .ok (.iconst 3, 1) := by decide +kernel
theorem dL_law_693 : decode cL_law 693 = .ok (.iadd, 1) := by decide +kernel
theorem dL_law_694 : decode cL_law 694 = .ok (.iaload, 1) := by decide +kernel
theorem dL_law_695 : decode cL_law 695 = .ok (.invokevirtual 73, 3) := by decide +kernel
theorem dL_law_698 : decode cL_law 698 = .ok (.pop, 1) := by decide +kernel
theorem dL_law_699 : decode cL_law 699 = .ok (.aload_n 2, 1) := by decide +kernel
theorem dL_law_700 : decode cL_law 700 = .ok (.aload_n 0, 1) := by decide +kernel
theorem dL_law_701 : decode cL_law 701 = .ok (.iload_n 3, 1) := by decide +kernel
theorem dL_law_702 : decode cL_law 702 = .ok (.iconst 1, 1) := by decide +kernel
theorem dL_law_703 : decode cL_law 703 = .ok (.iadd, 1) := by decide +kernel
theorem dL_law_704 : decode cL_law 704 = .ok (.iaload, 1) := by decide +kernel
theorem dL_law_705 : decode cL_law 705 = .ok (.aload_n 0, 1) := by decide +kernel
theorem dL_law_706 : decode cL_law 706 = .ok (.iload_n 3, 1) := by decide +kernel
theorem dL_law_707 : decode cL_law 707 = .ok (.iconst 2, 1) := by decide +kernel
theorem dL_law_708 : decode cL_law 708 = .ok (.iadd, 1) := by decide +kernel
theorem dL_law_709 : decode cL_law 709 = .ok (.iaload, 1) := by decide +kernel
theorem dL_law_710 : decode cL_law 710 = .ok (.aload_n 0, 1) := by decide +kernel
theorem dL_law_711 : decode cL_law 711 = .ok (.iload_n 3, 1) := by decide +kernel
theorem dL_law_712 : decode cL_law 712 = .ok (.iconst 3, 1) := by decide +kernel
theorem dL_law_713 : decode cL_law 713 = .ok (.iadd, 1) := by decide +kernel
theorem dL_law_714 : decode cL_law 714 = .ok (.iaload, 1) := by decide +kernel
theorem dL_law_715 : decode cL_law 715 = .ok (.invokevirtual 77, 3) := by decide +kernel
theorem dL_law_718 : decode cL_law 718 = .ok (.pop, 1) := by decide +kernel
theorem dL_law_719 : decode cL_law 719 = .ok (.goto 901, 3) := by decide +kernel
set_option maxHeartbeats 4000000 in
set_option maxRecDepth 100000 in
theorem law_c13 {p : Program} {l : Launch} {e : Env} {R : Room} {s : State} {m : MethodId} {args : Array Value} {below : List Frame} {meth : Method} {c : Code} {Q : State → Prop} {D : va_G} {tys : List (ClassId × FieldType)} {base b L : Nat} {xs : Nat → Int32} (X : iv_X p m c cL_law 4 s args iv_W0 RL D classes tys base) (hty : iv_ty tys) (hRf : 1300 ≤ R.frames) (hRl : 26000 ≤ R.locals) (hX : va_X b L xs s s.heap) (hbl : b < s.heap.size) (hbb : b < base) {h1 h2 : Nat} {t i : Int32} (ii : iv_R 0 3577 i) (hiL : i.toInt + 7 ≤ (L : Int)) {cells slots : Nat} (hRc : cells + 7 ≤ R.cells) (hRs : slots + 896 ≤ R.slots) {G : iv_G} {H : Heap} {locs : List Loc} (hB : iv_B iv_sh D classes tys base G s.heap H locs) (hJ : lw_J t t h1 h2 G) {ls : Array Slot} (hl : lv_has ls 4 [(3, .int i), (0, .ref b), (1, .ref h1), (2, .ref h2)])
    (kk : ∀ (t' : Int32) (G1 : iv_G) (H1 : Heap) (locs1 : List Loc), iv_B iv_sh D classes tys base G1 s.heap H1 locs1 → lw_J t' t' h1 h2 G1 → W p l e R s m args below meth c H1 locs1 (cells + 7) (slots + 896) Q (F0 m 1620 ls [])) : W p l e R s m args below meth c H locs cells slots Q (F0 m 679 ls []) := by
  have hx := X.1.1
  have hb := X.1.2.1
  have hbA : ¬ iv_A base b := fun q => absurd (show base ≤ b from q) (by omega)
  obtain ⟨cf, cn, cp, cW, ca, cb, hJ, hW1, hW2, hF1, hF2⟩ := hJ
  refine lv_aload_n hx hb dL_law_679 rfl (lv_at hl 2 rfl) ?_
  refine lv_aload_n hx hb dL_law_680 rfl (lv_at hl 1 rfl) ?_
  refine lv_iload_n hx hb dL_law_681 rfl (lv_at hl 0 rfl) ?_
  refine lv_iconst (v := 1) hx hb dL_law_682 (by decide) ?_
  refine iv_iadd hx hb ii q_1 (lo := 1) (hi := 3578) (by decide) dL_law_683 (fun y1 e_y1 i_y1 => ?_)
  refine va_sld hx hb hX hbl hbA hB.2.1 (iv_inU i_y1 (by decide) (by have w1 : y1.toInt = i.toInt + (1 : Int32).toInt := e_y1; have w2 : (1 : Int32).toInt = 1 := rfl; omega)) dL_law_684 ?_
  refine lv_topi (fun x2 e_x2 => ?_)
  have i_x2 := iv_R.all x2
  refine lv_aload_n hx hb dL_law_685 rfl (lv_at hl 1 rfl) ?_
  refine lv_iload_n hx hb dL_law_686 rfl (lv_at hl 0 rfl) ?_
  refine lv_iconst (v := 2) hx hb dL_law_687 (by decide) ?_
  refine iv_iadd hx hb ii q_2 (lo := 2) (hi := 3579) (by decide) dL_law_688 (fun y3 e_y3 i_y3 => ?_)
  refine va_sld hx hb hX hbl hbA hB.2.1 (iv_inU i_y3 (by decide) (by have w1 : y3.toInt = i.toInt + (2 : Int32).toInt := e_y3; have w2 : (2 : Int32).toInt = 2 := rfl; omega)) dL_law_689 ?_
  refine lv_topi (fun x4 e_x4 => ?_)
  have i_x4 := iv_R.all x4
  refine lv_aload_n hx hb dL_law_690 rfl (lv_at hl 1 rfl) ?_
  refine lv_iload_n hx hb dL_law_691 rfl (lv_at hl 0 rfl) ?_
  refine lv_iconst (v := 3) hx hb dL_law_692 (by decide) ?_
  refine iv_iadd hx hb ii q_3 (lo := 3) (hi := 3580) (by decide) dL_law_693 (fun y5 e_y5 i_y5 => ?_)
  refine va_sld hx hb hX hbl hbA hB.2.1 (iv_inU i_y5 (by decide) (by have w1 : y5.toInt = i.toInt + (3 : Int32).toInt := e_y5; have w2 : (3 : Int32).toInt = 3 := rfl; omega)) dL_law_694 ?_
  refine lv_topi (fun x6 e_x6 => ?_)
  have i_x6 := iv_R.all x6
  obtain ⟨g1, r1, g2, r2, a1, a2, q1, q2, hne, qf1, qf2, hnr, kn1, kp1, kn2, kp2⟩ := id hJ
  refine iv_cVi X k_good k_mf_X11_loud k_im_X11_loud k_sel_X11_loud k_ml_L_73 ft_X11 hB a1 sh_11 (As := [.int x2, .int x4, .int x6]) (c_X11_loud l D tys base G h1 g1 r1 a1 x2 i_x2 x4 i_x4 x6 i_x6) ⟨rfl, rfl⟩ ⟨Nat.le_trans (m := 1300) (Nat.le_of_ble_eq_true rfl) hRf, Nat.le_trans (m := 26000) (Nat.le_of_ble_eq_true rfl) hRl⟩ ⟨by omega, by omega⟩ rfl rfl hl.1 (Nat.le_of_ble_eq_true rfl) dL_law_695 (fun v7 G7 H locs hq hB => ?_)
  have hJ := hJ.md hq.1
  have hW1 := hW1.K (iv_MdT.of hq.1) (by decide) (by decide)
  have hW2 := hW2.K (iv_MdT.of hq.1) (by decide) (by decide)
  have hF1 := hF1.K (iv_MdT.of hq.1) (by decide)
  have hF2 := hF2.K (iv_MdT.of hq.1) (by decide) (by decide)
  refine lv_pop hx hb dL_law_698 rfl ?_
  refine lv_aload_n hx hb dL_law_699 rfl (lv_at hl 3 rfl) ?_
  refine lv_aload_n hx hb dL_law_700 rfl (lv_at hl 1 rfl) ?_
  refine lv_iload_n hx hb dL_law_701 rfl (lv_at hl 0 rfl) ?_
  refine lv_iconst (v := 1) hx hb dL_law_702 (by decide) ?_
  refine iv_iadd hx hb ii q_1 (lo := 1) (hi := 3578) (by decide) dL_law_703 (fun y8 e_y8 i_y8 => ?_)
  refine va_sld hx hb hX hbl hbA hB.2.1 (iv_inU i_y8 (by decide) (by have w1 : y8.toInt = i.toInt + (1 : Int32).toInt := e_y8; have w2 : (1 : Int32).toInt = 1 := rfl; omega)) dL_law_704 ?_
  refine lv_topi (fun x9 e_x9 => ?_)
  have i_x9 := iv_R.all x9
  refine lv_aload_n hx hb dL_law_705 rfl (lv_at hl 1 rfl) ?_
  refine lv_iload_n hx hb dL_law_706 rfl (lv_at hl 0 rfl) ?_
  refine lv_iconst (v := 2) hx hb dL_law_707 (by decide) ?_
  refine iv_iadd hx hb ii q_2 (lo := 2) (hi := 3579) (by decide) dL_law_708 (fun y10 e_y10 i_y10 => ?_)
  refine va_sld hx hb hX hbl hbA hB.2.1 (iv_inU i_y10 (by decide) (by have w1 : y10.toInt = i.toInt + (2 : Int32).toInt := e_y10; have w2 : (2 : Int32).toInt = 2 := rfl; omega)) dL_law_709 ?_
  refine lv_topi (fun x11 e_x11 => ?_)
  have i_x11 := iv_R.all x11
  refine lv_aload_n hx hb dL_law_710 rfl (lv_at hl 1 rfl) ?_
  refine lv_iload_n hx hb dL_law_711 rfl (lv_at hl 0 rfl) ?_
  refine lv_iconst (v := 3) hx hb dL_law_712 (by decide) ?_
  refine iv_iadd hx hb ii q_3 (lo := 3) (hi := 3580) (by decide) dL_law_713 (fun y12 e_y12 i_y12 => ?_)
  refine va_sld hx hb hX hbl hbA hB.2.1 (iv_inU i_y12 (by decide) (by have w1 : y12.toInt = i.toInt + (3 : Int32).toInt := e_y12; have w2 : (3 : Int32).toInt = 3 := rfl; omega)) dL_law_714 ?_
  refine lv_topi (fun x13 e_x13 => ?_)
  have i_x13 := iv_R.all x13
  obtain ⟨g1, r1, g2, r2, a1, a2, q1, q2, hne, qf1, qf2, hnr, kn1, kp1, kn2, kp2⟩ := id hJ
  refine iv_cVi X k_good k_mf_X12_loud k_im_X12_loud k_sel_X12_loud k_ml_L_77 ft_X12 hB a2 sh_12 (As := [.int x9, .int x11, .int x13]) (c_X12_loud l D tys base G7 h2 g2 r2 a2 x9 i_x9 x11 i_x11 x13 i_x13) ⟨rfl, rfl⟩ ⟨Nat.le_trans (m := 1300) (Nat.le_of_ble_eq_true rfl) hRf, Nat.le_trans (m := 26000) (Nat.le_of_ble_eq_true rfl) hRl⟩ ⟨by omega, by omega⟩ rfl rfl hl.1 (Nat.le_of_ble_eq_true rfl) dL_law_715 (fun v14 G14 H locs hq hB => ?_)
  have hJ := hJ.md hq.1
  have hW1 := hW1.K (iv_MdT.of hq.1) (by decide) (by decide)
  have hW2 := hW2.K (iv_MdT.of hq.1) (by decide) (by decide)
  have hF1 := hF1.K (iv_MdT.of hq.1) (by decide)
  have hF2 := hF2.K (iv_MdT.of hq.1) (by decide) (by decide)
  refine lv_pop hx hb dL_law_718 rfl ?_
  refine lv_goto (tgt := 1620) hx hb dL_law_719 (by decide) ?_
  refine W.widen (k := cells + 7) (n := slots + 896) (by omega) (by omega) ?_
  exact kk _ _ _ _ hB ⟨_, _, _, _, _, _, hJ, hW1, hW2, hF1, hF2⟩
theorem dL_law_722 : decode cL_law 722 = .ok (.aload_n 1, 1) := by decide +kernel
theorem dL_law_723 : decode cL_law 723 = .ok (.aload_n 0, 1) := by decide +kernel
theorem dL_law_724 : decode cL_law 724 = .ok (.iload_n 3, 1) := by decide +kernel
theorem dL_law_725 : decode cL_law 725 = .ok (.iconst 1, 1) := by decide +kernel
theorem dL_law_726 : decode cL_law 726 = .ok (.iadd, 1) := by decide +kernel
theorem dL_law_727 : decode cL_law 727 = .ok (.iaload, 1) := by decide +kernel
theorem dL_law_728 : decode cL_law 728 = .ok (.aload_n 0, 1) := by decide +kernel
theorem dL_law_729 : decode cL_law 729 = .ok (.iload_n 3, 1) := by decide +kernel
theorem dL_law_730 : decode cL_law 730 = .ok (.iconst 2, 1) := by decide +kernel
theorem dL_law_731 : decode cL_law 731 = .ok (.iadd, 1) := by decide +kernel
theorem dL_law_732 : decode cL_law 732 = .ok (.iaload, 1) := by decide +kernel
theorem dL_law_733 : decode cL_law 733 = .ok (.invokevirtual 78, 3) := by decide +kernel
theorem dL_law_736 : decode cL_law 736 = .ok (.pop, 1) := by decide +kernel
theorem dL_law_737 : decode cL_law 737 = .ok (.aload_n 2, 1) := by decide +kernel
theorem dL_law_738 : decode cL_law 738 = .ok (.aload_n 0, 1) := by decide +kernel
theorem dL_law_739 : decode cL_law 739 = .ok (.iload_n 3, 1) := by decide +kernel
theorem dL_law_740 : decode cL_law 740 = .ok (.iconst 1, 1) := by decide +kernel
theorem dL_law_741 : decode cL_law 741 = .ok (.iadd, 1) := by decide +kernel
theorem dL_law_742 : decode cL_law 742 = .ok (.iaload, 1) := by decide +kernel
theorem dL_law_743 : decode cL_law 743 = .ok (.aload_n 0, 1) := by decide +kernel
theorem dL_law_744 : decode cL_law 744 = .ok (.iload_n 3, 1) := by decide +kernel
theorem dL_law_745 : decode cL_law 745 = .ok (.iconst 2, 1) := by decide +kernel
theorem dL_law_746 : decode cL_law 746 = .ok (.iadd, 1) := by decide +kernel
theorem dL_law_747 : decode cL_law 747 = .ok (.iaload, 1) := by decide +kernel
theorem dL_law_748 : decode cL_law 748 = .ok (.invokevirtual 81, 3) := by decide +kernel
theorem dL_law_751 : decode cL_law 751 = .ok (.pop, 1) := by decide +kernel
theorem dL_law_752 : decode cL_law 752 = .ok (.goto 868, 3) := by decide +kernel
set_option maxHeartbeats 4000000 in
set_option maxRecDepth 100000 in
theorem law_c14 {p : Program} {l : Launch} {e : Env} {R : Room} {s : State} {m : MethodId} {args : Array Value} {below : List Frame} {meth : Method} {c : Code} {Q : State → Prop} {D : va_G} {tys : List (ClassId × FieldType)} {base b L : Nat} {xs : Nat → Int32} (X : iv_X p m c cL_law 4 s args iv_W0 RL D classes tys base) (hty : iv_ty tys) (hRf : 1300 ≤ R.frames) (hRl : 26000 ≤ R.locals) (hX : va_X b L xs s s.heap) (hbl : b < s.heap.size) (hbb : b < base) {h1 h2 : Nat} {t i : Int32} (ii : iv_R 0 3577 i) (hiL : i.toInt + 7 ≤ (L : Int)) {cells slots : Nat} (hRc : cells + 7 ≤ R.cells) (hRs : slots + 896 ≤ R.slots) {G : iv_G} {H : Heap} {locs : List Loc} (hB : iv_B iv_sh D classes tys base G s.heap H locs) (hJ : lw_J t t h1 h2 G) {ls : Array Slot} (hl : lv_has ls 4 [(3, .int i), (0, .ref b), (1, .ref h1), (2, .ref h2)])
    (kk : ∀ (t' : Int32) (G1 : iv_G) (H1 : Heap) (locs1 : List Loc), iv_B iv_sh D classes tys base G1 s.heap H1 locs1 → lw_J t' t' h1 h2 G1 → W p l e R s m args below meth c H1 locs1 (cells + 7) (slots + 896) Q (F0 m 1620 ls [])) : W p l e R s m args below meth c H locs cells slots Q (F0 m 722 ls []) := by
  have hx := X.1.1
  have hb := X.1.2.1
  have hbA : ¬ iv_A base b := fun q => absurd (show base ≤ b from q) (by omega)
  obtain ⟨cf, cn, cp, cW, ca, cb, hJ, hW1, hW2, hF1, hF2⟩ := hJ
  refine lv_aload_n hx hb dL_law_722 rfl (lv_at hl 2 rfl) ?_
  refine lv_aload_n hx hb dL_law_723 rfl (lv_at hl 1 rfl) ?_
  refine lv_iload_n hx hb dL_law_724 rfl (lv_at hl 0 rfl) ?_
  refine lv_iconst (v := 1) hx hb dL_law_725 (by decide) ?_
  refine iv_iadd hx hb ii q_1 (lo := 1) (hi := 3578) (by decide) dL_law_726 (fun y1 e_y1 i_y1 => ?_)
  refine va_sld hx hb hX hbl hbA hB.2.1 (iv_inU i_y1 (by decide) (by have w1 : y1.toInt = i.toInt + (1 : Int32).toInt := e_y1; have w2 : (1 : Int32).toInt = 1 := rfl; omega)) dL_law_727 ?_
  refine lv_topi (fun x2 e_x2 => ?_)
  have i_x2 := iv_R.all x2
  refine lv_aload_n hx hb dL_law_728 rfl (lv_at hl 1 rfl) ?_
  refine lv_iload_n hx hb dL_law_729 rfl (lv_at hl 0 rfl) ?_
  refine lv_iconst (v := 2) hx hb dL_law_730 (by decide) ?_
  refine iv_iadd hx hb ii q_2 (lo := 2) (hi := 3579) (by decide) dL_law_731 (fun y3 e_y3 i_y3 => ?_)
  refine va_sld hx hb hX hbl hbA hB.2.1 (iv_inU i_y3 (by decide) (by have w1 : y3.toInt = i.toInt + (2 : Int32).toInt := e_y3; have w2 : (2 : Int32).toInt = 2 := rfl; omega)) dL_law_732 ?_
  refine lv_topi (fun x4 e_x4 => ?_)
  have i_x4 := iv_R.all x4
  obtain ⟨g1, r1, g2, r2, a1, a2, q1, q2, hne, qf1, qf2, hnr, kn1, kp1, kn2, kp2⟩ := id hJ
  refine iv_cVi X k_good k_mf_X11_astray k_im_X11_astray k_sel_X11_astray k_ml_L_78 ft_X11 hB a1 sh_11 (As := [.int x2, .int x4]) (c_X11_astray l D tys base G h1 g1 r1 a1 x2 i_x2 x4 i_x4) ⟨rfl, rfl⟩ ⟨Nat.le_trans (m := 1300) (Nat.le_of_ble_eq_true rfl) hRf, Nat.le_trans (m := 26000) (Nat.le_of_ble_eq_true rfl) hRl⟩ ⟨by omega, by omega⟩ rfl rfl hl.1 (Nat.le_of_ble_eq_true rfl) dL_law_733 (fun v5 G5 H locs hq hB => ?_)
  have hJ := hJ.md hq.1
  have hW1 := hW1.K (iv_MdT.of hq.1) (by decide) (by decide)
  have hW2 := hW2.K (iv_MdT.of hq.1) (by decide) (by decide)
  have hF1 := hF1.K (iv_MdT.of hq.1) (by decide)
  have hF2 := hF2.K (iv_MdT.of hq.1) (by decide) (by decide)
  refine lv_pop hx hb dL_law_736 rfl ?_
  refine lv_aload_n hx hb dL_law_737 rfl (lv_at hl 3 rfl) ?_
  refine lv_aload_n hx hb dL_law_738 rfl (lv_at hl 1 rfl) ?_
  refine lv_iload_n hx hb dL_law_739 rfl (lv_at hl 0 rfl) ?_
  refine lv_iconst (v := 1) hx hb dL_law_740 (by decide) ?_
  refine iv_iadd hx hb ii q_1 (lo := 1) (hi := 3578) (by decide) dL_law_741 (fun y6 e_y6 i_y6 => ?_)
  refine va_sld hx hb hX hbl hbA hB.2.1 (iv_inU i_y6 (by decide) (by have w1 : y6.toInt = i.toInt + (1 : Int32).toInt := e_y6; have w2 : (1 : Int32).toInt = 1 := rfl; omega)) dL_law_742 ?_
  refine lv_topi (fun x7 e_x7 => ?_)
  have i_x7 := iv_R.all x7
  refine lv_aload_n hx hb dL_law_743 rfl (lv_at hl 1 rfl) ?_
  refine lv_iload_n hx hb dL_law_744 rfl (lv_at hl 0 rfl) ?_
  refine lv_iconst (v := 2) hx hb dL_law_745 (by decide) ?_
  refine iv_iadd hx hb ii q_2 (lo := 2) (hi := 3579) (by decide) dL_law_746 (fun y8 e_y8 i_y8 => ?_)
  refine va_sld hx hb hX hbl hbA hB.2.1 (iv_inU i_y8 (by decide) (by have w1 : y8.toInt = i.toInt + (2 : Int32).toInt := e_y8; have w2 : (2 : Int32).toInt = 2 := rfl; omega)) dL_law_747 ?_
  refine lv_topi (fun x9 e_x9 => ?_)
  have i_x9 := iv_R.all x9
  obtain ⟨g1, r1, g2, r2, a1, a2, q1, q2, hne, qf1, qf2, hnr, kn1, kp1, kn2, kp2⟩ := id hJ
  refine iv_cVi X k_good k_mf_X12_astray k_im_X12_astray k_sel_X12_astray k_ml_L_81 ft_X12 hB a2 sh_12 (As := [.int x7, .int x9]) (c_X12_astray l D tys base G5 h2 g2 r2 a2 x7 i_x7 x9 i_x9) ⟨rfl, rfl⟩ ⟨Nat.le_trans (m := 1300) (Nat.le_of_ble_eq_true rfl) hRf, Nat.le_trans (m := 26000) (Nat.le_of_ble_eq_true rfl) hRl⟩ ⟨by omega, by omega⟩ rfl rfl hl.1 (Nat.le_of_ble_eq_true rfl) dL_law_748 (fun v10 G10 H locs hq hB => ?_)
  have hJ := hJ.md hq.1
  have hW1 := hW1.K (iv_MdT.of hq.1) (by decide) (by decide)
  have hW2 := hW2.K (iv_MdT.of hq.1) (by decide) (by decide)
  have hF1 := hF1.K (iv_MdT.of hq.1) (by decide)
  have hF2 := hF2.K (iv_MdT.of hq.1) (by decide) (by decide)
  refine lv_pop hx hb dL_law_751 rfl ?_
  refine lv_goto (tgt := 1620) hx hb dL_law_752 (by decide) ?_
  refine W.widen (k := cells + 7) (n := slots + 896) (by omega) (by omega) ?_
  exact kk _ _ _ _ hB ⟨_, _, _, _, _, _, hJ, hW1, hW2, hF1, hF2⟩
theorem dL_law_755 : decode cL_law 755 = .ok (.aload_n 1, 1) := by decide +kernel
theorem dL_law_756 : decode cL_law 756 = .ok (.aload_n 0, 1) := by decide +kernel
theorem dL_law_757 : decode cL_law 757 = .ok (.iload_n 3, 1) := by decide +kernel
theorem dL_law_758 : decode cL_law 758 = .ok (.iconst 1, 1) := by decide +kernel
theorem dL_law_759 : decode cL_law 759 = .ok (.iadd, 1) := by decide +kernel
theorem dL_law_760 : decode cL_law 760 = .ok (.iaload, 1) := by decide +kernel
theorem dL_law_761 : decode cL_law 761 = .ok (.aload_n 0, 1) := by decide +kernel
theorem dL_law_762 : decode cL_law 762 = .ok (.iload_n 3, 1) := by decide +kernel
theorem dL_law_763 : decode cL_law 763 = .ok (.iconst 2, 1) := by decide +kernel
theorem dL_law_764 : decode cL_law 764 = .ok (.iadd, 1) := by decide +kernel
theorem dL_law_765 : decode cL_law 765 = .ok (.iaload, 1) := by decide +kernel
theorem dL_law_766 : decode cL_law 766 = .ok (.invokevirtual 82, 3) := by decide +kernel
theorem dL_law_769 : decode cL_law 769 = .ok (.pop, 1) := by decide +kernel
theorem dL_law_770 : decode cL_law 770 = .ok (.aload_n 2, 1) := by decide +kernel
theorem dL_law_771 : decode cL_law 771 = .ok (.aload_n 0, 1) := by decide +kernel
theorem dL_law_772 : decode cL_law 772 = .ok (.iload_n 3, 1) := by decide +kernel
theorem dL_law_773 : decode cL_law 773 = .ok (.iconst 1, 1) := by decide +kernel
theorem dL_law_774 : decode cL_law 774 = .ok (.iadd, 1) := by decide +kernel
theorem dL_law_775 : decode cL_law 775 = .ok (.iaload, 1) := by decide +kernel
theorem dL_law_776 : decode cL_law 776 = .ok (.aload_n 0, 1) := by decide +kernel
theorem dL_law_777 : decode cL_law 777 = .ok (.iload_n 3, 1) := by decide +kernel
theorem dL_law_778 : decode cL_law 778 = .ok (.iconst 2, 1) := by decide +kernel
theorem dL_law_779 : decode cL_law 779 = .ok (.iadd, 1) := by decide +kernel
theorem dL_law_780 : decode cL_law 780 = .ok (.iaload, 1) := by decide +kernel
theorem dL_law_781 : decode cL_law 781 = .ok (.invokevirtual 85, 3) := by decide +kernel
theorem dL_law_784 : decode cL_law 784 = .ok (.pop, 1) := by decide +kernel
theorem dL_law_785 : decode cL_law 785 = .ok (.goto 835, 3) := by decide +kernel
set_option maxHeartbeats 4000000 in
set_option maxRecDepth 100000 in
theorem law_c15 {p : Program} {l : Launch} {e : Env} {R : Room} {s : State} {m : MethodId} {args : Array Value} {below : List Frame} {meth : Method} {c : Code} {Q : State → Prop} {D : va_G} {tys : List (ClassId × FieldType)} {base b L : Nat} {xs : Nat → Int32} (X : iv_X p m c cL_law 4 s args iv_W0 RL D classes tys base) (hty : iv_ty tys) (hRf : 1300 ≤ R.frames) (hRl : 26000 ≤ R.locals) (hX : va_X b L xs s s.heap) (hbl : b < s.heap.size) (hbb : b < base) {h1 h2 : Nat} {t i : Int32} (ii : iv_R 0 3577 i) (hiL : i.toInt + 7 ≤ (L : Int)) {cells slots : Nat} (hRc : cells + 7 ≤ R.cells) (hRs : slots + 896 ≤ R.slots) {G : iv_G} {H : Heap} {locs : List Loc} (hB : iv_B iv_sh D classes tys base G s.heap H locs) (hJ : lw_J t t h1 h2 G) {ls : Array Slot} (hl : lv_has ls 4 [(3, .int i), (0, .ref b), (1, .ref h1), (2, .ref h2)])
    (kk : ∀ (t' : Int32) (G1 : iv_G) (H1 : Heap) (locs1 : List Loc), iv_B iv_sh D classes tys base G1 s.heap H1 locs1 → lw_J t' t' h1 h2 G1 → W p l e R s m args below meth c H1 locs1 (cells + 7) (slots + 896) Q (F0 m 1620 ls [])) : W p l e R s m args below meth c H locs cells slots Q (F0 m 755 ls []) := by
  have hx := X.1.1
  have hb := X.1.2.1
  have hbA : ¬ iv_A base b := fun q => absurd (show base ≤ b from q) (by omega)
  obtain ⟨cf, cn, cp, cW, ca, cb, hJ, hW1, hW2, hF1, hF2⟩ := hJ
  refine lv_aload_n hx hb dL_law_755 rfl (lv_at hl 2 rfl) ?_
  refine lv_aload_n hx hb dL_law_756 rfl (lv_at hl 1 rfl) ?_
  refine lv_iload_n hx hb dL_law_757 rfl (lv_at hl 0 rfl) ?_
  refine lv_iconst (v := 1) hx hb dL_law_758 (by decide) ?_
  refine iv_iadd hx hb ii q_1 (lo := 1) (hi := 3578) (by decide) dL_law_759 (fun y1 e_y1 i_y1 => ?_)
  refine va_sld hx hb hX hbl hbA hB.2.1 (iv_inU i_y1 (by decide) (by have w1 : y1.toInt = i.toInt + (1 : Int32).toInt := e_y1; have w2 : (1 : Int32).toInt = 1 := rfl; omega)) dL_law_760 ?_
  refine lv_topi (fun x2 e_x2 => ?_)
  have i_x2 := iv_R.all x2
  refine lv_aload_n hx hb dL_law_761 rfl (lv_at hl 1 rfl) ?_
  refine lv_iload_n hx hb dL_law_762 rfl (lv_at hl 0 rfl) ?_
  refine lv_iconst (v := 2) hx hb dL_law_763 (by decide) ?_
  refine iv_iadd hx hb ii q_2 (lo := 2) (hi := 3579) (by decide) dL_law_764 (fun y3 e_y3 i_y3 => ?_)
  refine va_sld hx hb hX hbl hbA hB.2.1 (iv_inU i_y3 (by decide) (by have w1 : y3.toInt = i.toInt + (2 : Int32).toInt := e_y3; have w2 : (2 : Int32).toInt = 2 := rfl; omega)) dL_law_765 ?_
  refine lv_topi (fun x4 e_x4 => ?_)
  have i_x4 := iv_R.all x4
  obtain ⟨g1, r1, g2, r2, a1, a2, q1, q2, hne, qf1, qf2, hnr, kn1, kp1, kn2, kp2⟩ := id hJ
  refine iv_cVi X k_good k_mf_X11_child k_im_X11_child k_sel_X11_child k_ml_L_82 ft_X11 hB a1 sh_11 (As := [.int x2, .int x4]) (c_X11_child l D tys base G h1 g1 r1 a1 x2 i_x2 x4 i_x4) ⟨rfl, rfl⟩ ⟨Nat.le_trans (m := 1300) (Nat.le_of_ble_eq_true rfl) hRf, Nat.le_trans (m := 26000) (Nat.le_of_ble_eq_true rfl) hRl⟩ ⟨by omega, by omega⟩ rfl rfl hl.1 (Nat.le_of_ble_eq_true rfl) dL_law_766 (fun v5 G5 H locs hq hB => ?_)
  have hJ := hJ.same hq.1
  have hW1 := lw_same hW1 hq.1
  have hW2 := lw_same hW2 hq.1
  have hF1 := lw_same hF1 hq.1
  have hF2 := lw_same hF2 hq.1
  refine lv_pop hx hb dL_law_769 rfl ?_
  refine lv_aload_n hx hb dL_law_770 rfl (lv_at hl 3 rfl) ?_
  refine lv_aload_n hx hb dL_law_771 rfl (lv_at hl 1 rfl) ?_
  refine lv_iload_n hx hb dL_law_772 rfl (lv_at hl 0 rfl) ?_
  refine lv_iconst (v := 1) hx hb dL_law_773 (by decide) ?_
  refine iv_iadd hx hb ii q_1 (lo := 1) (hi := 3578) (by decide) dL_law_774 (fun y6 e_y6 i_y6 => ?_)
  refine va_sld hx hb hX hbl hbA hB.2.1 (iv_inU i_y6 (by decide) (by have w1 : y6.toInt = i.toInt + (1 : Int32).toInt := e_y6; have w2 : (1 : Int32).toInt = 1 := rfl; omega)) dL_law_775 ?_
  refine lv_topi (fun x7 e_x7 => ?_)
  have i_x7 := iv_R.all x7
  refine lv_aload_n hx hb dL_law_776 rfl (lv_at hl 1 rfl) ?_
  refine lv_iload_n hx hb dL_law_777 rfl (lv_at hl 0 rfl) ?_
  refine lv_iconst (v := 2) hx hb dL_law_778 (by decide) ?_
  refine iv_iadd hx hb ii q_2 (lo := 2) (hi := 3579) (by decide) dL_law_779 (fun y8 e_y8 i_y8 => ?_)
  refine va_sld hx hb hX hbl hbA hB.2.1 (iv_inU i_y8 (by decide) (by have w1 : y8.toInt = i.toInt + (2 : Int32).toInt := e_y8; have w2 : (2 : Int32).toInt = 2 := rfl; omega)) dL_law_780 ?_
  refine lv_topi (fun x9 e_x9 => ?_)
  have i_x9 := iv_R.all x9
  obtain ⟨g1, r1, g2, r2, a1, a2, q1, q2, hne, qf1, qf2, hnr, kn1, kp1, kn2, kp2⟩ := id hJ
  refine iv_cVi X k_good k_mf_X12_child k_im_X12_child k_sel_X12_child k_ml_L_85 ft_X12 hB a2 sh_12 (As := [.int x7, .int x9]) (c_X12_child l D tys base G5 h2 g2 r2 a2 x7 i_x7 x9 i_x9) ⟨rfl, rfl⟩ ⟨Nat.le_trans (m := 1300) (Nat.le_of_ble_eq_true rfl) hRf, Nat.le_trans (m := 26000) (Nat.le_of_ble_eq_true rfl) hRl⟩ ⟨by omega, by omega⟩ rfl rfl hl.1 (Nat.le_of_ble_eq_true rfl) dL_law_781 (fun v10 G10 H locs hq hB => ?_)
  have hJ := hJ.same hq.1
  have hW1 := lw_same hW1 hq.1
  have hW2 := lw_same hW2 hq.1
  have hF1 := lw_same hF1 hq.1
  have hF2 := lw_same hF2 hq.1
  refine lv_pop hx hb dL_law_784 rfl ?_
  refine lv_goto (tgt := 1620) hx hb dL_law_785 (by decide) ?_
  refine W.widen (k := cells + 7) (n := slots + 896) (by omega) (by omega) ?_
  exact kk _ _ _ _ hB ⟨_, _, _, _, _, _, hJ, hW1, hW2, hF1, hF2⟩
theorem dL_law_788 : decode cL_law 788 = .ok (.aload_n 1, 1) := by decide +kernel
theorem dL_law_789 : decode cL_law 789 = .ok (.aload_n 0, 1) := by decide +kernel
theorem dL_law_790 : decode cL_law 790 = .ok (.iload_n 3, 1) := by decide +kernel
theorem dL_law_791 : decode cL_law 791 = .ok (.iconst 1, 1) := by decide +kernel
theorem dL_law_792 : decode cL_law 792 = .ok (.iadd, 1) := by decide +kernel
theorem dL_law_793 : decode cL_law 793 = .ok (.iaload, 1) := by decide +kernel
theorem dL_law_794 : decode cL_law 794 = .ok (.aload_n 0, 1) := by decide +kernel
theorem dL_law_795 : decode cL_law 795 = .ok (.iload_n 3, 1) := by decide +kernel
theorem dL_law_796 : decode cL_law 796 = .ok (.iconst 2, 1) := by decide +kernel
theorem dL_law_797 : decode cL_law 797 = .ok (.iadd, 1) := by decide +kernel
theorem dL_law_798 : decode cL_law 798 = .ok (.iaload, 1) := by decide +kernel
theorem dL_law_799 : decode cL_law 799 = .ok (.invokevirtual 86, 3) := by decide +kernel
theorem dL_law_802 : decode cL_law 802 = .ok (.pop, 1) := by decide +kernel
theorem dL_law_803 : decode cL_law 803 = .ok (.aload_n 2, 1) := by decide +kernel
theorem dL_law_804 : decode cL_law 804 = .ok (.aload_n 0, 1) := by decide +kernel
theorem dL_law_805 : decode cL_law 805 = .ok (.iload_n 3, 1) := by decide +kernel
theorem dL_law_806 : decode cL_law 806 = .ok (.iconst 1, 1) := by decide +kernel
theorem dL_law_807 : decode cL_law 807 = .ok (.iadd, 1) := by decide +kernel
theorem dL_law_808 : decode cL_law 808 = .ok (.iaload, 1) := by decide +kernel
theorem dL_law_809 : decode cL_law 809 = .ok (.aload_n 0, 1) := by decide +kernel
theorem dL_law_810 : decode cL_law 810 = .ok (.iload_n 3, 1) := by decide +kernel
theorem dL_law_811 : decode cL_law 811 = .ok (.iconst 2, 1) := by decide +kernel
theorem dL_law_812 : decode cL_law 812 = .ok (.iadd, 1) := by decide +kernel
theorem dL_law_813 : decode cL_law 813 = .ok (.iaload, 1) := by decide +kernel
theorem dL_law_814 : decode cL_law 814 = .ok (.invokevirtual 89, 3) := by decide +kernel
theorem dL_law_817 : decode cL_law 817 = .ok (.pop, 1) := by decide +kernel
theorem dL_law_818 : decode cL_law 818 = .ok (.goto 802, 3) := by decide +kernel
set_option maxHeartbeats 4000000 in
set_option maxRecDepth 100000 in
theorem law_c16 {p : Program} {l : Launch} {e : Env} {R : Room} {s : State} {m : MethodId} {args : Array Value} {below : List Frame} {meth : Method} {c : Code} {Q : State → Prop} {D : va_G} {tys : List (ClassId × FieldType)} {base b L : Nat} {xs : Nat → Int32} (X : iv_X p m c cL_law 4 s args iv_W0 RL D classes tys base) (hty : iv_ty tys) (hRf : 1300 ≤ R.frames) (hRl : 26000 ≤ R.locals) (hX : va_X b L xs s s.heap) (hbl : b < s.heap.size) (hbb : b < base) {h1 h2 : Nat} {t i : Int32} (ii : iv_R 0 3577 i) (hiL : i.toInt + 7 ≤ (L : Int)) {cells slots : Nat} (hRc : cells + 7 ≤ R.cells) (hRs : slots + 896 ≤ R.slots) {G : iv_G} {H : Heap} {locs : List Loc} (hB : iv_B iv_sh D classes tys base G s.heap H locs) (hJ : lw_J t t h1 h2 G) {ls : Array Slot} (hl : lv_has ls 4 [(3, .int i), (0, .ref b), (1, .ref h1), (2, .ref h2)])
    (kk : ∀ (t' : Int32) (G1 : iv_G) (H1 : Heap) (locs1 : List Loc), iv_B iv_sh D classes tys base G1 s.heap H1 locs1 → lw_J t' t' h1 h2 G1 → W p l e R s m args below meth c H1 locs1 (cells + 7) (slots + 896) Q (F0 m 1620 ls [])) : W p l e R s m args below meth c H locs cells slots Q (F0 m 788 ls []) := by
  have hx := X.1.1
  have hb := X.1.2.1
  have hbA : ¬ iv_A base b := fun q => absurd (show base ≤ b from q) (by omega)
  obtain ⟨cf, cn, cp, cW, ca, cb, hJ, hW1, hW2, hF1, hF2⟩ := hJ
  refine lv_aload_n hx hb dL_law_788 rfl (lv_at hl 2 rfl) ?_
  refine lv_aload_n hx hb dL_law_789 rfl (lv_at hl 1 rfl) ?_
  refine lv_iload_n hx hb dL_law_790 rfl (lv_at hl 0 rfl) ?_
  refine lv_iconst (v := 1) hx hb dL_law_791 (by decide) ?_
  refine iv_iadd hx hb ii q_1 (lo := 1) (hi := 3578) (by decide) dL_law_792 (fun y1 e_y1 i_y1 => ?_)
  refine va_sld hx hb hX hbl hbA hB.2.1 (iv_inU i_y1 (by decide) (by have w1 : y1.toInt = i.toInt + (1 : Int32).toInt := e_y1; have w2 : (1 : Int32).toInt = 1 := rfl; omega)) dL_law_793 ?_
  refine lv_topi (fun x2 e_x2 => ?_)
  have i_x2 := iv_R.all x2
  refine lv_aload_n hx hb dL_law_794 rfl (lv_at hl 1 rfl) ?_
  refine lv_iload_n hx hb dL_law_795 rfl (lv_at hl 0 rfl) ?_
  refine lv_iconst (v := 2) hx hb dL_law_796 (by decide) ?_
  refine iv_iadd hx hb ii q_2 (lo := 2) (hi := 3579) (by decide) dL_law_797 (fun y3 e_y3 i_y3 => ?_)
  refine va_sld hx hb hX hbl hbA hB.2.1 (iv_inU i_y3 (by decide) (by have w1 : y3.toInt = i.toInt + (2 : Int32).toInt := e_y3; have w2 : (2 : Int32).toInt = 2 := rfl; omega)) dL_law_798 ?_
  refine lv_topi (fun x4 e_x4 => ?_)
  have i_x4 := iv_R.all x4
  obtain ⟨g1, r1, g2, r2, a1, a2, q1, q2, hne, qf1, qf2, hnr, kn1, kp1, kn2, kp2⟩ := id hJ
  refine iv_cVi X k_good k_mf_X11_book k_im_X11_book k_sel_X11_book k_ml_L_86 ft_X11 hB a1 sh_11 (As := [.int x2, .int x4]) (c_X11_book l D tys base G h1 g1 r1 a1 x2 i_x2 x4 i_x4) ⟨rfl, rfl⟩ ⟨Nat.le_trans (m := 1300) (Nat.le_of_ble_eq_true rfl) hRf, Nat.le_trans (m := 26000) (Nat.le_of_ble_eq_true rfl) hRl⟩ ⟨by omega, by omega⟩ rfl rfl hl.1 (Nat.le_of_ble_eq_true rfl) dL_law_799 (fun v5 G5 H locs hq hB => ?_)
  have hJ := hJ.same hq.1
  have hW1 := lw_same hW1 hq.1
  have hW2 := lw_same hW2 hq.1
  have hF1 := lw_same hF1 hq.1
  have hF2 := lw_same hF2 hq.1
  refine lv_pop hx hb dL_law_802 rfl ?_
  refine lv_aload_n hx hb dL_law_803 rfl (lv_at hl 3 rfl) ?_
  refine lv_aload_n hx hb dL_law_804 rfl (lv_at hl 1 rfl) ?_
  refine lv_iload_n hx hb dL_law_805 rfl (lv_at hl 0 rfl) ?_
  refine lv_iconst (v := 1) hx hb dL_law_806 (by decide) ?_
  refine iv_iadd hx hb ii q_1 (lo := 1) (hi := 3578) (by decide) dL_law_807 (fun y6 e_y6 i_y6 => ?_)
  refine va_sld hx hb hX hbl hbA hB.2.1 (iv_inU i_y6 (by decide) (by have w1 : y6.toInt = i.toInt + (1 : Int32).toInt := e_y6; have w2 : (1 : Int32).toInt = 1 := rfl; omega)) dL_law_808 ?_
  refine lv_topi (fun x7 e_x7 => ?_)
  have i_x7 := iv_R.all x7
  refine lv_aload_n hx hb dL_law_809 rfl (lv_at hl 1 rfl) ?_
  refine lv_iload_n hx hb dL_law_810 rfl (lv_at hl 0 rfl) ?_
  refine lv_iconst (v := 2) hx hb dL_law_811 (by decide) ?_
  refine iv_iadd hx hb ii q_2 (lo := 2) (hi := 3579) (by decide) dL_law_812 (fun y8 e_y8 i_y8 => ?_)
  refine va_sld hx hb hX hbl hbA hB.2.1 (iv_inU i_y8 (by decide) (by have w1 : y8.toInt = i.toInt + (2 : Int32).toInt := e_y8; have w2 : (2 : Int32).toInt = 2 := rfl; omega)) dL_law_813 ?_
  refine lv_topi (fun x9 e_x9 => ?_)
  have i_x9 := iv_R.all x9
  obtain ⟨g1, r1, g2, r2, a1, a2, q1, q2, hne, qf1, qf2, hnr, kn1, kp1, kn2, kp2⟩ := id hJ
  refine iv_cVi X k_good k_mf_X12_book k_im_X12_book k_sel_X12_book k_ml_L_89 ft_X12 hB a2 sh_12 (As := [.int x7, .int x9]) (c_X12_book l D tys base G5 h2 g2 r2 a2 x7 i_x7 x9 i_x9) ⟨rfl, rfl⟩ ⟨Nat.le_trans (m := 1300) (Nat.le_of_ble_eq_true rfl) hRf, Nat.le_trans (m := 26000) (Nat.le_of_ble_eq_true rfl) hRl⟩ ⟨by omega, by omega⟩ rfl rfl hl.1 (Nat.le_of_ble_eq_true rfl) dL_law_814 (fun v10 G10 H locs hq hB => ?_)
  have hJ := hJ.same hq.1
  have hW1 := lw_same hW1 hq.1
  have hW2 := lw_same hW2 hq.1
  have hF1 := lw_same hF1 hq.1
  have hF2 := lw_same hF2 hq.1
  refine lv_pop hx hb dL_law_817 rfl ?_
  refine lv_goto (tgt := 1620) hx hb dL_law_818 (by decide) ?_
  refine W.widen (k := cells + 7) (n := slots + 896) (by omega) (by omega) ?_
  exact kk _ _ _ _ hB ⟨_, _, _, _, _, _, hJ, hW1, hW2, hF1, hF2⟩
theorem dL_law_821 : decode cL_law 821 = .ok (.aload_n 1, 1) := by decide +kernel
theorem dL_law_822 : decode cL_law 822 = .ok (.aload_n 0, 1) := by decide +kernel
theorem dL_law_823 : decode cL_law 823 = .ok (.iload_n 3, 1) := by decide +kernel
theorem dL_law_824 : decode cL_law 824 = .ok (.iconst 1, 1) := by decide +kernel
theorem dL_law_825 : decode cL_law 825 = .ok (.iadd, 1) := by decide +kernel
theorem dL_law_826 : decode cL_law 826 = .ok (.iaload, 1) := by decide +kernel
theorem dL_law_827 : decode cL_law 827 = .ok (.aload_n 0, 1) := by decide +kernel
theorem dL_law_828 : decode cL_law 828 = .ok (.iload_n 3, 1) := by decide +kernel
theorem dL_law_829 : decode cL_law 829 = .ok (.iconst 2, 1) := by decide +kernel
theorem dL_law_830 : decode cL_law 830 = .ok (.iadd, 1) := by decide +kernel
theorem dL_law_831 : decode cL_law 831 = .ok (.iaload, 1) := by decide +kernel
theorem dL_law_832 : decode cL_law 832 = .ok (.aload_n 0, 1) := by decide +kernel
theorem dL_law_833 : decode cL_law 833 = .ok (.iload_n 3, 1) := by decide +kernel
theorem dL_law_834 : decode cL_law 834 = .ok (.iconst 3, 1) := by decide +kernel
theorem dL_law_835 : decode cL_law 835 = .ok (.iadd, 1) := by decide +kernel
theorem dL_law_836 : decode cL_law 836 = .ok (.iaload, 1) := by decide +kernel
theorem dL_law_837 : decode cL_law 837 = .ok (.invokevirtual 90, 3) := by decide +kernel
theorem dL_law_840 : decode cL_law 840 = .ok (.pop, 1) := by decide +kernel
theorem dL_law_841 : decode cL_law 841 = .ok (.aload_n 2, 1) := by decide +kernel
theorem dL_law_842 : decode cL_law 842 = .ok (.aload_n 0, 1) := by decide +kernel
theorem dL_law_843 : decode cL_law 843 = .ok (.iload_n 3, 1) := by decide +kernel
theorem dL_law_844 : decode cL_law 844 = .ok (.iconst 1, 1) := by decide +kernel
theorem dL_law_845 : decode cL_law 845 = .ok (.iadd, 1) := by decide +kernel
theorem dL_law_846 : decode cL_law 846 = .ok (.iaload, 1) := by decide +kernel
theorem dL_law_847 : decode cL_law 847 = .ok (.aload_n 0, 1) := by decide +kernel
theorem dL_law_848 : decode cL_law 848 = .ok (.iload_n 3, 1) := by decide +kernel
theorem dL_law_849 : decode cL_law 849 = .ok (.iconst 2, 1) := by decide +kernel
theorem dL_law_850 : decode cL_law 850 = .ok (.iadd, 1) := by decide +kernel
theorem dL_law_851 : decode cL_law 851 = .ok (.iaload, 1) := by decide +kernel
theorem dL_law_852 : decode cL_law 852 = .ok (.aload_n 0, 1) := by decide +kernel
theorem dL_law_853 : decode cL_law 853 = .ok (.iload_n 3, 1) := by decide +kernel
theorem dL_law_854 : decode cL_law 854 = .ok (.iconst 3, 1) := by decide +kernel
theorem dL_law_855 : decode cL_law 855 = .ok (.iadd, 1) := by decide +kernel
theorem dL_law_856 : decode cL_law 856 = .ok (.iaload, 1) := by decide +kernel
theorem dL_law_857 : decode cL_law 857 = .ok (.invokevirtual 93, 3) := by decide +kernel
theorem dL_law_860 : decode cL_law 860 = .ok (.pop, 1) := by decide +kernel
theorem dL_law_861 : decode cL_law 861 = .ok (.goto 759, 3) := by decide +kernel
set_option maxHeartbeats 4000000 in
set_option maxRecDepth 100000 in
theorem law_c17 {p : Program} {l : Launch} {e : Env} {R : Room} {s : State} {m : MethodId} {args : Array Value} {below : List Frame} {meth : Method} {c : Code} {Q : State → Prop} {D : va_G} {tys : List (ClassId × FieldType)} {base b L : Nat} {xs : Nat → Int32} (X : iv_X p m c cL_law 4 s args iv_W0 RL D classes tys base) (hty : iv_ty tys) (hRf : 1300 ≤ R.frames) (hRl : 26000 ≤ R.locals) (hX : va_X b L xs s s.heap) (hbl : b < s.heap.size) (hbb : b < base) {h1 h2 : Nat} {t i : Int32} (ii : iv_R 0 3577 i) (hiL : i.toInt + 7 ≤ (L : Int)) {cells slots : Nat} (hRc : cells + 7 ≤ R.cells) (hRs : slots + 896 ≤ R.slots) {G : iv_G} {H : Heap} {locs : List Loc} (hB : iv_B iv_sh D classes tys base G s.heap H locs) (hJ : lw_J t t h1 h2 G) {ls : Array Slot} (hl : lv_has ls 4 [(3, .int i), (0, .ref b), (1, .ref h1), (2, .ref h2)])
    (kk : ∀ (t' : Int32) (G1 : iv_G) (H1 : Heap) (locs1 : List Loc), iv_B iv_sh D classes tys base G1 s.heap H1 locs1 → lw_J t' t' h1 h2 G1 → W p l e R s m args below meth c H1 locs1 (cells + 7) (slots + 896) Q (F0 m 1620 ls [])) : W p l e R s m args below meth c H locs cells slots Q (F0 m 821 ls []) := by
  have hx := X.1.1
  have hb := X.1.2.1
  have hbA : ¬ iv_A base b := fun q => absurd (show base ≤ b from q) (by omega)
  obtain ⟨cf, cn, cp, cW, ca, cb, hJ, hW1, hW2, hF1, hF2⟩ := hJ
  refine lv_aload_n hx hb dL_law_821 rfl (lv_at hl 2 rfl) ?_
  refine lv_aload_n hx hb dL_law_822 rfl (lv_at hl 1 rfl) ?_
  refine lv_iload_n hx hb dL_law_823 rfl (lv_at hl 0 rfl) ?_
  refine lv_iconst (v := 1) hx hb dL_law_824 (by decide) ?_
  refine iv_iadd hx hb ii q_1 (lo := 1) (hi := 3578) (by decide) dL_law_825 (fun y1 e_y1 i_y1 => ?_)
  refine va_sld hx hb hX hbl hbA hB.2.1 (iv_inU i_y1 (by decide) (by have w1 : y1.toInt = i.toInt + (1 : Int32).toInt := e_y1; have w2 : (1 : Int32).toInt = 1 := rfl; omega)) dL_law_826 ?_
  refine lv_topi (fun x2 e_x2 => ?_)
  have i_x2 := iv_R.all x2
  refine lv_aload_n hx hb dL_law_827 rfl (lv_at hl 1 rfl) ?_
  refine lv_iload_n hx hb dL_law_828 rfl (lv_at hl 0 rfl) ?_
  refine lv_iconst (v := 2) hx hb dL_law_829 (by decide) ?_
  refine iv_iadd hx hb ii q_2 (lo := 2) (hi := 3579) (by decide) dL_law_830 (fun y3 e_y3 i_y3 => ?_)
  refine va_sld hx hb hX hbl hbA hB.2.1 (iv_inU i_y3 (by decide) (by have w1 : y3.toInt = i.toInt + (2 : Int32).toInt := e_y3; have w2 : (2 : Int32).toInt = 2 := rfl; omega)) dL_law_831 ?_
  refine lv_topi (fun x4 e_x4 => ?_)
  have i_x4 := iv_R.all x4
  refine lv_aload_n hx hb dL_law_832 rfl (lv_at hl 1 rfl) ?_
  refine lv_iload_n hx hb dL_law_833 rfl (lv_at hl 0 rfl) ?_
  refine lv_iconst (v := 3) hx hb dL_law_834 (by decide) ?_
  refine iv_iadd hx hb ii q_3 (lo := 3) (hi := 3580) (by decide) dL_law_835 (fun y5 e_y5 i_y5 => ?_)
  refine va_sld hx hb hX hbl hbA hB.2.1 (iv_inU i_y5 (by decide) (by have w1 : y5.toInt = i.toInt + (3 : Int32).toInt := e_y5; have w2 : (3 : Int32).toInt = 3 := rfl; omega)) dL_law_836 ?_
  refine lv_topi (fun x6 e_x6 => ?_)
  have i_x6 := iv_R.all x6
  obtain ⟨g1, r1, g2, r2, a1, a2, q1, q2, hne, qf1, qf2, hnr, kn1, kp1, kn2, kp2⟩ := id hJ
  refine iv_cVi X k_good k_mf_X11_heard k_im_X11_heard k_sel_X11_heard k_ml_L_90 ft_X11 hB a1 sh_11 (As := [.int x2, .int x4, .int x6]) (c_X11_heard l D tys base G h1 g1 r1 a1 x2 i_x2 x4 i_x4 x6 i_x6) ⟨rfl, rfl⟩ ⟨Nat.le_trans (m := 1300) (Nat.le_of_ble_eq_true rfl) hRf, Nat.le_trans (m := 26000) (Nat.le_of_ble_eq_true rfl) hRl⟩ ⟨by omega, by omega⟩ rfl rfl hl.1 (Nat.le_of_ble_eq_true rfl) dL_law_837 (fun v7 G7 H locs hq hB => ?_)
  have hJ := hJ.md hq.1
  have hW1 := hW1.K (iv_MdT.of hq.1) (by decide) (by decide)
  have hW2 := hW2.K (iv_MdT.of hq.1) (by decide) (by decide)
  have hF1 := hF1.K (iv_MdT.of hq.1) (by decide)
  have hF2 := hF2.K (iv_MdT.of hq.1) (by decide) (by decide)
  refine lv_pop hx hb dL_law_840 rfl ?_
  refine lv_aload_n hx hb dL_law_841 rfl (lv_at hl 3 rfl) ?_
  refine lv_aload_n hx hb dL_law_842 rfl (lv_at hl 1 rfl) ?_
  refine lv_iload_n hx hb dL_law_843 rfl (lv_at hl 0 rfl) ?_
  refine lv_iconst (v := 1) hx hb dL_law_844 (by decide) ?_
  refine iv_iadd hx hb ii q_1 (lo := 1) (hi := 3578) (by decide) dL_law_845 (fun y8 e_y8 i_y8 => ?_)
  refine va_sld hx hb hX hbl hbA hB.2.1 (iv_inU i_y8 (by decide) (by have w1 : y8.toInt = i.toInt + (1 : Int32).toInt := e_y8; have w2 : (1 : Int32).toInt = 1 := rfl; omega)) dL_law_846 ?_
  refine lv_topi (fun x9 e_x9 => ?_)
  have i_x9 := iv_R.all x9
  refine lv_aload_n hx hb dL_law_847 rfl (lv_at hl 1 rfl) ?_
  refine lv_iload_n hx hb dL_law_848 rfl (lv_at hl 0 rfl) ?_
  refine lv_iconst (v := 2) hx hb dL_law_849 (by decide) ?_
  refine iv_iadd hx hb ii q_2 (lo := 2) (hi := 3579) (by decide) dL_law_850 (fun y10 e_y10 i_y10 => ?_)
  refine va_sld hx hb hX hbl hbA hB.2.1 (iv_inU i_y10 (by decide) (by have w1 : y10.toInt = i.toInt + (2 : Int32).toInt := e_y10; have w2 : (2 : Int32).toInt = 2 := rfl; omega)) dL_law_851 ?_
  refine lv_topi (fun x11 e_x11 => ?_)
  have i_x11 := iv_R.all x11
  refine lv_aload_n hx hb dL_law_852 rfl (lv_at hl 1 rfl) ?_
  refine lv_iload_n hx hb dL_law_853 rfl (lv_at hl 0 rfl) ?_
  refine lv_iconst (v := 3) hx hb dL_law_854 (by decide) ?_
  refine iv_iadd hx hb ii q_3 (lo := 3) (hi := 3580) (by decide) dL_law_855 (fun y12 e_y12 i_y12 => ?_)
  refine va_sld hx hb hX hbl hbA hB.2.1 (iv_inU i_y12 (by decide) (by have w1 : y12.toInt = i.toInt + (3 : Int32).toInt := e_y12; have w2 : (3 : Int32).toInt = 3 := rfl; omega)) dL_law_856 ?_
  refine lv_topi (fun x13 e_x13 => ?_)
  have i_x13 := iv_R.all x13
  obtain ⟨g1, r1, g2, r2, a1, a2, q1, q2, hne, qf1, qf2, hnr, kn1, kp1, kn2, kp2⟩ := id hJ
  refine iv_cVi X k_good k_mf_X12_heard k_im_X12_heard k_sel_X12_heard k_ml_L_93 ft_X12 hB a2 sh_12 (As := [.int x9, .int x11, .int x13]) (c_X12_heard l D tys base G7 h2 g2 r2 a2 x9 i_x9 x11 i_x11 x13 i_x13) ⟨rfl, rfl⟩ ⟨Nat.le_trans (m := 1300) (Nat.le_of_ble_eq_true rfl) hRf, Nat.le_trans (m := 26000) (Nat.le_of_ble_eq_true rfl) hRl⟩ ⟨by omega, by omega⟩ rfl rfl hl.1 (Nat.le_of_ble_eq_true rfl) dL_law_857 (fun v14 G14 H locs hq hB => ?_)
  have hJ := hJ.md hq.1
  have hW1 := hW1.K (iv_MdT.of hq.1) (by decide) (by decide)
  have hW2 := hW2.K (iv_MdT.of hq.1) (by decide) (by decide)
  have hF1 := hF1.K (iv_MdT.of hq.1) (by decide)
  have hF2 := hF2.K (iv_MdT.of hq.1) (by decide) (by decide)
  refine lv_pop hx hb dL_law_860 rfl ?_
  refine lv_goto (tgt := 1620) hx hb dL_law_861 (by decide) ?_
  refine W.widen (k := cells + 7) (n := slots + 896) (by omega) (by omega) ?_
  exact kk _ _ _ _ hB ⟨_, _, _, _, _, _, hJ, hW1, hW2, hF1, hF2⟩
theorem dL_law_864 : decode cL_law 864 = .ok (.aload_n 1, 1) := by decide +kernel
theorem dL_law_865 : decode cL_law 865 = .ok (.aload_n 0, 1) := by decide +kernel
theorem dL_law_866 : decode cL_law 866 = .ok (.iload_n 3, 1) := by decide +kernel
theorem dL_law_867 : decode cL_law 867 = .ok (.iconst 1, 1) := by decide +kernel
theorem dL_law_868 : decode cL_law 868 = .ok (.iadd, 1) := by decide +kernel
theorem dL_law_869 : decode cL_law 869 = .ok (.iaload, 1) := by decide +kernel
theorem dL_law_870 : decode cL_law 870 = .ok (.invokevirtual 94, 3) := by decide +kernel
theorem dL_law_873 : decode cL_law 873 = .ok (.pop, 1) := by decide +kernel
theorem dL_law_874 : decode cL_law 874 = .ok (.aload_n 2, 1) := by decide +kernel
theorem dL_law_875 : decode cL_law 875 = .ok (.aload_n 0, 1) := by decide +kernel
theorem dL_law_876 : decode cL_law 876 = .ok (.iload_n 3, 1) := by decide +kernel
theorem dL_law_877 : decode cL_law 877 = .ok (.iconst 1, 1) := by decide +kernel
theorem dL_law_878 : decode cL_law 878 = .ok (.iadd, 1) := by decide +kernel
theorem dL_law_879 : decode cL_law 879 = .ok (.iaload, 1) := by decide +kernel
theorem dL_law_880 : decode cL_law 880 = .ok (.invokevirtual 97, 3) := by decide +kernel
theorem dL_law_883 : decode cL_law 883 = .ok (.pop, 1) := by decide +kernel
theorem dL_law_884 : decode cL_law 884 = .ok (.goto 736, 3) := by decide +kernel
set_option maxHeartbeats 4000000 in
set_option maxRecDepth 100000 in
theorem law_c18 {p : Program} {l : Launch} {e : Env} {R : Room} {s : State} {m : MethodId} {args : Array Value} {below : List Frame} {meth : Method} {c : Code} {Q : State → Prop} {D : va_G} {tys : List (ClassId × FieldType)} {base b L : Nat} {xs : Nat → Int32} (X : iv_X p m c cL_law 4 s args iv_W0 RL D classes tys base) (hty : iv_ty tys) (hRf : 1300 ≤ R.frames) (hRl : 26000 ≤ R.locals) (hX : va_X b L xs s s.heap) (hbl : b < s.heap.size) (hbb : b < base) {h1 h2 : Nat} {t i : Int32} (ii : iv_R 0 3577 i) (hiL : i.toInt + 7 ≤ (L : Int)) {cells slots : Nat} (hRc : cells + 7 ≤ R.cells) (hRs : slots + 896 ≤ R.slots) {G : iv_G} {H : Heap} {locs : List Loc} (hB : iv_B iv_sh D classes tys base G s.heap H locs) (hJ : lw_J t t h1 h2 G) {ls : Array Slot} (hl : lv_has ls 4 [(3, .int i), (0, .ref b), (1, .ref h1), (2, .ref h2)])
    (kk : ∀ (t' : Int32) (G1 : iv_G) (H1 : Heap) (locs1 : List Loc), iv_B iv_sh D classes tys base G1 s.heap H1 locs1 → lw_J t' t' h1 h2 G1 → W p l e R s m args below meth c H1 locs1 (cells + 7) (slots + 896) Q (F0 m 1620 ls [])) : W p l e R s m args below meth c H locs cells slots Q (F0 m 864 ls []) := by
  have hx := X.1.1
  have hb := X.1.2.1
  have hbA : ¬ iv_A base b := fun q => absurd (show base ≤ b from q) (by omega)
  obtain ⟨cf, cn, cp, cW, ca, cb, hJ, hW1, hW2, hF1, hF2⟩ := hJ
  refine lv_aload_n hx hb dL_law_864 rfl (lv_at hl 2 rfl) ?_
  refine lv_aload_n hx hb dL_law_865 rfl (lv_at hl 1 rfl) ?_
  refine lv_iload_n hx hb dL_law_866 rfl (lv_at hl 0 rfl) ?_
  refine lv_iconst (v := 1) hx hb dL_law_867 (by decide) ?_
  refine iv_iadd hx hb ii q_1 (lo := 1) (hi := 3578) (by decide) dL_law_868 (fun y1 e_y1 i_y1 => ?_)
  refine va_sld hx hb hX hbl hbA hB.2.1 (iv_inU i_y1 (by decide) (by have w1 : y1.toInt = i.toInt + (1 : Int32).toInt := e_y1; have w2 : (1 : Int32).toInt = 1 := rfl; omega)) dL_law_869 ?_
  refine lv_topi (fun x2 e_x2 => ?_)
  have i_x2 := iv_R.all x2
  obtain ⟨g1, r1, g2, r2, a1, a2, q1, q2, hne, qf1, qf2, hnr, kn1, kp1, kn2, kp2⟩ := id hJ
  refine iv_cVi X k_good k_mf_X11_silence k_im_X11_silence k_sel_X11_silence k_ml_L_94 ft_X11 hB a1 sh_11 (As := [.int x2]) (c_X11_silence l D tys base G h1 g1 r1 a1 x2 i_x2) ⟨rfl, rfl⟩ ⟨Nat.le_trans (m := 1300) (Nat.le_of_ble_eq_true rfl) hRf, Nat.le_trans (m := 26000) (Nat.le_of_ble_eq_true rfl) hRl⟩ ⟨by omega, by omega⟩ rfl rfl hl.1 (Nat.le_of_ble_eq_true rfl) dL_law_870 (fun v3 G3 H locs hq hB => ?_)
  have hJ := hJ.same hq.1
  have hW1 := lw_same hW1 hq.1
  have hW2 := lw_same hW2 hq.1
  have hF1 := lw_same hF1 hq.1
  have hF2 := lw_same hF2 hq.1
  refine lv_pop hx hb dL_law_873 rfl ?_
  refine lv_aload_n hx hb dL_law_874 rfl (lv_at hl 3 rfl) ?_
  refine lv_aload_n hx hb dL_law_875 rfl (lv_at hl 1 rfl) ?_
  refine lv_iload_n hx hb dL_law_876 rfl (lv_at hl 0 rfl) ?_
  refine lv_iconst (v := 1) hx hb dL_law_877 (by decide) ?_
  refine iv_iadd hx hb ii q_1 (lo := 1) (hi := 3578) (by decide) dL_law_878 (fun y4 e_y4 i_y4 => ?_)
  refine va_sld hx hb hX hbl hbA hB.2.1 (iv_inU i_y4 (by decide) (by have w1 : y4.toInt = i.toInt + (1 : Int32).toInt := e_y4; have w2 : (1 : Int32).toInt = 1 := rfl; omega)) dL_law_879 ?_
  refine lv_topi (fun x5 e_x5 => ?_)
  have i_x5 := iv_R.all x5
  obtain ⟨g1, r1, g2, r2, a1, a2, q1, q2, hne, qf1, qf2, hnr, kn1, kp1, kn2, kp2⟩ := id hJ
  refine iv_cVi X k_good k_mf_X12_silence k_im_X12_silence k_sel_X12_silence k_ml_L_97 ft_X12 hB a2 sh_12 (As := [.int x5]) (c_X12_silence l D tys base G3 h2 g2 r2 a2 x5 i_x5) ⟨rfl, rfl⟩ ⟨Nat.le_trans (m := 1300) (Nat.le_of_ble_eq_true rfl) hRf, Nat.le_trans (m := 26000) (Nat.le_of_ble_eq_true rfl) hRl⟩ ⟨by omega, by omega⟩ rfl rfl hl.1 (Nat.le_of_ble_eq_true rfl) dL_law_880 (fun v6 G6 H locs hq hB => ?_)
  have hJ := hJ.same hq.1
  have hW1 := lw_same hW1 hq.1
  have hW2 := lw_same hW2 hq.1
  have hF1 := lw_same hF1 hq.1
  have hF2 := lw_same hF2 hq.1
  refine lv_pop hx hb dL_law_883 rfl ?_
  refine lv_goto (tgt := 1620) hx hb dL_law_884 (by decide) ?_
  refine W.widen (k := cells + 7) (n := slots + 896) (by omega) (by omega) ?_
  exact kk _ _ _ _ hB ⟨_, _, _, _, _, _, hJ, hW1, hW2, hF1, hF2⟩
theorem dL_law_887 : decode cL_law 887 = .ok (.aload_n 1, 1) := by decide +kernel
theorem dL_law_888 : decode cL_law 888 = .ok (.aload_n 0, 1) := by decide +kernel
theorem dL_law_889 : decode cL_law 889 = .ok (.iload_n 3, 1) := by decide +kernel
theorem dL_law_890 : decode cL_law 890 = .ok (.iconst 1, 1) := by decide +kernel
theorem dL_law_891 : decode cL_law 891 = .ok (.iadd, 1) := by decide +kernel
theorem dL_law_892 : decode cL_law 892 = .ok (.iaload, 1) := by decide +kernel
theorem dL_law_893 : decode cL_law 893 = .ok (.aload_n 0, 1) := by decide +kernel
theorem dL_law_894 : decode cL_law 894 = .ok (.iload_n 3, 1) := by decide +kernel
theorem dL_law_895 : decode cL_law 895 = .ok (.iconst 2, 1) := by decide +kernel
theorem dL_law_896 : decode cL_law 896 = .ok (.iadd, 1) := by decide +kernel
theorem dL_law_897 : decode cL_law 897 = .ok (.iaload, 1) := by decide +kernel
theorem dL_law_898 : decode cL_law 898 = .ok (.invokevirtual 98, 3) := by decide +kernel
theorem dL_law_901 : decode cL_law 901 = .ok (.pop, 1) := by decide +kernel
theorem dL_law_902 : decode cL_law 902 = .ok (.aload_n 2, 1) := by decide +kernel
theorem dL_law_903 : decode cL_law 903 = .ok (.aload_n 0, 1) := by decide +kernel
theorem dL_law_904 : decode cL_law 904 = .ok (.iload_n 3, 1) := by decide +kernel
theorem dL_law_905 : decode cL_law 905 = .ok (.iconst 1, 1) := by decide +kernel
theorem dL_law_906 : decode cL_law 906 = .ok (.iadd, 1) := by decide +kernel
theorem dL_law_907 : decode cL_law 907 = .ok (.iaload, 1) := by decide +kernel
theorem dL_law_908 : decode cL_law 908 = .ok (.aload_n 0, 1) := by decide +kernel
theorem dL_law_909 : decode cL_law 909 = .ok (.iload_n 3, 1) := by decide +kernel
theorem dL_law_910 : decode cL_law 910 = .ok (.iconst 2, 1) := by decide +kernel
theorem dL_law_911 : decode cL_law 911 = .ok (.iadd, 1) := by decide +kernel
theorem dL_law_912 : decode cL_law 912 = .ok (.iaload, 1) := by decide +kernel
theorem dL_law_913 : decode cL_law 913 = .ok (.invokevirtual 101, 3) := by decide +kernel
theorem dL_law_916 : decode cL_law 916 = .ok (.pop, 1) := by decide +kernel
theorem dL_law_917 : decode cL_law 917 = .ok (.goto 703, 3) := by decide +kernel
set_option maxHeartbeats 4000000 in
set_option maxRecDepth 100000 in
theorem law_c19 {p : Program} {l : Launch} {e : Env} {R : Room} {s : State} {m : MethodId} {args : Array Value} {below : List Frame} {meth : Method} {c : Code} {Q : State → Prop} {D : va_G} {tys : List (ClassId × FieldType)} {base b L : Nat} {xs : Nat → Int32} (X : iv_X p m c cL_law 4 s args iv_W0 RL D classes tys base) (hty : iv_ty tys) (hRf : 1300 ≤ R.frames) (hRl : 26000 ≤ R.locals) (hX : va_X b L xs s s.heap) (hbl : b < s.heap.size) (hbb : b < base) {h1 h2 : Nat} {t i : Int32} (ii : iv_R 0 3577 i) (hiL : i.toInt + 7 ≤ (L : Int)) {cells slots : Nat} (hRc : cells + 7 ≤ R.cells) (hRs : slots + 896 ≤ R.slots) {G : iv_G} {H : Heap} {locs : List Loc} (hB : iv_B iv_sh D classes tys base G s.heap H locs) (hJ : lw_J t t h1 h2 G) {ls : Array Slot} (hl : lv_has ls 4 [(3, .int i), (0, .ref b), (1, .ref h1), (2, .ref h2)])
    (kk : ∀ (t' : Int32) (G1 : iv_G) (H1 : Heap) (locs1 : List Loc), iv_B iv_sh D classes tys base G1 s.heap H1 locs1 → lw_J t' t' h1 h2 G1 → W p l e R s m args below meth c H1 locs1 (cells + 7) (slots + 896) Q (F0 m 1620 ls [])) : W p l e R s m args below meth c H locs cells slots Q (F0 m 887 ls []) := by
  have hx := X.1.1
  have hb := X.1.2.1
  have hbA : ¬ iv_A base b := fun q => absurd (show base ≤ b from q) (by omega)
  obtain ⟨cf, cn, cp, cW, ca, cb, hJ, hW1, hW2, hF1, hF2⟩ := hJ
  refine lv_aload_n hx hb dL_law_887 rfl (lv_at hl 2 rfl) ?_
  refine lv_aload_n hx hb dL_law_888 rfl (lv_at hl 1 rfl) ?_
  refine lv_iload_n hx hb dL_law_889 rfl (lv_at hl 0 rfl) ?_
  refine lv_iconst (v := 1) hx hb dL_law_890 (by decide) ?_
  refine iv_iadd hx hb ii q_1 (lo := 1) (hi := 3578) (by decide) dL_law_891 (fun y1 e_y1 i_y1 => ?_)
  refine va_sld hx hb hX hbl hbA hB.2.1 (iv_inU i_y1 (by decide) (by have w1 : y1.toInt = i.toInt + (1 : Int32).toInt := e_y1; have w2 : (1 : Int32).toInt = 1 := rfl; omega)) dL_law_892 ?_
  refine lv_topi (fun x2 e_x2 => ?_)
  have i_x2 := iv_R.all x2
  refine lv_aload_n hx hb dL_law_893 rfl (lv_at hl 1 rfl) ?_
  refine lv_iload_n hx hb dL_law_894 rfl (lv_at hl 0 rfl) ?_
  refine lv_iconst (v := 2) hx hb dL_law_895 (by decide) ?_
  refine iv_iadd hx hb ii q_2 (lo := 2) (hi := 3579) (by decide) dL_law_896 (fun y3 e_y3 i_y3 => ?_)
  refine va_sld hx hb hX hbl hbA hB.2.1 (iv_inU i_y3 (by decide) (by have w1 : y3.toInt = i.toInt + (2 : Int32).toInt := e_y3; have w2 : (2 : Int32).toInt = 2 := rfl; omega)) dL_law_897 ?_
  refine lv_topi (fun x4 e_x4 => ?_)
  have i_x4 := iv_R.all x4
  obtain ⟨g1, r1, g2, r2, a1, a2, q1, q2, hne, qf1, qf2, hnr, kn1, kp1, kn2, kp2⟩ := id hJ
  refine iv_cVi X k_good k_mf_X11_rows k_im_X11_rows k_sel_X11_rows k_ml_L_98 ft_X11 hB a1 sh_11 (As := [.int x2, .int x4]) (c_X11_rows l D tys base G h1 g1 r1 a1 x2 i_x2 x4 i_x4) ⟨rfl, rfl⟩ ⟨Nat.le_trans (m := 1300) (Nat.le_of_ble_eq_true rfl) hRf, Nat.le_trans (m := 26000) (Nat.le_of_ble_eq_true rfl) hRl⟩ ⟨by omega, by omega⟩ rfl rfl hl.1 (Nat.le_of_ble_eq_true rfl) dL_law_898 (fun v5 G5 H locs hq hB => ?_)
  have hJ := hJ.md hq.1
  have hW1 := hW1.K (iv_MdT.of hq.1) (by decide) (by decide)
  have hW2 := hW2.K (iv_MdT.of hq.1) (by decide) (by decide)
  have hF1 := hF1.K (iv_MdT.of hq.1) (by decide)
  have hF2 := hF2.K (iv_MdT.of hq.1) (by decide) (by decide)
  refine lv_pop hx hb dL_law_901 rfl ?_
  refine lv_aload_n hx hb dL_law_902 rfl (lv_at hl 3 rfl) ?_
  refine lv_aload_n hx hb dL_law_903 rfl (lv_at hl 1 rfl) ?_
  refine lv_iload_n hx hb dL_law_904 rfl (lv_at hl 0 rfl) ?_
  refine lv_iconst (v := 1) hx hb dL_law_905 (by decide) ?_
  refine iv_iadd hx hb ii q_1 (lo := 1) (hi := 3578) (by decide) dL_law_906 (fun y6 e_y6 i_y6 => ?_)
  refine va_sld hx hb hX hbl hbA hB.2.1 (iv_inU i_y6 (by decide) (by have w1 : y6.toInt = i.toInt + (1 : Int32).toInt := e_y6; have w2 : (1 : Int32).toInt = 1 := rfl; omega)) dL_law_907 ?_
  refine lv_topi (fun x7 e_x7 => ?_)
  have i_x7 := iv_R.all x7
  refine lv_aload_n hx hb dL_law_908 rfl (lv_at hl 1 rfl) ?_
  refine lv_iload_n hx hb dL_law_909 rfl (lv_at hl 0 rfl) ?_
  refine lv_iconst (v := 2) hx hb dL_law_910 (by decide) ?_
  refine iv_iadd hx hb ii q_2 (lo := 2) (hi := 3579) (by decide) dL_law_911 (fun y8 e_y8 i_y8 => ?_)
  refine va_sld hx hb hX hbl hbA hB.2.1 (iv_inU i_y8 (by decide) (by have w1 : y8.toInt = i.toInt + (2 : Int32).toInt := e_y8; have w2 : (2 : Int32).toInt = 2 := rfl; omega)) dL_law_912 ?_
  refine lv_topi (fun x9 e_x9 => ?_)
  have i_x9 := iv_R.all x9
  obtain ⟨g1, r1, g2, r2, a1, a2, q1, q2, hne, qf1, qf2, hnr, kn1, kp1, kn2, kp2⟩ := id hJ
  refine iv_cVi X k_good k_mf_X12_rows k_im_X12_rows k_sel_X12_rows k_ml_L_101 ft_X12 hB a2 sh_12 (As := [.int x7, .int x9]) (c_X12_rows l D tys base G5 h2 g2 r2 a2 x7 i_x7 x9 i_x9) ⟨rfl, rfl⟩ ⟨Nat.le_trans (m := 1300) (Nat.le_of_ble_eq_true rfl) hRf, Nat.le_trans (m := 26000) (Nat.le_of_ble_eq_true rfl) hRl⟩ ⟨by omega, by omega⟩ rfl rfl hl.1 (Nat.le_of_ble_eq_true rfl) dL_law_913 (fun v10 G10 H locs hq hB => ?_)
  have hJ := hJ.md hq.1
  have hW1 := hW1.K (iv_MdT.of hq.1) (by decide) (by decide)
  have hW2 := hW2.K (iv_MdT.of hq.1) (by decide) (by decide)
  have hF1 := hF1.K (iv_MdT.of hq.1) (by decide)
  have hF2 := hF2.K (iv_MdT.of hq.1) (by decide) (by decide)
  refine lv_pop hx hb dL_law_916 rfl ?_
  refine lv_goto (tgt := 1620) hx hb dL_law_917 (by decide) ?_
  refine W.widen (k := cells + 7) (n := slots + 896) (by omega) (by omega) ?_
  exact kk _ _ _ _ hB ⟨_, _, _, _, _, _, hJ, hW1, hW2, hF1, hF2⟩
theorem dL_law_920 : decode cL_law 920 = .ok (.aload_n 1, 1) := by decide +kernel
theorem dL_law_921 : decode cL_law 921 = .ok (.aload_n 0, 1) := by decide +kernel
theorem dL_law_922 : decode cL_law 922 = .ok (.iload_n 3, 1) := by decide +kernel
theorem dL_law_923 : decode cL_law 923 = .ok (.iconst 1, 1) := by decide +kernel
theorem dL_law_924 : decode cL_law 924 = .ok (.iadd, 1) := by decide +kernel
theorem dL_law_925 : decode cL_law 925 = .ok (.iaload, 1) := by decide +kernel
theorem dL_law_926 : decode cL_law 926 = .ok (.aload_n 0, 1) := by decide +kernel
theorem dL_law_927 : decode cL_law 927 = .ok (.iload_n 3, 1) := by decide +kernel
theorem dL_law_928 : decode cL_law 928 = .ok (.iconst 2, 1) := by decide +kernel
theorem dL_law_929 : decode cL_law 929 = .ok (.iadd, 1) := by decide +kernel
theorem dL_law_930 : decode cL_law 930 = .ok (.iaload, 1) := by decide +kernel
theorem dL_law_931 : decode cL_law 931 = .ok (.invokevirtual 102, 3) := by decide +kernel
theorem dL_law_934 : decode cL_law 934 = .ok (.pop, 1) := by decide +kernel
theorem dL_law_935 : decode cL_law 935 = .ok (.aload_n 2, 1) := by decide +kernel
theorem dL_law_936 : decode cL_law 936 = .ok (.aload_n 0, 1) := by decide +kernel
theorem dL_law_937 : decode cL_law 937 = .ok (.iload_n 3, 1) := by decide +kernel
theorem dL_law_938 : decode cL_law 938 = .ok (.iconst 1, 1) := by decide +kernel
theorem dL_law_939 : decode cL_law 939 = .ok (.iadd, 1) := by decide +kernel
theorem dL_law_940 : decode cL_law 940 = .ok (.iaload, 1) := by decide +kernel
theorem dL_law_941 : decode cL_law 941 = .ok (.aload_n 0, 1) := by decide +kernel
theorem dL_law_942 : decode cL_law 942 = .ok (.iload_n 3, 1) := by decide +kernel
theorem dL_law_943 : decode cL_law 943 = .ok (.iconst 2, 1) := by decide +kernel
theorem dL_law_944 : decode cL_law 944 = .ok (.iadd, 1) := by decide +kernel
theorem dL_law_945 : decode cL_law 945 = .ok (.iaload, 1) := by decide +kernel
theorem dL_law_946 : decode cL_law 946 = .ok (.invokevirtual 105, 3) := by decide +kernel
theorem dL_law_949 : decode cL_law 949 = .ok (.pop, 1) := by decide +kernel
theorem dL_law_950 : decode cL_law 950 = .ok (.goto 670, 3) := by decide +kernel
set_option maxHeartbeats 4000000 in
set_option maxRecDepth 100000 in
theorem law_c20 {p : Program} {l : Launch} {e : Env} {R : Room} {s : State} {m : MethodId} {args : Array Value} {below : List Frame} {meth : Method} {c : Code} {Q : State → Prop} {D : va_G} {tys : List (ClassId × FieldType)} {base b L : Nat} {xs : Nat → Int32} (X : iv_X p m c cL_law 4 s args iv_W0 RL D classes tys base) (hty : iv_ty tys) (hRf : 1300 ≤ R.frames) (hRl : 26000 ≤ R.locals) (hX : va_X b L xs s s.heap) (hbl : b < s.heap.size) (hbb : b < base) {h1 h2 : Nat} {t i : Int32} (ii : iv_R 0 3577 i) (hiL : i.toInt + 7 ≤ (L : Int)) {cells slots : Nat} (hRc : cells + 7 ≤ R.cells) (hRs : slots + 896 ≤ R.slots) {G : iv_G} {H : Heap} {locs : List Loc} (hB : iv_B iv_sh D classes tys base G s.heap H locs) (hJ : lw_J t t h1 h2 G) {ls : Array Slot} (hl : lv_has ls 4 [(3, .int i), (0, .ref b), (1, .ref h1), (2, .ref h2)])
    (kk : ∀ (t' : Int32) (G1 : iv_G) (H1 : Heap) (locs1 : List Loc), iv_B iv_sh D classes tys base G1 s.heap H1 locs1 → lw_J t' t' h1 h2 G1 → W p l e R s m args below meth c H1 locs1 (cells + 7) (slots + 896) Q (F0 m 1620 ls [])) : W p l e R s m args below meth c H locs cells slots Q (F0 m 920 ls []) := by
  have hx := X.1.1
  have hb := X.1.2.1
  have hbA : ¬ iv_A base b := fun q => absurd (show base ≤ b from q) (by omega)
  obtain ⟨cf, cn, cp, cW, ca, cb, hJ, hW1, hW2, hF1, hF2⟩ := hJ
  refine lv_aload_n hx hb dL_law_920 rfl (lv_at hl 2 rfl) ?_
  refine lv_aload_n hx hb dL_law_921 rfl (lv_at hl 1 rfl) ?_
  refine lv_iload_n hx hb dL_law_922 rfl (lv_at hl 0 rfl) ?_
  refine lv_iconst (v := 1) hx hb dL_law_923 (by decide) ?_
  refine iv_iadd hx hb ii q_1 (lo := 1) (hi := 3578) (by decide) dL_law_924 (fun y1 e_y1 i_y1 => ?_)
  refine va_sld hx hb hX hbl hbA hB.2.1 (iv_inU i_y1 (by decide) (by have w1 : y1.toInt = i.toInt + (1 : Int32).toInt := e_y1; have w2 : (1 : Int32).toInt = 1 := rfl; omega)) dL_law_925 ?_
  refine lv_topi (fun x2 e_x2 => ?_)
  have i_x2 := iv_R.all x2
  refine lv_aload_n hx hb dL_law_926 rfl (lv_at hl 1 rfl) ?_
  refine lv_iload_n hx hb dL_law_927 rfl (lv_at hl 0 rfl) ?_
  refine lv_iconst (v := 2) hx hb dL_law_928 (by decide) ?_
  refine iv_iadd hx hb ii q_2 (lo := 2) (hi := 3579) (by decide) dL_law_929 (fun y3 e_y3 i_y3 => ?_)
  refine va_sld hx hb hX hbl hbA hB.2.1 (iv_inU i_y3 (by decide) (by have w1 : y3.toInt = i.toInt + (2 : Int32).toInt := e_y3; have w2 : (2 : Int32).toInt = 2 := rfl; omega)) dL_law_930 ?_
  refine lv_topi (fun x4 e_x4 => ?_)
  have i_x4 := iv_R.all x4
  obtain ⟨g1, r1, g2, r2, a1, a2, q1, q2, hne, qf1, qf2, hnr, kn1, kp1, kn2, kp2⟩ := id hJ
  refine iv_cVi X k_good k_mf_X11_melts k_im_X11_melts k_sel_X11_melts k_ml_L_102 ft_X11 hB a1 sh_11 (As := [.int x2, .int x4]) (c_X11_melts l D tys base G h1 g1 r1 a1 x2 i_x2 x4 i_x4) ⟨rfl, rfl⟩ ⟨Nat.le_trans (m := 1300) (Nat.le_of_ble_eq_true rfl) hRf, Nat.le_trans (m := 26000) (Nat.le_of_ble_eq_true rfl) hRl⟩ ⟨by omega, by omega⟩ rfl rfl hl.1 (Nat.le_of_ble_eq_true rfl) dL_law_931 (fun v5 G5 H locs hq hB => ?_)
  have hJ := hJ.same hq.1
  have hW1 := lw_same hW1 hq.1
  have hW2 := lw_same hW2 hq.1
  have hF1 := lw_same hF1 hq.1
  have hF2 := lw_same hF2 hq.1
  refine lv_pop hx hb dL_law_934 rfl ?_
  refine lv_aload_n hx hb dL_law_935 rfl (lv_at hl 3 rfl) ?_
  refine lv_aload_n hx hb dL_law_936 rfl (lv_at hl 1 rfl) ?_
  refine lv_iload_n hx hb dL_law_937 rfl (lv_at hl 0 rfl) ?_
  refine lv_iconst (v := 1) hx hb dL_law_938 (by decide) ?_
  refine iv_iadd hx hb ii q_1 (lo := 1) (hi := 3578) (by decide) dL_law_939 (fun y6 e_y6 i_y6 => ?_)
  refine va_sld hx hb hX hbl hbA hB.2.1 (iv_inU i_y6 (by decide) (by have w1 : y6.toInt = i.toInt + (1 : Int32).toInt := e_y6; have w2 : (1 : Int32).toInt = 1 := rfl; omega)) dL_law_940 ?_
  refine lv_topi (fun x7 e_x7 => ?_)
  have i_x7 := iv_R.all x7
  refine lv_aload_n hx hb dL_law_941 rfl (lv_at hl 1 rfl) ?_
  refine lv_iload_n hx hb dL_law_942 rfl (lv_at hl 0 rfl) ?_
  refine lv_iconst (v := 2) hx hb dL_law_943 (by decide) ?_
  refine iv_iadd hx hb ii q_2 (lo := 2) (hi := 3579) (by decide) dL_law_944 (fun y8 e_y8 i_y8 => ?_)
  refine va_sld hx hb hX hbl hbA hB.2.1 (iv_inU i_y8 (by decide) (by have w1 : y8.toInt = i.toInt + (2 : Int32).toInt := e_y8; have w2 : (2 : Int32).toInt = 2 := rfl; omega)) dL_law_945 ?_
  refine lv_topi (fun x9 e_x9 => ?_)
  have i_x9 := iv_R.all x9
  obtain ⟨g1, r1, g2, r2, a1, a2, q1, q2, hne, qf1, qf2, hnr, kn1, kp1, kn2, kp2⟩ := id hJ
  refine iv_cVi X k_good k_mf_X12_melts k_im_X12_melts k_sel_X12_melts k_ml_L_105 ft_X12 hB a2 sh_12 (As := [.int x7, .int x9]) (c_X12_melts l D tys base G5 h2 g2 r2 a2 x7 i_x7 x9 i_x9) ⟨rfl, rfl⟩ ⟨Nat.le_trans (m := 1300) (Nat.le_of_ble_eq_true rfl) hRf, Nat.le_trans (m := 26000) (Nat.le_of_ble_eq_true rfl) hRl⟩ ⟨by omega, by omega⟩ rfl rfl hl.1 (Nat.le_of_ble_eq_true rfl) dL_law_946 (fun v10 G10 H locs hq hB => ?_)
  have hJ := hJ.same hq.1
  have hW1 := lw_same hW1 hq.1
  have hW2 := lw_same hW2 hq.1
  have hF1 := lw_same hF1 hq.1
  have hF2 := lw_same hF2 hq.1
  refine lv_pop hx hb dL_law_949 rfl ?_
  refine lv_goto (tgt := 1620) hx hb dL_law_950 (by decide) ?_
  refine W.widen (k := cells + 7) (n := slots + 896) (by omega) (by omega) ?_
  exact kk _ _ _ _ hB ⟨_, _, _, _, _, _, hJ, hW1, hW2, hF1, hF2⟩
theorem dL_law_953 : decode cL_law 953 = .ok (.aload_n 1, 1) := by decide +kernel
theorem dL_law_954 : decode cL_law 954 = .ok (.aload_n 0, 1) := by decide +kernel
theorem dL_law_955 : decode cL_law 955 = .ok (.iload_n 3, 1) := by decide +kernel
theorem dL_law_956 : decode cL_law 956 = .ok (.iconst 1, 1) := by decide +kernel
theorem dL_law_957 : decode cL_law 957 = .ok (.iadd, 1) := by decide +kernel
theorem dL_law_958 : decode cL_law 958 = .ok (.iaload, 1) := by decide +kernel
theorem dL_law_959 : decode cL_law 959 = .ok (.aload_n 0, 1) := by decide +kernel
theorem dL_law_960 : decode cL_law 960 = .ok (.iload_n 3, 1) := by decide +kernel
theorem dL_law_961 : decode cL_law 961 = .ok (.iconst 2, 1) := by decide +kernel
theorem dL_law_962 : decode cL_law 962 = .ok (.iadd, 1) := by decide +kernel
theorem dL_law_963 : decode cL_law 963 = .ok (.iaload, 1) := by decide +kernel
theorem dL_law_964 : decode cL_law 964 = .ok (.invokevirtual 106, 3) := by decide +kernel
theorem dL_law_967 : decode cL_law 967 = .ok (.pop, 1) := by decide +kernel
theorem dL_law_968 : decode cL_law 968 = .ok (.aload_n 2, 1) := by decide +kernel
theorem dL_law_969 : decode cL_law 969 = .ok (.aload_n 0, 1) := by decide +kernel
theorem dL_law_970 : decode cL_law 970 = .ok (.iload_n 3, 1) := by decide +kernel
theorem dL_law_971 : decode cL_law 971 = .ok (.iconst 1, 1) := by decide +kernel
theorem dL_law_972 : decode cL_law 972 = .ok (.iadd, 1) := by decide +kernel
theorem dL_law_973 : decode cL_law 973 = .ok (.iaload, 1) := by decide +kernel
theorem dL_law_974 : decode cL_law 974 = .ok (.aload_n 0, 1) := by decide +kernel
theorem dL_law_975 : decode cL_law 975 = .ok (.iload_n 3, 1) := by decide +kernel
theorem dL_law_976 : decode cL_law 976 = .ok (.iconst 2, 1) := by decide +kernel
theorem dL_law_977 : decode cL_law 977 = .ok (.iadd, 1) := by decide +kernel
theorem dL_law_978 : decode cL_law 978 = .ok (.iaload, 1) := by decide +kernel
theorem dL_law_979 : decode cL_law 979 = .ok (.invokevirtual 109, 3) := by decide +kernel
theorem dL_law_982 : decode cL_law 982 = .ok (.pop, 1) := by decide +kernel
theorem dL_law_983 : decode cL_law 983 = .ok (.goto 637, 3) := by decide +kernel
set_option maxHeartbeats 4000000 in
set_option maxRecDepth 100000 in
theorem law_c21 {p : Program} {l : Launch} {e : Env} {R : Room} {s : State} {m : MethodId} {args : Array Value} {below : List Frame} {meth : Method} {c : Code} {Q : State → Prop} {D : va_G} {tys : List (ClassId × FieldType)} {base b L : Nat} {xs : Nat → Int32} (X : iv_X p m c cL_law 4 s args iv_W0 RL D classes tys base) (hty : iv_ty tys) (hRf : 1300 ≤ R.frames) (hRl : 26000 ≤ R.locals) (hX : va_X b L xs s s.heap) (hbl : b < s.heap.size) (hbb : b < base) {h1 h2 : Nat} {t i : Int32} (ii : iv_R 0 3577 i) (hiL : i.toInt + 7 ≤ (L : Int)) {cells slots : Nat} (hRc : cells + 7 ≤ R.cells) (hRs : slots + 896 ≤ R.slots) {G : iv_G} {H : Heap} {locs : List Loc} (hB : iv_B iv_sh D classes tys base G s.heap H locs) (hJ : lw_J t t h1 h2 G) {ls : Array Slot} (hl : lv_has ls 4 [(3, .int i), (0, .ref b), (1, .ref h1), (2, .ref h2)])
    (kk : ∀ (t' : Int32) (G1 : iv_G) (H1 : Heap) (locs1 : List Loc), iv_B iv_sh D classes tys base G1 s.heap H1 locs1 → lw_J t' t' h1 h2 G1 → W p l e R s m args below meth c H1 locs1 (cells + 7) (slots + 896) Q (F0 m 1620 ls [])) : W p l e R s m args below meth c H locs cells slots Q (F0 m 953 ls []) := by
  have hx := X.1.1
  have hb := X.1.2.1
  have hbA : ¬ iv_A base b := fun q => absurd (show base ≤ b from q) (by omega)
  obtain ⟨cf, cn, cp, cW, ca, cb, hJ, hW1, hW2, hF1, hF2⟩ := hJ
  refine lv_aload_n hx hb dL_law_953 rfl (lv_at hl 2 rfl) ?_
  refine lv_aload_n hx hb dL_law_954 rfl (lv_at hl 1 rfl) ?_
  refine lv_iload_n hx hb dL_law_955 rfl (lv_at hl 0 rfl) ?_
  refine lv_iconst (v := 1) hx hb dL_law_956 (by decide) ?_
  refine iv_iadd hx hb ii q_1 (lo := 1) (hi := 3578) (by decide) dL_law_957 (fun y1 e_y1 i_y1 => ?_)
  refine va_sld hx hb hX hbl hbA hB.2.1 (iv_inU i_y1 (by decide) (by have w1 : y1.toInt = i.toInt + (1 : Int32).toInt := e_y1; have w2 : (1 : Int32).toInt = 1 := rfl; omega)) dL_law_958 ?_
  refine lv_topi (fun x2 e_x2 => ?_)
  have i_x2 := iv_R.all x2
  refine lv_aload_n hx hb dL_law_959 rfl (lv_at hl 1 rfl) ?_
  refine lv_iload_n hx hb dL_law_960 rfl (lv_at hl 0 rfl) ?_
  refine lv_iconst (v := 2) hx hb dL_law_961 (by decide) ?_
  refine iv_iadd hx hb ii q_2 (lo := 2) (hi := 3579) (by decide) dL_law_962 (fun y3 e_y3 i_y3 => ?_)
  refine va_sld hx hb hX hbl hbA hB.2.1 (iv_inU i_y3 (by decide) (by have w1 : y3.toInt = i.toInt + (2 : Int32).toInt := e_y3; have w2 : (2 : Int32).toInt = 2 := rfl; omega)) dL_law_963 ?_
  refine lv_topi (fun x4 e_x4 => ?_)
  have i_x4 := iv_R.all x4
  obtain ⟨g1, r1, g2, r2, a1, a2, q1, q2, hne, qf1, qf2, hnr, kn1, kp1, kn2, kp2⟩ := id hJ
  refine iv_cVi X k_good k_mf_X11_siblings k_im_X11_siblings k_sel_X11_siblings k_ml_L_106 ft_X11 hB a1 sh_11 (As := [.int x2, .int x4]) (c_X11_siblings l D tys base G h1 g1 r1 a1 x2 i_x2 x4 i_x4) ⟨rfl, rfl⟩ ⟨Nat.le_trans (m := 1300) (Nat.le_of_ble_eq_true rfl) hRf, Nat.le_trans (m := 26000) (Nat.le_of_ble_eq_true rfl) hRl⟩ ⟨by omega, by omega⟩ rfl rfl hl.1 (Nat.le_of_ble_eq_true rfl) dL_law_964 (fun v5 G5 H locs hq hB => ?_)
  have hJ := hJ.same hq.1
  have hW1 := lw_same hW1 hq.1
  have hW2 := lw_same hW2 hq.1
  have hF1 := lw_same hF1 hq.1
  have hF2 := lw_same hF2 hq.1
  refine lv_pop hx hb dL_law_967 rfl ?_
  refine lv_aload_n hx hb dL_law_968 rfl (lv_at hl 3 rfl) ?_
  refine lv_aload_n hx hb dL_law_969 rfl (lv_at hl 1 rfl) ?_
  refine lv_iload_n hx hb dL_law_970 rfl (lv_at hl 0 rfl) ?_
  refine lv_iconst (v := 1) hx hb dL_law_971 (by decide) ?_
  refine iv_iadd hx hb ii q_1 (lo := 1) (hi := 3578) (by decide) dL_law_972 (fun y6 e_y6 i_y6 => ?_)
  refine va_sld hx hb hX hbl hbA hB.2.1 (iv_inU i_y6 (by decide) (by have w1 : y6.toInt = i.toInt + (1 : Int32).toInt := e_y6; have w2 : (1 : Int32).toInt = 1 := rfl; omega)) dL_law_973 ?_
  refine lv_topi (fun x7 e_x7 => ?_)
  have i_x7 := iv_R.all x7
  refine lv_aload_n hx hb dL_law_974 rfl (lv_at hl 1 rfl) ?_
  refine lv_iload_n hx hb dL_law_975 rfl (lv_at hl 0 rfl) ?_
  refine lv_iconst (v := 2) hx hb dL_law_976 (by decide) ?_
  refine iv_iadd hx hb ii q_2 (lo := 2) (hi := 3579) (by decide) dL_law_977 (fun y8 e_y8 i_y8 => ?_)
  refine va_sld hx hb hX hbl hbA hB.2.1 (iv_inU i_y8 (by decide) (by have w1 : y8.toInt = i.toInt + (2 : Int32).toInt := e_y8; have w2 : (2 : Int32).toInt = 2 := rfl; omega)) dL_law_978 ?_
  refine lv_topi (fun x9 e_x9 => ?_)
  have i_x9 := iv_R.all x9
  obtain ⟨g1, r1, g2, r2, a1, a2, q1, q2, hne, qf1, qf2, hnr, kn1, kp1, kn2, kp2⟩ := id hJ
  refine iv_cVi X k_good k_mf_X12_siblings k_im_X12_siblings k_sel_X12_siblings k_ml_L_109 ft_X12 hB a2 sh_12 (As := [.int x7, .int x9]) (c_X12_siblings l D tys base G5 h2 g2 r2 a2 x7 i_x7 x9 i_x9) ⟨rfl, rfl⟩ ⟨Nat.le_trans (m := 1300) (Nat.le_of_ble_eq_true rfl) hRf, Nat.le_trans (m := 26000) (Nat.le_of_ble_eq_true rfl) hRl⟩ ⟨by omega, by omega⟩ rfl rfl hl.1 (Nat.le_of_ble_eq_true rfl) dL_law_979 (fun v10 G10 H locs hq hB => ?_)
  have hJ := hJ.same hq.1
  have hW1 := lw_same hW1 hq.1
  have hW2 := lw_same hW2 hq.1
  have hF1 := lw_same hF1 hq.1
  have hF2 := lw_same hF2 hq.1
  refine lv_pop hx hb dL_law_982 rfl ?_
  refine lv_goto (tgt := 1620) hx hb dL_law_983 (by decide) ?_
  refine W.widen (k := cells + 7) (n := slots + 896) (by omega) (by omega) ?_
  exact kk _ _ _ _ hB ⟨_, _, _, _, _, _, hJ, hW1, hW2, hF1, hF2⟩
theorem dL_law_986 : decode cL_law 986 = .ok (.aload_n 1, 1) := by decide +kernel
theorem dL_law_987 : decode cL_law 987 = .ok (.aload_n 0, 1) := by decide +kernel
theorem dL_law_988 : decode cL_law 988 = .ok (.iload_n 3, 1) := by decide +kernel
theorem dL_law_989 : decode cL_law 989 = .ok (.iconst 1, 1) := by decide +kernel
theorem dL_law_990 : decode cL_law 990 = .ok (.iadd, 1) := by decide +kernel
theorem dL_law_991 : decode cL_law 991 = .ok (.iaload, 1) := by decide +kernel
theorem dL_law_992 : decode cL_law 992 = .ok (.invokevirtual 110, 3) := by decide +kernel
theorem dL_law_995 : decode cL_law 995 = .ok (.pop, 1) := by decide +kernel
theorem dL_law_996 : decode cL_law 996 = .ok (.aload_n 2, 1) := by decide +kernel
theorem dL_law_997 : decode cL_law 997 = .ok (.aload_n 0, 1) := by decide +kernel
theorem dL_law_998 : decode cL_law 998 = .ok (.iload_n 3, 1) := by decide +kernel
theorem dL_law_999 : decode cL_law 999 = .ok (.iconst 1, 1) := by decide +kernel
theorem dL_law_1000 : decode cL_law 1000 = .ok (.iadd, 1) := by decide +kernel
theorem dL_law_1001 : decode cL_law 1001 = .ok (.iaload, 1) := by decide +kernel
theorem dL_law_1002 : decode cL_law 1002 = .ok (.invokevirtual 113, 3) := by decide +kernel
theorem dL_law_1005 : decode cL_law 1005 = .ok (.pop, 1) := by decide +kernel
theorem dL_law_1006 : decode cL_law 1006 = .ok (.goto 614, 3) := by decide +kernel
set_option maxHeartbeats 4000000 in
set_option maxRecDepth 100000 in
theorem law_c22 {p : Program} {l : Launch} {e : Env} {R : Room} {s : State} {m : MethodId} {args : Array Value} {below : List Frame} {meth : Method} {c : Code} {Q : State → Prop} {D : va_G} {tys : List (ClassId × FieldType)} {base b L : Nat} {xs : Nat → Int32} (X : iv_X p m c cL_law 4 s args iv_W0 RL D classes tys base) (hty : iv_ty tys) (hRf : 1300 ≤ R.frames) (hRl : 26000 ≤ R.locals) (hX : va_X b L xs s s.heap) (hbl : b < s.heap.size) (hbb : b < base) {h1 h2 : Nat} {t i : Int32} (ii : iv_R 0 3577 i) (hiL : i.toInt + 7 ≤ (L : Int)) {cells slots : Nat} (hRc : cells + 7 ≤ R.cells) (hRs : slots + 896 ≤ R.slots) {G : iv_G} {H : Heap} {locs : List Loc} (hB : iv_B iv_sh D classes tys base G s.heap H locs) (hJ : lw_J t t h1 h2 G) {ls : Array Slot} (hl : lv_has ls 4 [(3, .int i), (0, .ref b), (1, .ref h1), (2, .ref h2)])
    (kk : ∀ (t' : Int32) (G1 : iv_G) (H1 : Heap) (locs1 : List Loc), iv_B iv_sh D classes tys base G1 s.heap H1 locs1 → lw_J t' t' h1 h2 G1 → W p l e R s m args below meth c H1 locs1 (cells + 7) (slots + 896) Q (F0 m 1620 ls [])) : W p l e R s m args below meth c H locs cells slots Q (F0 m 986 ls []) := by
  have hx := X.1.1
  have hb := X.1.2.1
  have hbA : ¬ iv_A base b := fun q => absurd (show base ≤ b from q) (by omega)
  obtain ⟨cf, cn, cp, cW, ca, cb, hJ, hW1, hW2, hF1, hF2⟩ := hJ
  refine lv_aload_n hx hb dL_law_986 rfl (lv_at hl 2 rfl) ?_
  refine lv_aload_n hx hb dL_law_987 rfl (lv_at hl 1 rfl) ?_
  refine lv_iload_n hx hb dL_law_988 rfl (lv_at hl 0 rfl) ?_
  refine lv_iconst (v := 1) hx hb dL_law_989 (by decide) ?_
  refine iv_iadd hx hb ii q_1 (lo := 1) (hi := 3578) (by decide) dL_law_990 (fun y1 e_y1 i_y1 => ?_)
  refine va_sld hx hb hX hbl hbA hB.2.1 (iv_inU i_y1 (by decide) (by have w1 : y1.toInt = i.toInt + (1 : Int32).toInt := e_y1; have w2 : (1 : Int32).toInt = 1 := rfl; omega)) dL_law_991 ?_
  refine lv_topi (fun x2 e_x2 => ?_)
  have i_x2 := iv_R.all x2
  obtain ⟨g1, r1, g2, r2, a1, a2, q1, q2, hne, qf1, qf2, hnr, kn1, kp1, kn2, kp2⟩ := id hJ
  refine iv_cVi X k_good k_mf_X11_right k_im_X11_right k_sel_X11_right k_ml_L_110 ft_X11 hB a1 sh_11 (As := [.int x2]) (c_X11_right l D tys base G h1 g1 r1 a1 x2 i_x2) ⟨rfl, rfl⟩ ⟨Nat.le_trans (m := 1300) (Nat.le_of_ble_eq_true rfl) hRf, Nat.le_trans (m := 26000) (Nat.le_of_ble_eq_true rfl) hRl⟩ ⟨by omega, by omega⟩ rfl rfl hl.1 (Nat.le_of_ble_eq_true rfl) dL_law_992 (fun v3 G3 H locs hq hB => ?_)
  have hJ := hJ.md hq.1
  have hW1 := hW1.K (iv_MdT.of hq.1) (by decide) (by decide)
  have hW2 := hW2.K (iv_MdT.of hq.1) (by decide) (by decide)
  have hF1 := hF1.K (iv_MdT.of hq.1) (by decide)
  have hF2 := hF2.K (iv_MdT.of hq.1) (by decide) (by decide)
  refine lv_pop hx hb dL_law_995 rfl ?_
  refine lv_aload_n hx hb dL_law_996 rfl (lv_at hl 3 rfl) ?_
  refine lv_aload_n hx hb dL_law_997 rfl (lv_at hl 1 rfl) ?_
  refine lv_iload_n hx hb dL_law_998 rfl (lv_at hl 0 rfl) ?_
  refine lv_iconst (v := 1) hx hb dL_law_999 (by decide) ?_
  refine iv_iadd hx hb ii q_1 (lo := 1) (hi := 3578) (by decide) dL_law_1000 (fun y4 e_y4 i_y4 => ?_)
  refine va_sld hx hb hX hbl hbA hB.2.1 (iv_inU i_y4 (by decide) (by have w1 : y4.toInt = i.toInt + (1 : Int32).toInt := e_y4; have w2 : (1 : Int32).toInt = 1 := rfl; omega)) dL_law_1001 ?_
  refine lv_topi (fun x5 e_x5 => ?_)
  have i_x5 := iv_R.all x5
  obtain ⟨g1, r1, g2, r2, a1, a2, q1, q2, hne, qf1, qf2, hnr, kn1, kp1, kn2, kp2⟩ := id hJ
  refine iv_cVi X k_good k_mf_X12_right k_im_X12_right k_sel_X12_right k_ml_L_113 ft_X12 hB a2 sh_12 (As := [.int x5]) (c_X12_right l D tys base G3 h2 g2 r2 a2 x5 i_x5) ⟨rfl, rfl⟩ ⟨Nat.le_trans (m := 1300) (Nat.le_of_ble_eq_true rfl) hRf, Nat.le_trans (m := 26000) (Nat.le_of_ble_eq_true rfl) hRl⟩ ⟨by omega, by omega⟩ rfl rfl hl.1 (Nat.le_of_ble_eq_true rfl) dL_law_1002 (fun v6 G6 H locs hq hB => ?_)
  have hJ := hJ.md hq.1
  have hW1 := hW1.K (iv_MdT.of hq.1) (by decide) (by decide)
  have hW2 := hW2.K (iv_MdT.of hq.1) (by decide) (by decide)
  have hF1 := hF1.K (iv_MdT.of hq.1) (by decide)
  have hF2 := hF2.K (iv_MdT.of hq.1) (by decide) (by decide)
  refine lv_pop hx hb dL_law_1005 rfl ?_
  refine lv_goto (tgt := 1620) hx hb dL_law_1006 (by decide) ?_
  refine W.widen (k := cells + 7) (n := slots + 896) (by omega) (by omega) ?_
  exact kk _ _ _ _ hB ⟨_, _, _, _, _, _, hJ, hW1, hW2, hF1, hF2⟩
theorem dL_law_1009 : decode cL_law 1009 = .ok (.aload_n 1, 1) := by decide +kernel
theorem dL_law_1010 : decode cL_law 1010 = .ok (.aload_n 0, 1) := by decide +kernel
theorem dL_law_1011 : decode cL_law 1011 = .ok (.iload_n 3, 1) := by decide +kernel
theorem dL_law_1012 : decode cL_law 1012 = .ok (.iconst 1, 1) := by decide +kernel
theorem dL_law_1013 : decode cL_law 1013 = .ok (.iadd, 1) := by decide +kernel
theorem dL_law_1014 : decode cL_law 1014 = .ok (.iaload, 1) := by decide +kernel
theorem dL_law_1015 : decode cL_law 1015 = .ok (.aload_n 0, 1) := by decide +kernel
theorem dL_law_1016 : decode cL_law 1016 = .ok (.iload_n 3, 1) := by decide +kernel
theorem dL_law_1017 : decode cL_law 1017 = .ok (.iconst 2, 1) := by decide +kernel
theorem dL_law_1018 : decode cL_law 1018 = .ok (.iadd, 1) := by decide +kernel
theorem dL_law_1019 : decode cL_law 1019 = .ok (.iaload, 1) := by decide +kernel
theorem dL_law_1020 : decode cL_law 1020 = .ok (.aload_n 0, 1) := by decide +kernel
theorem dL_law_1021 : decode cL_law 1021 = .ok (.iload_n 3, 1) := by decide +kernel
theorem dL_law_1022 : decode cL_law 1022 = .ok (.iconst 3, 1) := by decide +kernel
theorem dL_law_1023 : decode cL_law 1023 = .ok (.iadd, 1) := by decide +kernel
theorem dL_law_1024 : decode cL_law 1024 = .ok (.iaload, 1) := by decide +kernel
theorem dL_law_1025 : decode cL_law 1025 = .ok (.invokevirtual 114, 3) := by decide +kernel
theorem dL_law_1028 : decode cL_law 1028 = .ok (.pop, 1) := by decide +kernel
theorem dL_law_1029 : decode cL_law 1029 = .ok (.aload_n 2, 1) := by decide +kernel
theorem dL_law_1030 : decode cL_law 1030 = .ok (.aload_n 0, 1) := by decide +kernel
theorem dL_law_1031 : decode cL_law 1031 = .ok (.iload_n 3, 1) := by decide +kernel
theorem dL_law_1032 : decode cL_law 1032 = .ok (.iconst 1, 1) := by decide +kernel
theorem dL_law_1033 : decode cL_law 1033 = .ok (.iadd, 1) := by decide +kernel
theorem dL_law_1034 : decode cL_law 1034 = .ok (.iaload, 1) := by decide +kernel
theorem dL_law_1035 : decode cL_law 1035 = .ok (.aload_n 0, 1) := by decide +kernel
theorem dL_law_1036 : decode cL_law 1036 = .ok (.iload_n 3, 1) := by decide +kernel
theorem dL_law_1037 : decode cL_law 1037 = .ok (.iconst 2, 1) := by decide +kernel
theorem dL_law_1038 : decode cL_law 1038 = .ok (.iadd, 1) := by decide +kernel
theorem dL_law_1039 : decode cL_law 1039 = .ok (.iaload, 1) := by decide +kernel
theorem dL_law_1040 : decode cL_law 1040 = .ok (.aload_n 0, 1) := by decide +kernel
theorem dL_law_1041 : decode cL_law 1041 = .ok (.iload_n 3, 1) := by decide +kernel
theorem dL_law_1042 : decode cL_law 1042 = .ok (.iconst 3, 1) := by decide +kernel
theorem dL_law_1043 : decode cL_law 1043 = .ok (.iadd, 1) := by decide +kernel
theorem dL_law_1044 : decode cL_law 1044 = .ok (.iaload, 1) := by decide +kernel
theorem dL_law_1045 : decode cL_law 1045 = .ok (.invokevirtual 117, 3) := by decide +kernel
theorem dL_law_1048 : decode cL_law 1048 = .ok (.pop, 1) := by decide +kernel
theorem dL_law_1049 : decode cL_law 1049 = .ok (.goto 571, 3) := by decide +kernel
set_option maxHeartbeats 4000000 in
set_option maxRecDepth 100000 in
theorem law_c23 {p : Program} {l : Launch} {e : Env} {R : Room} {s : State} {m : MethodId} {args : Array Value} {below : List Frame} {meth : Method} {c : Code} {Q : State → Prop} {D : va_G} {tys : List (ClassId × FieldType)} {base b L : Nat} {xs : Nat → Int32} (X : iv_X p m c cL_law 4 s args iv_W0 RL D classes tys base) (hty : iv_ty tys) (hRf : 1300 ≤ R.frames) (hRl : 26000 ≤ R.locals) (hX : va_X b L xs s s.heap) (hbl : b < s.heap.size) (hbb : b < base) {h1 h2 : Nat} {t i : Int32} (ii : iv_R 0 3577 i) (hiL : i.toInt + 7 ≤ (L : Int)) {cells slots : Nat} (hRc : cells + 7 ≤ R.cells) (hRs : slots + 896 ≤ R.slots) {G : iv_G} {H : Heap} {locs : List Loc} (hB : iv_B iv_sh D classes tys base G s.heap H locs) (hJ : lw_J t t h1 h2 G) {ls : Array Slot} (hl : lv_has ls 4 [(3, .int i), (0, .ref b), (1, .ref h1), (2, .ref h2)])
    (kk : ∀ (t' : Int32) (G1 : iv_G) (H1 : Heap) (locs1 : List Loc), iv_B iv_sh D classes tys base G1 s.heap H1 locs1 → lw_J t' t' h1 h2 G1 → W p l e R s m args below meth c H1 locs1 (cells + 7) (slots + 896) Q (F0 m 1620 ls [])) : W p l e R s m args below meth c H locs cells slots Q (F0 m 1009 ls []) := by
  have hx := X.1.1
  have hb := X.1.2.1
  have hbA : ¬ iv_A base b := fun q => absurd (show base ≤ b from q) (by omega)
  obtain ⟨cf, cn, cp, cW, ca, cb, hJ, hW1, hW2, hF1, hF2⟩ := hJ
  refine lv_aload_n hx hb dL_law_1009 rfl (lv_at hl 2 rfl) ?_
  refine lv_aload_n hx hb dL_law_1010 rfl (lv_at hl 1 rfl) ?_
  refine lv_iload_n hx hb dL_law_1011 rfl (lv_at hl 0 rfl) ?_
  refine lv_iconst (v := 1) hx hb dL_law_1012 (by decide) ?_
  refine iv_iadd hx hb ii q_1 (lo := 1) (hi := 3578) (by decide) dL_law_1013 (fun y1 e_y1 i_y1 => ?_)
  refine va_sld hx hb hX hbl hbA hB.2.1 (iv_inU i_y1 (by decide) (by have w1 : y1.toInt = i.toInt + (1 : Int32).toInt := e_y1; have w2 : (1 : Int32).toInt = 1 := rfl; omega)) dL_law_1014 ?_
  refine lv_topi (fun x2 e_x2 => ?_)
  have i_x2 := iv_R.all x2
  refine lv_aload_n hx hb dL_law_1015 rfl (lv_at hl 1 rfl) ?_
  refine lv_iload_n hx hb dL_law_1016 rfl (lv_at hl 0 rfl) ?_
  refine lv_iconst (v := 2) hx hb dL_law_1017 (by decide) ?_
  refine iv_iadd hx hb ii q_2 (lo := 2) (hi := 3579) (by decide) dL_law_1018 (fun y3 e_y3 i_y3 => ?_)
  refine va_sld hx hb hX hbl hbA hB.2.1 (iv_inU i_y3 (by decide) (by have w1 : y3.toInt = i.toInt + (2 : Int32).toInt := e_y3; have w2 : (2 : Int32).toInt = 2 := rfl; omega)) dL_law_1019 ?_
  refine lv_topi (fun x4 e_x4 => ?_)
  have i_x4 := iv_R.all x4
  refine lv_aload_n hx hb dL_law_1020 rfl (lv_at hl 1 rfl) ?_
  refine lv_iload_n hx hb dL_law_1021 rfl (lv_at hl 0 rfl) ?_
  refine lv_iconst (v := 3) hx hb dL_law_1022 (by decide) ?_
  refine iv_iadd hx hb ii q_3 (lo := 3) (hi := 3580) (by decide) dL_law_1023 (fun y5 e_y5 i_y5 => ?_)
  refine va_sld hx hb hX hbl hbA hB.2.1 (iv_inU i_y5 (by decide) (by have w1 : y5.toInt = i.toInt + (3 : Int32).toInt := e_y5; have w2 : (3 : Int32).toInt = 3 := rfl; omega)) dL_law_1024 ?_
  refine lv_topi (fun x6 e_x6 => ?_)
  have i_x6 := iv_R.all x6
  obtain ⟨g1, r1, g2, r2, a1, a2, q1, q2, hne, qf1, qf2, hnr, kn1, kp1, kn2, kp2⟩ := id hJ
  refine iv_cVi X k_good k_mf_X11_turn k_im_X11_turn k_sel_X11_turn k_ml_L_114 ft_X11 hB a1 sh_11 (As := [.int x2, .int x4, .int x6]) (c_X11_turn l D tys base G h1 g1 r1 a1 x2 i_x2 x4 i_x4 x6 i_x6) ⟨rfl, rfl⟩ ⟨Nat.le_trans (m := 1300) (Nat.le_of_ble_eq_true rfl) hRf, Nat.le_trans (m := 26000) (Nat.le_of_ble_eq_true rfl) hRl⟩ ⟨by omega, by omega⟩ rfl rfl hl.1 (Nat.le_of_ble_eq_true rfl) dL_law_1025 (fun v7 G7 H locs hq hB => ?_)
  have hJ := hJ.md hq.1
  have hW1 := hW1.K (iv_MdT.of hq.1) (by decide) (by decide)
  have hW2 := hW2.K (iv_MdT.of hq.1) (by decide) (by decide)
  have hF1 := hF1.K (iv_MdT.of hq.1) (by decide)
  have hF2 := hF2.K (iv_MdT.of hq.1) (by decide) (by decide)
  refine lv_pop hx hb dL_law_1028 rfl ?_
  refine lv_aload_n hx hb dL_law_1029 rfl (lv_at hl 3 rfl) ?_
  refine lv_aload_n hx hb dL_law_1030 rfl (lv_at hl 1 rfl) ?_
  refine lv_iload_n hx hb dL_law_1031 rfl (lv_at hl 0 rfl) ?_
  refine lv_iconst (v := 1) hx hb dL_law_1032 (by decide) ?_
  refine iv_iadd hx hb ii q_1 (lo := 1) (hi := 3578) (by decide) dL_law_1033 (fun y8 e_y8 i_y8 => ?_)
  refine va_sld hx hb hX hbl hbA hB.2.1 (iv_inU i_y8 (by decide) (by have w1 : y8.toInt = i.toInt + (1 : Int32).toInt := e_y8; have w2 : (1 : Int32).toInt = 1 := rfl; omega)) dL_law_1034 ?_
  refine lv_topi (fun x9 e_x9 => ?_)
  have i_x9 := iv_R.all x9
  refine lv_aload_n hx hb dL_law_1035 rfl (lv_at hl 1 rfl) ?_
  refine lv_iload_n hx hb dL_law_1036 rfl (lv_at hl 0 rfl) ?_
  refine lv_iconst (v := 2) hx hb dL_law_1037 (by decide) ?_
  refine iv_iadd hx hb ii q_2 (lo := 2) (hi := 3579) (by decide) dL_law_1038 (fun y10 e_y10 i_y10 => ?_)
  refine va_sld hx hb hX hbl hbA hB.2.1 (iv_inU i_y10 (by decide) (by have w1 : y10.toInt = i.toInt + (2 : Int32).toInt := e_y10; have w2 : (2 : Int32).toInt = 2 := rfl; omega)) dL_law_1039 ?_
  refine lv_topi (fun x11 e_x11 => ?_)
  have i_x11 := iv_R.all x11
  refine lv_aload_n hx hb dL_law_1040 rfl (lv_at hl 1 rfl) ?_
  refine lv_iload_n hx hb dL_law_1041 rfl (lv_at hl 0 rfl) ?_
  refine lv_iconst (v := 3) hx hb dL_law_1042 (by decide) ?_
  refine iv_iadd hx hb ii q_3 (lo := 3) (hi := 3580) (by decide) dL_law_1043 (fun y12 e_y12 i_y12 => ?_)
  refine va_sld hx hb hX hbl hbA hB.2.1 (iv_inU i_y12 (by decide) (by have w1 : y12.toInt = i.toInt + (3 : Int32).toInt := e_y12; have w2 : (3 : Int32).toInt = 3 := rfl; omega)) dL_law_1044 ?_
  refine lv_topi (fun x13 e_x13 => ?_)
  have i_x13 := iv_R.all x13
  obtain ⟨g1, r1, g2, r2, a1, a2, q1, q2, hne, qf1, qf2, hnr, kn1, kp1, kn2, kp2⟩ := id hJ
  refine iv_cVi X k_good k_mf_X12_turn k_im_X12_turn k_sel_X12_turn k_ml_L_117 ft_X12 hB a2 sh_12 (As := [.int x9, .int x11, .int x13]) (c_X12_turn l D tys base G7 h2 g2 r2 a2 x9 i_x9 x11 i_x11 x13 i_x13) ⟨rfl, rfl⟩ ⟨Nat.le_trans (m := 1300) (Nat.le_of_ble_eq_true rfl) hRf, Nat.le_trans (m := 26000) (Nat.le_of_ble_eq_true rfl) hRl⟩ ⟨by omega, by omega⟩ rfl rfl hl.1 (Nat.le_of_ble_eq_true rfl) dL_law_1045 (fun v14 G14 H locs hq hB => ?_)
  have hJ := hJ.md hq.1
  have hW1 := hW1.K (iv_MdT.of hq.1) (by decide) (by decide)
  have hW2 := hW2.K (iv_MdT.of hq.1) (by decide) (by decide)
  have hF1 := hF1.K (iv_MdT.of hq.1) (by decide)
  have hF2 := hF2.K (iv_MdT.of hq.1) (by decide) (by decide)
  refine lv_pop hx hb dL_law_1048 rfl ?_
  refine lv_goto (tgt := 1620) hx hb dL_law_1049 (by decide) ?_
  refine W.widen (k := cells + 7) (n := slots + 896) (by omega) (by omega) ?_
  exact kk _ _ _ _ hB ⟨_, _, _, _, _, _, hJ, hW1, hW2, hF1, hF2⟩
theorem dL_law_1052 : decode cL_law 1052 = .ok (.aload_n 1, 1) := by decide +kernel
theorem dL_law_1053 : decode cL_law 1053 = .ok (.aload_n 0, 1) := by decide +kernel
theorem dL_law_1054 : decode cL_law 1054 = .ok (.iload_n 3, 1) := by decide +kernel
theorem dL_law_1055 : decode cL_law 1055 = .ok (.iconst 1, 1) := by decide +kernel
theorem dL_law_1056 : decode cL_law 1056 = .ok (.iadd, 1) := by decide +kernel
theorem dL_law_1057 : decode cL_law 1057 = .ok (.iaload, 1) := by decide +kernel
theorem dL_law_1058 : decode cL_law 1058 = .ok (.invokevirtual 118, 3) := by decide +kernel
theorem dL_law_1061 : decode cL_law 1061 = .ok (.pop, 1) := by decide +kernel
theorem dL_law_1062 : decode cL_law 1062 = .ok (.aload_n 2, 1) := by decide +kernel
theorem dL_law_1063 : decode cL_law 1063 = .ok (.aload_n 0, 1) := by decide +kernel
theorem dL_law_1064 : decode cL_law 1064 = .ok (.iload_n 3, 1) := by decide +kernel
theorem dL_law_1065 : decode cL_law 1065 = .ok (.iconst 1, 1) := by decide +kernel
theorem dL_law_1066 : decode cL_law 1066 = .ok (.iadd, 1) := by decide +kernel
theorem dL_law_1067 : decode cL_law 1067 = .ok (.iaload, 1) := by decide +kernel
theorem dL_law_1068 : decode cL_law 1068 = .ok (.invokevirtual 121, 3) := by decide +kernel
theorem dL_law_1071 : decode cL_law 1071 = .ok (.pop, 1) := by decide +kernel
theorem dL_law_1072 : decode cL_law 1072 = .ok (.goto 548, 3) := by decide +kernel
set_option maxHeartbeats 4000000 in
set_option maxRecDepth 100000 in
theorem law_c24 {p : Program} {l : Launch} {e : Env} {R : Room} {s : State} {m : MethodId} {args : Array Value} {below : List Frame} {meth : Method} {c : Code} {Q : State → Prop} {D : va_G} {tys : List (ClassId × FieldType)} {base b L : Nat} {xs : Nat → Int32} (X : iv_X p m c cL_law 4 s args iv_W0 RL D classes tys base) (hty : iv_ty tys) (hRf : 1300 ≤ R.frames) (hRl : 26000 ≤ R.locals) (hX : va_X b L xs s s.heap) (hbl : b < s.heap.size) (hbb : b < base) {h1 h2 : Nat} {t i : Int32} (ii : iv_R 0 3577 i) (hiL : i.toInt + 7 ≤ (L : Int)) {cells slots : Nat} (hRc : cells + 7 ≤ R.cells) (hRs : slots + 896 ≤ R.slots) {G : iv_G} {H : Heap} {locs : List Loc} (hB : iv_B iv_sh D classes tys base G s.heap H locs) (hJ : lw_J t t h1 h2 G) {ls : Array Slot} (hl : lv_has ls 4 [(3, .int i), (0, .ref b), (1, .ref h1), (2, .ref h2)])
    (kk : ∀ (t' : Int32) (G1 : iv_G) (H1 : Heap) (locs1 : List Loc), iv_B iv_sh D classes tys base G1 s.heap H1 locs1 → lw_J t' t' h1 h2 G1 → W p l e R s m args below meth c H1 locs1 (cells + 7) (slots + 896) Q (F0 m 1620 ls [])) : W p l e R s m args below meth c H locs cells slots Q (F0 m 1052 ls []) := by
  have hx := X.1.1
  have hb := X.1.2.1
  have hbA : ¬ iv_A base b := fun q => absurd (show base ≤ b from q) (by omega)
  obtain ⟨cf, cn, cp, cW, ca, cb, hJ, hW1, hW2, hF1, hF2⟩ := hJ
  refine lv_aload_n hx hb dL_law_1052 rfl (lv_at hl 2 rfl) ?_
  refine lv_aload_n hx hb dL_law_1053 rfl (lv_at hl 1 rfl) ?_
  refine lv_iload_n hx hb dL_law_1054 rfl (lv_at hl 0 rfl) ?_
  refine lv_iconst (v := 1) hx hb dL_law_1055 (by decide) ?_
  refine iv_iadd hx hb ii q_1 (lo := 1) (hi := 3578) (by decide) dL_law_1056 (fun y1 e_y1 i_y1 => ?_)
  refine va_sld hx hb hX hbl hbA hB.2.1 (iv_inU i_y1 (by decide) (by have w1 : y1.toInt = i.toInt + (1 : Int32).toInt := e_y1; have w2 : (1 : Int32).toInt = 1 := rfl; omega)) dL_law_1057 ?_
  refine lv_topi (fun x2 e_x2 => ?_)
  have i_x2 := iv_R.all x2
  obtain ⟨g1, r1, g2, r2, a1, a2, q1, q2, hne, qf1, qf2, hnr, kn1, kp1, kn2, kp2⟩ := id hJ
  refine iv_cVi X k_good k_mf_X11_fits k_im_X11_fits k_sel_X11_fits k_ml_L_118 ft_X11 hB a1 sh_11 (As := [.int x2]) (c_X11_fits l D tys base G h1 g1 r1 a1 x2 i_x2) ⟨rfl, rfl⟩ ⟨Nat.le_trans (m := 1300) (Nat.le_of_ble_eq_true rfl) hRf, Nat.le_trans (m := 26000) (Nat.le_of_ble_eq_true rfl) hRl⟩ ⟨by omega, by omega⟩ rfl rfl hl.1 (Nat.le_of_ble_eq_true rfl) dL_law_1058 (fun v3 G3 H locs hq hB => ?_)
  have hJ := hJ.same hq.1
  have hW1 := lw_same hW1 hq.1
  have hW2 := lw_same hW2 hq.1
  have hF1 := lw_same hF1 hq.1
  have hF2 := lw_same hF2 hq.1
  refine lv_pop hx hb dL_law_1061 rfl ?_
  refine lv_aload_n hx hb dL_law_1062 rfl (lv_at hl 3 rfl) ?_
  refine lv_aload_n hx hb dL_law_1063 rfl (lv_at hl 1 rfl) ?_
  refine lv_iload_n hx hb dL_law_1064 rfl (lv_at hl 0 rfl) ?_
  refine lv_iconst (v := 1) hx hb dL_law_1065 (by decide) ?_
  refine iv_iadd hx hb ii q_1 (lo := 1) (hi := 3578) (by decide) dL_law_1066 (fun y4 e_y4 i_y4 => ?_)
  refine va_sld hx hb hX hbl hbA hB.2.1 (iv_inU i_y4 (by decide) (by have w1 : y4.toInt = i.toInt + (1 : Int32).toInt := e_y4; have w2 : (1 : Int32).toInt = 1 := rfl; omega)) dL_law_1067 ?_
  refine lv_topi (fun x5 e_x5 => ?_)
  have i_x5 := iv_R.all x5
  obtain ⟨g1, r1, g2, r2, a1, a2, q1, q2, hne, qf1, qf2, hnr, kn1, kp1, kn2, kp2⟩ := id hJ
  refine iv_cVi X k_good k_mf_X12_fits k_im_X12_fits k_sel_X12_fits k_ml_L_121 ft_X12 hB a2 sh_12 (As := [.int x5]) (c_X12_fits l D tys base G3 h2 g2 r2 a2 x5 i_x5) ⟨rfl, rfl⟩ ⟨Nat.le_trans (m := 1300) (Nat.le_of_ble_eq_true rfl) hRf, Nat.le_trans (m := 26000) (Nat.le_of_ble_eq_true rfl) hRl⟩ ⟨by omega, by omega⟩ rfl rfl hl.1 (Nat.le_of_ble_eq_true rfl) dL_law_1068 (fun v6 G6 H locs hq hB => ?_)
  have hJ := hJ.same hq.1
  have hW1 := lw_same hW1 hq.1
  have hW2 := lw_same hW2 hq.1
  have hF1 := lw_same hF1 hq.1
  have hF2 := lw_same hF2 hq.1
  refine lv_pop hx hb dL_law_1071 rfl ?_
  refine lv_goto (tgt := 1620) hx hb dL_law_1072 (by decide) ?_
  refine W.widen (k := cells + 7) (n := slots + 896) (by omega) (by omega) ?_
  exact kk _ _ _ _ hB ⟨_, _, _, _, _, _, hJ, hW1, hW2, hF1, hF2⟩
theorem dL_law_1075 : decode cL_law 1075 = .ok (.aload_n 1, 1) := by decide +kernel
theorem dL_law_1076 : decode cL_law 1076 = .ok (.aload_n 0, 1) := by decide +kernel
theorem dL_law_1077 : decode cL_law 1077 = .ok (.iload_n 3, 1) := by decide +kernel
theorem dL_law_1078 : decode cL_law 1078 = .ok (.iconst 1, 1) := by decide +kernel
theorem dL_law_1079 : decode cL_law 1079 = .ok (.iadd, 1) := by decide +kernel
theorem dL_law_1080 : decode cL_law 1080 = .ok (.iaload, 1) := by decide +kernel
theorem dL_law_1081 : decode cL_law 1081 = .ok (.invokevirtual 122, 3) := by decide +kernel
theorem dL_law_1084 : decode cL_law 1084 = .ok (.pop, 1) := by decide +kernel
theorem dL_law_1085 : decode cL_law 1085 = .ok (.aload_n 2, 1) := by decide +kernel
theorem dL_law_1086 : decode cL_law 1086 = .ok (.aload_n 0, 1) := by decide +kernel
theorem dL_law_1087 : decode cL_law 1087 = .ok (.iload_n 3, 1) := by decide +kernel
theorem dL_law_1088 : decode cL_law 1088 = .ok (.iconst 1, 1) := by decide +kernel
theorem dL_law_1089 : decode cL_law 1089 = .ok (.iadd, 1) := by decide +kernel
theorem dL_law_1090 : decode cL_law 1090 = .ok (.iaload, 1) := by decide +kernel
theorem dL_law_1091 : decode cL_law 1091 = .ok (.invokevirtual 125, 3) := by decide +kernel
theorem dL_law_1094 : decode cL_law 1094 = .ok (.pop, 1) := by decide +kernel
theorem dL_law_1095 : decode cL_law 1095 = .ok (.goto 525, 3) := by decide +kernel
set_option maxHeartbeats 4000000 in
set_option maxRecDepth 100000 in
theorem law_c25 {p : Program} {l : Launch} {e : Env} {R : Room} {s : State} {m : MethodId} {args : Array Value} {below : List Frame} {meth : Method} {c : Code} {Q : State → Prop} {D : va_G} {tys : List (ClassId × FieldType)} {base b L : Nat} {xs : Nat → Int32} (X : iv_X p m c cL_law 4 s args iv_W0 RL D classes tys base) (hty : iv_ty tys) (hRf : 1300 ≤ R.frames) (hRl : 26000 ≤ R.locals) (hX : va_X b L xs s s.heap) (hbl : b < s.heap.size) (hbb : b < base) {h1 h2 : Nat} {t i : Int32} (ii : iv_R 0 3577 i) (hiL : i.toInt + 7 ≤ (L : Int)) {cells slots : Nat} (hRc : cells + 7 ≤ R.cells) (hRs : slots + 896 ≤ R.slots) {G : iv_G} {H : Heap} {locs : List Loc} (hB : iv_B iv_sh D classes tys base G s.heap H locs) (hJ : lw_J t t h1 h2 G) {ls : Array Slot} (hl : lv_has ls 4 [(3, .int i), (0, .ref b), (1, .ref h1), (2, .ref h2)])
    (kk : ∀ (t' : Int32) (G1 : iv_G) (H1 : Heap) (locs1 : List Loc), iv_B iv_sh D classes tys base G1 s.heap H1 locs1 → lw_J t' t' h1 h2 G1 → W p l e R s m args below meth c H1 locs1 (cells + 7) (slots + 896) Q (F0 m 1620 ls [])) : W p l e R s m args below meth c H locs cells slots Q (F0 m 1075 ls []) := by
  have hx := X.1.1
  have hb := X.1.2.1
  have hbA : ¬ iv_A base b := fun q => absurd (show base ≤ b from q) (by omega)
  obtain ⟨cf, cn, cp, cW, ca, cb, hJ, hW1, hW2, hF1, hF2⟩ := hJ
  refine lv_aload_n hx hb dL_law_1075 rfl (lv_at hl 2 rfl) ?_
  refine lv_aload_n hx hb dL_law_1076 rfl (lv_at hl 1 rfl) ?_
  refine lv_iload_n hx hb dL_law_1077 rfl (lv_at hl 0 rfl) ?_
  refine lv_iconst (v := 1) hx hb dL_law_1078 (by decide) ?_
  refine iv_iadd hx hb ii q_1 (lo := 1) (hi := 3578) (by decide) dL_law_1079 (fun y1 e_y1 i_y1 => ?_)
  refine va_sld hx hb hX hbl hbA hB.2.1 (iv_inU i_y1 (by decide) (by have w1 : y1.toInt = i.toInt + (1 : Int32).toInt := e_y1; have w2 : (1 : Int32).toInt = 1 := rfl; omega)) dL_law_1080 ?_
  refine lv_topi (fun x2 e_x2 => ?_)
  have i_x2 := iv_R.all x2
  obtain ⟨g1, r1, g2, r2, a1, a2, q1, q2, hne, qf1, qf2, hnr, kn1, kp1, kn2, kp2⟩ := id hJ
  refine iv_cVi X k_good k_mf_X11_ask k_im_X11_ask k_sel_X11_ask k_ml_L_122 ft_X11 hB a1 sh_11 (As := [.int x2]) (c_X11_ask l D tys base G h1 g1 r1 a1 x2 i_x2) ⟨rfl, rfl⟩ ⟨Nat.le_trans (m := 1300) (Nat.le_of_ble_eq_true rfl) hRf, Nat.le_trans (m := 26000) (Nat.le_of_ble_eq_true rfl) hRl⟩ ⟨by omega, by omega⟩ rfl rfl hl.1 (Nat.le_of_ble_eq_true rfl) dL_law_1081 (fun v3 G3 H locs hq hB => ?_)
  have hJ := hJ.same hq.1
  have hW1 := lw_same hW1 hq.1
  have hW2 := lw_same hW2 hq.1
  have hF1 := lw_same hF1 hq.1
  have hF2 := lw_same hF2 hq.1
  refine lv_pop hx hb dL_law_1084 rfl ?_
  refine lv_aload_n hx hb dL_law_1085 rfl (lv_at hl 3 rfl) ?_
  refine lv_aload_n hx hb dL_law_1086 rfl (lv_at hl 1 rfl) ?_
  refine lv_iload_n hx hb dL_law_1087 rfl (lv_at hl 0 rfl) ?_
  refine lv_iconst (v := 1) hx hb dL_law_1088 (by decide) ?_
  refine iv_iadd hx hb ii q_1 (lo := 1) (hi := 3578) (by decide) dL_law_1089 (fun y4 e_y4 i_y4 => ?_)
  refine va_sld hx hb hX hbl hbA hB.2.1 (iv_inU i_y4 (by decide) (by have w1 : y4.toInt = i.toInt + (1 : Int32).toInt := e_y4; have w2 : (1 : Int32).toInt = 1 := rfl; omega)) dL_law_1090 ?_
  refine lv_topi (fun x5 e_x5 => ?_)
  have i_x5 := iv_R.all x5
  obtain ⟨g1, r1, g2, r2, a1, a2, q1, q2, hne, qf1, qf2, hnr, kn1, kp1, kn2, kp2⟩ := id hJ
  refine iv_cVi X k_good k_mf_X12_ask k_im_X12_ask k_sel_X12_ask k_ml_L_125 ft_X12 hB a2 sh_12 (As := [.int x5]) (c_X12_ask l D tys base G3 h2 g2 r2 a2 x5 i_x5) ⟨rfl, rfl⟩ ⟨Nat.le_trans (m := 1300) (Nat.le_of_ble_eq_true rfl) hRf, Nat.le_trans (m := 26000) (Nat.le_of_ble_eq_true rfl) hRl⟩ ⟨by omega, by omega⟩ rfl rfl hl.1 (Nat.le_of_ble_eq_true rfl) dL_law_1091 (fun v6 G6 H locs hq hB => ?_)
  have hJ := hJ.same hq.1
  have hW1 := lw_same hW1 hq.1
  have hW2 := lw_same hW2 hq.1
  have hF1 := lw_same hF1 hq.1
  have hF2 := lw_same hF2 hq.1
  refine lv_pop hx hb dL_law_1094 rfl ?_
  refine lv_goto (tgt := 1620) hx hb dL_law_1095 (by decide) ?_
  refine W.widen (k := cells + 7) (n := slots + 896) (by omega) (by omega) ?_
  exact kk _ _ _ _ hB ⟨_, _, _, _, _, _, hJ, hW1, hW2, hF1, hF2⟩
theorem dL_law_1098 : decode cL_law 1098 = .ok (.aload_n 1, 1) := by decide +kernel
theorem dL_law_1099 : decode cL_law 1099 = .ok (.aload_n 0, 1) := by decide +kernel
theorem dL_law_1100 : decode cL_law 1100 = .ok (.iload_n 3, 1) := by decide +kernel
theorem dL_law_1101 : decode cL_law 1101 = .ok (.iconst 1, 1) := by decide +kernel
theorem dL_law_1102 : decode cL_law 1102 = .ok (.iadd, 1) := by decide +kernel
theorem dL_law_1103 : decode cL_law 1103 = .ok (.iaload, 1) := by decide +kernel
theorem dL_law_1104 : decode cL_law 1104 = .ok (.aload_n 0, 1) := by decide +kernel
theorem dL_law_1105 : decode cL_law 1105 = .ok (.iload_n 3, 1) := by decide +kernel
theorem dL_law_1106 : decode cL_law 1106 = .ok (.iconst 2, 1) := by decide +kernel
theorem dL_law_1107 : decode cL_law 1107 = .ok (.iadd, 1) := by decide +kernel
theorem dL_law_1108 : decode cL_law 1108 = .ok (.iaload, 1) := by decide +kernel
theorem dL_law_1109 : decode cL_law 1109 = .ok (.invokevirtual 126, 3) := by decide +kernel
theorem dL_law_1112 : decode cL_law 1112 = .ok (.pop, 1) := by decide +kernel
theorem dL_law_1113 : decode cL_law 1113 = .ok (.aload_n 2, 1) := by decide +kernel
theorem dL_law_1114 : decode cL_law 1114 = .ok (.aload_n 0, 1) := by decide +kernel
theorem dL_law_1115 : decode cL_law 1115 = .ok (.iload_n 3, 1) := by decide +kernel
theorem dL_law_1116 : decode cL_law 1116 = .ok (.iconst 1, 1) := by decide +kernel
theorem dL_law_1117 : decode cL_law 1117 = .ok (.iadd, 1) := by decide +kernel
theorem dL_law_1118 : decode cL_law 1118 = .ok (.iaload, 1) := by decide +kernel
theorem dL_law_1119 : decode cL_law 1119 = .ok (.aload_n 0, 1) := by decide +kernel
theorem dL_law_1120 : decode cL_law 1120 = .ok (.iload_n 3, 1) := by decide +kernel
theorem dL_law_1121 : decode cL_law 1121 = .ok (.iconst 2, 1) := by decide +kernel
theorem dL_law_1122 : decode cL_law 1122 = .ok (.iadd, 1) := by decide +kernel
theorem dL_law_1123 : decode cL_law 1123 = .ok (.iaload, 1) := by decide +kernel
theorem dL_law_1124 : decode cL_law 1124 = .ok (.invokevirtual 129, 3) := by decide +kernel
theorem dL_law_1127 : decode cL_law 1127 = .ok (.pop, 1) := by decide +kernel
theorem dL_law_1128 : decode cL_law 1128 = .ok (.goto 492, 3) := by decide +kernel
set_option maxHeartbeats 4000000 in
set_option maxRecDepth 100000 in
theorem law_c26 {p : Program} {l : Launch} {e : Env} {R : Room} {s : State} {m : MethodId} {args : Array Value} {below : List Frame} {meth : Method} {c : Code} {Q : State → Prop} {D : va_G} {tys : List (ClassId × FieldType)} {base b L : Nat} {xs : Nat → Int32} (X : iv_X p m c cL_law 4 s args iv_W0 RL D classes tys base) (hty : iv_ty tys) (hRf : 1300 ≤ R.frames) (hRl : 26000 ≤ R.locals) (hX : va_X b L xs s s.heap) (hbl : b < s.heap.size) (hbb : b < base) {h1 h2 : Nat} {t i : Int32} (ii : iv_R 0 3577 i) (hiL : i.toInt + 7 ≤ (L : Int)) {cells slots : Nat} (hRc : cells + 7 ≤ R.cells) (hRs : slots + 896 ≤ R.slots) {G : iv_G} {H : Heap} {locs : List Loc} (hB : iv_B iv_sh D classes tys base G s.heap H locs) (hJ : lw_J t t h1 h2 G) {ls : Array Slot} (hl : lv_has ls 4 [(3, .int i), (0, .ref b), (1, .ref h1), (2, .ref h2)])
    (kk : ∀ (t' : Int32) (G1 : iv_G) (H1 : Heap) (locs1 : List Loc), iv_B iv_sh D classes tys base G1 s.heap H1 locs1 → lw_J t' t' h1 h2 G1 → W p l e R s m args below meth c H1 locs1 (cells + 7) (slots + 896) Q (F0 m 1620 ls [])) : W p l e R s m args below meth c H locs cells slots Q (F0 m 1098 ls []) := by
  have hx := X.1.1
  have hb := X.1.2.1
  have hbA : ¬ iv_A base b := fun q => absurd (show base ≤ b from q) (by omega)
  obtain ⟨cf, cn, cp, cW, ca, cb, hJ, hW1, hW2, hF1, hF2⟩ := hJ
  refine lv_aload_n hx hb dL_law_1098 rfl (lv_at hl 2 rfl) ?_
  refine lv_aload_n hx hb dL_law_1099 rfl (lv_at hl 1 rfl) ?_
  refine lv_iload_n hx hb dL_law_1100 rfl (lv_at hl 0 rfl) ?_
  refine lv_iconst (v := 1) hx hb dL_law_1101 (by decide) ?_
  refine iv_iadd hx hb ii q_1 (lo := 1) (hi := 3578) (by decide) dL_law_1102 (fun y1 e_y1 i_y1 => ?_)
  refine va_sld hx hb hX hbl hbA hB.2.1 (iv_inU i_y1 (by decide) (by have w1 : y1.toInt = i.toInt + (1 : Int32).toInt := e_y1; have w2 : (1 : Int32).toInt = 1 := rfl; omega)) dL_law_1103 ?_
  refine lv_topi (fun x2 e_x2 => ?_)
  have i_x2 := iv_R.all x2
  refine lv_aload_n hx hb dL_law_1104 rfl (lv_at hl 1 rfl) ?_
  refine lv_iload_n hx hb dL_law_1105 rfl (lv_at hl 0 rfl) ?_
  refine lv_iconst (v := 2) hx hb dL_law_1106 (by decide) ?_
  refine iv_iadd hx hb ii q_2 (lo := 2) (hi := 3579) (by decide) dL_law_1107 (fun y3 e_y3 i_y3 => ?_)
  refine va_sld hx hb hX hbl hbA hB.2.1 (iv_inU i_y3 (by decide) (by have w1 : y3.toInt = i.toInt + (2 : Int32).toInt := e_y3; have w2 : (2 : Int32).toInt = 2 := rfl; omega)) dL_law_1108 ?_
  refine lv_topi (fun x4 e_x4 => ?_)
  have i_x4 := iv_R.all x4
  obtain ⟨g1, r1, g2, r2, a1, a2, q1, q2, hne, qf1, qf2, hnr, kn1, kp1, kn2, kp2⟩ := id hJ
  refine iv_cVi X k_good k_mf_X11_stop k_im_X11_stop k_sel_X11_stop k_ml_L_126 ft_X11 hB a1 sh_11 (As := [.int x2, .int x4]) (c_X11_stop l D tys base G h1 g1 r1 a1 x2 i_x2 x4 i_x4) ⟨rfl, rfl⟩ ⟨Nat.le_trans (m := 1300) (Nat.le_of_ble_eq_true rfl) hRf, Nat.le_trans (m := 26000) (Nat.le_of_ble_eq_true rfl) hRl⟩ ⟨by omega, by omega⟩ rfl rfl hl.1 (Nat.le_of_ble_eq_true rfl) dL_law_1109 (fun v5 G5 H locs hq hB => ?_)
  have hJ := hJ.md hq.1
  have hW1 := hW1.K (iv_MdT.of hq.1) (by decide) (by decide)
  have hW2 := hW2.K (iv_MdT.of hq.1) (by decide) (by decide)
  have hF1 := hF1.K (iv_MdT.of hq.1) (by decide)
  have hF2 := hF2.K (iv_MdT.of hq.1) (by decide) (by decide)
  refine lv_pop hx hb dL_law_1112 rfl ?_
  refine lv_aload_n hx hb dL_law_1113 rfl (lv_at hl 3 rfl) ?_
  refine lv_aload_n hx hb dL_law_1114 rfl (lv_at hl 1 rfl) ?_
  refine lv_iload_n hx hb dL_law_1115 rfl (lv_at hl 0 rfl) ?_
  refine lv_iconst (v := 1) hx hb dL_law_1116 (by decide) ?_
  refine iv_iadd hx hb ii q_1 (lo := 1) (hi := 3578) (by decide) dL_law_1117 (fun y6 e_y6 i_y6 => ?_)
  refine va_sld hx hb hX hbl hbA hB.2.1 (iv_inU i_y6 (by decide) (by have w1 : y6.toInt = i.toInt + (1 : Int32).toInt := e_y6; have w2 : (1 : Int32).toInt = 1 := rfl; omega)) dL_law_1118 ?_
  refine lv_topi (fun x7 e_x7 => ?_)
  have i_x7 := iv_R.all x7
  refine lv_aload_n hx hb dL_law_1119 rfl (lv_at hl 1 rfl) ?_
  refine lv_iload_n hx hb dL_law_1120 rfl (lv_at hl 0 rfl) ?_
  refine lv_iconst (v := 2) hx hb dL_law_1121 (by decide) ?_
  refine iv_iadd hx hb ii q_2 (lo := 2) (hi := 3579) (by decide) dL_law_1122 (fun y8 e_y8 i_y8 => ?_)
  refine va_sld hx hb hX hbl hbA hB.2.1 (iv_inU i_y8 (by decide) (by have w1 : y8.toInt = i.toInt + (2 : Int32).toInt := e_y8; have w2 : (2 : Int32).toInt = 2 := rfl; omega)) dL_law_1123 ?_
  refine lv_topi (fun x9 e_x9 => ?_)
  have i_x9 := iv_R.all x9
  obtain ⟨g1, r1, g2, r2, a1, a2, q1, q2, hne, qf1, qf2, hnr, kn1, kp1, kn2, kp2⟩ := id hJ
  refine iv_cVi X k_good k_mf_X12_stop k_im_X12_stop k_sel_X12_stop k_ml_L_129 ft_X12 hB a2 sh_12 (As := [.int x7, .int x9]) (c_X12_stop l D tys base G5 h2 g2 r2 a2 x7 i_x7 x9 i_x9) ⟨rfl, rfl⟩ ⟨Nat.le_trans (m := 1300) (Nat.le_of_ble_eq_true rfl) hRf, Nat.le_trans (m := 26000) (Nat.le_of_ble_eq_true rfl) hRl⟩ ⟨by omega, by omega⟩ rfl rfl hl.1 (Nat.le_of_ble_eq_true rfl) dL_law_1124 (fun v10 G10 H locs hq hB => ?_)
  have hJ := hJ.md hq.1
  have hW1 := hW1.K (iv_MdT.of hq.1) (by decide) (by decide)
  have hW2 := hW2.K (iv_MdT.of hq.1) (by decide) (by decide)
  have hF1 := hF1.K (iv_MdT.of hq.1) (by decide)
  have hF2 := hF2.K (iv_MdT.of hq.1) (by decide) (by decide)
  refine lv_pop hx hb dL_law_1127 rfl ?_
  refine lv_goto (tgt := 1620) hx hb dL_law_1128 (by decide) ?_
  refine W.widen (k := cells + 7) (n := slots + 896) (by omega) (by omega) ?_
  exact kk _ _ _ _ hB ⟨_, _, _, _, _, _, hJ, hW1, hW2, hF1, hF2⟩
theorem dL_law_1131 : decode cL_law 1131 = .ok (.aload_n 1, 1) := by decide +kernel
theorem dL_law_1132 : decode cL_law 1132 = .ok (.aload_n 0, 1) := by decide +kernel
theorem dL_law_1133 : decode cL_law 1133 = .ok (.iload_n 3, 1) := by decide +kernel
theorem dL_law_1134 : decode cL_law 1134 = .ok (.iconst 1, 1) := by decide +kernel
theorem dL_law_1135 : decode cL_law 1135 = .ok (.iadd, 1) := by decide +kernel
theorem dL_law_1136 : decode cL_law 1136 = .ok (.iaload, 1) := by decide +kernel
theorem dL_law_1137 : decode cL_law 1137 = .ok (.aload_n 0, 1) := by decide +kernel
theorem dL_law_1138 : decode cL_law 1138 = .ok (.iload_n 3, 1) := by decide +kernel
theorem dL_law_1139 : decode cL_law 1139 = .ok (.iconst 2, 1) := by decide +kernel
theorem dL_law_1140 : decode cL_law 1140 = .ok (.iadd, 1) := by decide +kernel
theorem dL_law_1141 : decode cL_law 1141 = .ok (.iaload, 1) := by decide +kernel
theorem dL_law_1142 : decode cL_law 1142 = .ok (.invokevirtual 130, 3) := by decide +kernel
theorem dL_law_1145 : decode cL_law 1145 = .ok (.pop, 1) := by decide +kernel
theorem dL_law_1146 : decode cL_law 1146 = .ok (.aload_n 2, 1) := by decide +kernel
theorem dL_law_1147 : decode cL_law 1147 = .ok (.aload_n 0, 1) := by decide +kernel
theorem dL_law_1148 : decode cL_law 1148 = .ok (.iload_n 3, 1) := by decide +kernel
theorem dL_law_1149 : decode cL_law 1149 = .ok (.iconst 1, 1) := by decide +kernel
theorem dL_law_1150 : decode cL_law 1150 = .ok (.iadd, 1) := by decide +kernel
theorem dL_law_1151 : decode cL_law 1151 = .ok (.iaload, 1) := by decide +kernel
theorem dL_law_1152 : decode cL_law 1152 = .ok (.aload_n 0, 1) := by decide +kernel
theorem dL_law_1153 : decode cL_law 1153 = .ok (.iload_n 3, 1) := by decide +kernel
theorem dL_law_1154 : decode cL_law 1154 = .ok (.iconst 2, 1) := by decide +kernel
theorem dL_law_1155 : decode cL_law 1155 = .ok (.iadd, 1) := by decide +kernel
theorem dL_law_1156 : decode cL_law 1156 = .ok (.iaload, 1) := by decide +kernel
theorem dL_law_1157 : decode cL_law 1157 = .ok (.invokevirtual 133, 3) := by decide +kernel
theorem dL_law_1160 : decode cL_law 1160 = .ok (.pop, 1) := by decide +kernel
theorem dL_law_1161 : decode cL_law 1161 = .ok (.goto 459, 3) := by decide +kernel
set_option maxHeartbeats 4000000 in
set_option maxRecDepth 100000 in
theorem law_c27 {p : Program} {l : Launch} {e : Env} {R : Room} {s : State} {m : MethodId} {args : Array Value} {below : List Frame} {meth : Method} {c : Code} {Q : State → Prop} {D : va_G} {tys : List (ClassId × FieldType)} {base b L : Nat} {xs : Nat → Int32} (X : iv_X p m c cL_law 4 s args iv_W0 RL D classes tys base) (hty : iv_ty tys) (hRf : 1300 ≤ R.frames) (hRl : 26000 ≤ R.locals) (hX : va_X b L xs s s.heap) (hbl : b < s.heap.size) (hbb : b < base) {h1 h2 : Nat} {t i : Int32} (ii : iv_R 0 3577 i) (hiL : i.toInt + 7 ≤ (L : Int)) {cells slots : Nat} (hRc : cells + 7 ≤ R.cells) (hRs : slots + 896 ≤ R.slots) {G : iv_G} {H : Heap} {locs : List Loc} (hB : iv_B iv_sh D classes tys base G s.heap H locs) (hJ : lw_J t t h1 h2 G) {ls : Array Slot} (hl : lv_has ls 4 [(3, .int i), (0, .ref b), (1, .ref h1), (2, .ref h2)])
    (kk : ∀ (t' : Int32) (G1 : iv_G) (H1 : Heap) (locs1 : List Loc), iv_B iv_sh D classes tys base G1 s.heap H1 locs1 → lw_J t' t' h1 h2 G1 → W p l e R s m args below meth c H1 locs1 (cells + 7) (slots + 896) Q (F0 m 1620 ls [])) : W p l e R s m args below meth c H locs cells slots Q (F0 m 1131 ls []) := by
  have hx := X.1.1
  have hb := X.1.2.1
  have hbA : ¬ iv_A base b := fun q => absurd (show base ≤ b from q) (by omega)
  obtain ⟨cf, cn, cp, cW, ca, cb, hJ, hW1, hW2, hF1, hF2⟩ := hJ
  refine lv_aload_n hx hb dL_law_1131 rfl (lv_at hl 2 rfl) ?_
  refine lv_aload_n hx hb dL_law_1132 rfl (lv_at hl 1 rfl) ?_
  refine lv_iload_n hx hb dL_law_1133 rfl (lv_at hl 0 rfl) ?_
  refine lv_iconst (v := 1) hx hb dL_law_1134 (by decide) ?_
  refine iv_iadd hx hb ii q_1 (lo := 1) (hi := 3578) (by decide) dL_law_1135 (fun y1 e_y1 i_y1 => ?_)
  refine va_sld hx hb hX hbl hbA hB.2.1 (iv_inU i_y1 (by decide) (by have w1 : y1.toInt = i.toInt + (1 : Int32).toInt := e_y1; have w2 : (1 : Int32).toInt = 1 := rfl; omega)) dL_law_1136 ?_
  refine lv_topi (fun x2 e_x2 => ?_)
  have i_x2 := iv_R.all x2
  refine lv_aload_n hx hb dL_law_1137 rfl (lv_at hl 1 rfl) ?_
  refine lv_iload_n hx hb dL_law_1138 rfl (lv_at hl 0 rfl) ?_
  refine lv_iconst (v := 2) hx hb dL_law_1139 (by decide) ?_
  refine iv_iadd hx hb ii q_2 (lo := 2) (hi := 3579) (by decide) dL_law_1140 (fun y3 e_y3 i_y3 => ?_)
  refine va_sld hx hb hX hbl hbA hB.2.1 (iv_inU i_y3 (by decide) (by have w1 : y3.toInt = i.toInt + (2 : Int32).toInt := e_y3; have w2 : (2 : Int32).toInt = 2 := rfl; omega)) dL_law_1141 ?_
  refine lv_topi (fun x4 e_x4 => ?_)
  have i_x4 := iv_R.all x4
  obtain ⟨g1, r1, g2, r2, a1, a2, q1, q2, hne, qf1, qf2, hnr, kn1, kp1, kn2, kp2⟩ := id hJ
  refine iv_cVi X k_good k_mf_X11_late k_im_X11_late k_sel_X11_late k_ml_L_130 ft_X11 hB a1 sh_11 (As := [.int x2, .int x4]) (c_X11_late l D tys base G h1 g1 r1 a1 x2 i_x2 x4 i_x4) ⟨rfl, rfl⟩ ⟨Nat.le_trans (m := 1300) (Nat.le_of_ble_eq_true rfl) hRf, Nat.le_trans (m := 26000) (Nat.le_of_ble_eq_true rfl) hRl⟩ ⟨by omega, by omega⟩ rfl rfl hl.1 (Nat.le_of_ble_eq_true rfl) dL_law_1142 (fun v5 G5 H locs hq hB => ?_)
  have hJ := hJ.md hq.1
  have hW1 := hW1.K (iv_MdT.of hq.1) (by decide) (by decide)
  have hW2 := hW2.K (iv_MdT.of hq.1) (by decide) (by decide)
  have hF1 := hF1.K (iv_MdT.of hq.1) (by decide)
  have hF2 := hF2.K (iv_MdT.of hq.1) (by decide) (by decide)
  refine lv_pop hx hb dL_law_1145 rfl ?_
  refine lv_aload_n hx hb dL_law_1146 rfl (lv_at hl 3 rfl) ?_
  refine lv_aload_n hx hb dL_law_1147 rfl (lv_at hl 1 rfl) ?_
  refine lv_iload_n hx hb dL_law_1148 rfl (lv_at hl 0 rfl) ?_
  refine lv_iconst (v := 1) hx hb dL_law_1149 (by decide) ?_
  refine iv_iadd hx hb ii q_1 (lo := 1) (hi := 3578) (by decide) dL_law_1150 (fun y6 e_y6 i_y6 => ?_)
  refine va_sld hx hb hX hbl hbA hB.2.1 (iv_inU i_y6 (by decide) (by have w1 : y6.toInt = i.toInt + (1 : Int32).toInt := e_y6; have w2 : (1 : Int32).toInt = 1 := rfl; omega)) dL_law_1151 ?_
  refine lv_topi (fun x7 e_x7 => ?_)
  have i_x7 := iv_R.all x7
  refine lv_aload_n hx hb dL_law_1152 rfl (lv_at hl 1 rfl) ?_
  refine lv_iload_n hx hb dL_law_1153 rfl (lv_at hl 0 rfl) ?_
  refine lv_iconst (v := 2) hx hb dL_law_1154 (by decide) ?_
  refine iv_iadd hx hb ii q_2 (lo := 2) (hi := 3579) (by decide) dL_law_1155 (fun y8 e_y8 i_y8 => ?_)
  refine va_sld hx hb hX hbl hbA hB.2.1 (iv_inU i_y8 (by decide) (by have w1 : y8.toInt = i.toInt + (2 : Int32).toInt := e_y8; have w2 : (2 : Int32).toInt = 2 := rfl; omega)) dL_law_1156 ?_
  refine lv_topi (fun x9 e_x9 => ?_)
  have i_x9 := iv_R.all x9
  obtain ⟨g1, r1, g2, r2, a1, a2, q1, q2, hne, qf1, qf2, hnr, kn1, kp1, kn2, kp2⟩ := id hJ
  refine iv_cVi X k_good k_mf_X12_late k_im_X12_late k_sel_X12_late k_ml_L_133 ft_X12 hB a2 sh_12 (As := [.int x7, .int x9]) (c_X12_late l D tys base G5 h2 g2 r2 a2 x7 i_x7 x9 i_x9) ⟨rfl, rfl⟩ ⟨Nat.le_trans (m := 1300) (Nat.le_of_ble_eq_true rfl) hRf, Nat.le_trans (m := 26000) (Nat.le_of_ble_eq_true rfl) hRl⟩ ⟨by omega, by omega⟩ rfl rfl hl.1 (Nat.le_of_ble_eq_true rfl) dL_law_1157 (fun v10 G10 H locs hq hB => ?_)
  have hJ := hJ.md hq.1
  have hW1 := hW1.K (iv_MdT.of hq.1) (by decide) (by decide)
  have hW2 := hW2.K (iv_MdT.of hq.1) (by decide) (by decide)
  have hF1 := hF1.K (iv_MdT.of hq.1) (by decide)
  have hF2 := hF2.K (iv_MdT.of hq.1) (by decide) (by decide)
  refine lv_pop hx hb dL_law_1160 rfl ?_
  refine lv_goto (tgt := 1620) hx hb dL_law_1161 (by decide) ?_
  refine W.widen (k := cells + 7) (n := slots + 896) (by omega) (by omega) ?_
  exact kk _ _ _ _ hB ⟨_, _, _, _, _, _, hJ, hW1, hW2, hF1, hF2⟩
theorem dL_law_1164 : decode cL_law 1164 = .ok (.aload_n 1, 1) := by decide +kernel
theorem dL_law_1165 : decode cL_law 1165 = .ok (.aload_n 0, 1) := by decide +kernel
theorem dL_law_1166 : decode cL_law 1166 = .ok (.iload_n 3, 1) := by decide +kernel
theorem dL_law_1167 : decode cL_law 1167 = .ok (.iconst 1, 1) := by decide +kernel
theorem dL_law_1168 : decode cL_law 1168 = .ok (.iadd, 1) := by decide +kernel
theorem dL_law_1169 : decode cL_law 1169 = .ok (.iaload, 1) := by decide +kernel
theorem dL_law_1170 : decode cL_law 1170 = .ok (.aload_n 0, 1) := by decide +kernel
theorem dL_law_1171 : decode cL_law 1171 = .ok (.iload_n 3, 1) := by decide +kernel
theorem dL_law_1172 : decode cL_law 1172 = .ok (.iconst 2, 1) := by decide +kernel
theorem dL_law_1173 : decode cL_law 1173 = .ok (.iadd, 1) := by decide +kernel
theorem dL_law_1174 : decode cL_law 1174 = .ok (.iaload, 1) := by decide +kernel
theorem dL_law_1175 : decode cL_law 1175 = .ok (.aload_n 0, 1) := by decide +kernel
theorem dL_law_1176 : decode cL_law 1176 = .ok (.iload_n 3, 1) := by decide +kernel
theorem dL_law_1177 : decode cL_law 1177 = .ok (.iconst 3, 1) := by decide +kernel
theorem dL_law_1178 : decode cL_law 1178 = .ok (.iadd, 1) := by decide +kernel
theorem dL_law_1179 : decode cL_law 1179 = .ok (.iaload, 1) := by decide +kernel
theorem dL_law_1180 : decode cL_law 1180 = .ok (.aload_n 0, 1) := by decide +kernel
theorem dL_law_1181 : decode cL_law 1181 = .ok (.iload_n 3, 1) := by decide +kernel
theorem dL_law_1182 : decode cL_law 1182 = .ok (.iconst 4, 1) := by decide +kernel
theorem dL_law_1183 : decode cL_law 1183 = .ok (.iadd, 1) := by decide +kernel
theorem dL_law_1184 : decode cL_law 1184 = .ok (.iaload, 1) := by decide +kernel
theorem dL_law_1185 : decode cL_law 1185 = .ok (.aload_n 0, 1) := by decide +kernel
theorem dL_law_1186 : decode cL_law 1186 = .ok (.iload_n 3, 1) := by decide +kernel
theorem dL_law_1187 : decode cL_law 1187 = .ok (.iconst 5, 1) := by decide +kernel
theorem dL_law_1188 : decode cL_law 1188 = .ok (.iadd, 1) := by decide +kernel
theorem dL_law_1189 : decode cL_law 1189 = .ok (.iaload, 1) := by decide +kernel
theorem dL_law_1190 : decode cL_law 1190 = .ok (.aload_n 0, 1) := by decide +kernel
theorem dL_law_1191 : decode cL_law 1191 = .ok (.iload_n 3, 1) := by decide +kernel
theorem dL_law_1192 : decode cL_law 1192 = .ok (.bipush 6, 2) := by decide +kernel
theorem dL_law_1194 : decode cL_law 1194 = .ok (.iadd, 1) := by decide +kernel
theorem dL_law_1195 : decode cL_law 1195 = .ok (.iaload, 1) := by decide +kernel
theorem dL_law_1196 : decode cL_law 1196 = .ok (.invokevirtual 134, 3) := by decide +kernel
theorem dL_law_1199 : decode cL_law 1199 = .ok (.pop, 1) := by decide +kernel
theorem dL_law_1200 : decode cL_law 1200 = .ok (.aload_n 2, 1) := by decide +kernel
theorem dL_law_1201 : decode cL_law 1201 = .ok (.aload_n 0, 1) := by decide +kernel
theorem dL_law_1202 : decode cL_law 1202 = .ok (.iload_n 3, 1) := by decide +kernel
theorem dL_law_1203 : decode cL_law 1203 = .ok (.iconst 1, 1) := by decide +kernel
theorem dL_law_1204 : decode cL_law 1204 = .ok (.iadd, 1) := by decide +kernel
theorem dL_law_1205 : decode cL_law 1205 = .ok (.iaload, 1) := by decide +kernel
theorem dL_law_1206 : decode cL_law 1206 = .ok (.aload_n 0, 1) := by decide +kernel
theorem dL_law_1207 : decode cL_law 1207 = .ok (.iload_n 3, 1) := by decide +kernel
theorem dL_law_1208 : decode cL_law 1208 = .ok (.iconst 2, 1) := by decide +kernel
theorem dL_law_1209 : decode cL_law 1209 = .ok (.iadd, 1) := by decide +kernel
theorem dL_law_1210 : decode cL_law 1210 = .ok (.iaload, 1) := by decide +kernel
theorem dL_law_1211 : decode cL_law 1211 = .ok (.aload_n 0, 1) := by decide +kernel
theorem dL_law_1212 : decode cL_law 1212 = .ok (.iload_n 3, 1) := by decide +kernel
theorem dL_law_1213 : decode cL_law 1213 = .ok (.iconst 3, 1) := by decide +kernel
theorem dL_law_1214 : decode cL_law 1214 = .ok (.iadd, 1) := by decide +kernel
theorem dL_law_1215 : decode cL_law 1215 = .ok (.iaload, 1) := by decide +kernel
theorem dL_law_1216 : decode cL_law 1216 = .ok (.aload_n 0, 1) := by decide +kernel
theorem dL_law_1217 : decode cL_law 1217 = .ok (.iload_n 3, 1) := by decide +kernel
theorem dL_law_1218 : decode cL_law 1218 = .ok (.iconst 4, 1) := by decide +kernel
theorem dL_law_1219 : decode cL_law 1219 = .ok (.iadd, 1) := by decide +kernel
theorem dL_law_1220 : decode cL_law 1220 = .ok (.iaload, 1) := by decide +kernel
theorem dL_law_1221 : decode cL_law 1221 = .ok (.aload_n 0, 1) := by decide +kernel
theorem dL_law_1222 : decode cL_law 1222 = .ok (.iload_n 3, 1) := by decide +kernel
theorem dL_law_1223 : decode cL_law 1223 = .ok (.iconst 5, 1) := by decide +kernel
theorem dL_law_1224 : decode cL_law 1224 = .ok (.iadd, 1) := by decide +kernel
theorem dL_law_1225 : decode cL_law 1225 = .ok (.iaload, 1) := by decide +kernel
theorem dL_law_1226 : decode cL_law 1226 = .ok (.aload_n 0, 1) := by decide +kernel
theorem dL_law_1227 : decode cL_law 1227 = .ok (.iload_n 3, 1) := by decide +kernel
theorem dL_law_1228 : decode cL_law 1228 = .ok (.bipush 6, 2) := by decide +kernel
theorem dL_law_1230 : decode cL_law 1230 = .ok (.iadd, 1) := by decide +kernel
theorem dL_law_1231 : decode cL_law 1231 = .ok (.iaload, 1) := by decide +kernel
theorem dL_law_1232 : decode cL_law 1232 = .ok (.invokevirtual 138, 3) := by decide +kernel
theorem dL_law_1235 : decode cL_law 1235 = .ok (.pop, 1) := by decide +kernel
theorem dL_law_1236 : decode cL_law 1236 = .ok (.goto 384, 3) := by decide +kernel
set_option maxHeartbeats 4000000 in
set_option maxRecDepth 100000 in
theorem law_c28 {p : Program} {l : Launch} {e : Env} {R : Room} {s : State} {m : MethodId} {args : Array Value} {below : List Frame} {meth : Method} {c : Code} {Q : State → Prop} {D : va_G} {tys : List (ClassId × FieldType)} {base b L : Nat} {xs : Nat → Int32} (X : iv_X p m c cL_law 4 s args iv_W0 RL D classes tys base) (hty : iv_ty tys) (hRf : 1300 ≤ R.frames) (hRl : 26000 ≤ R.locals) (hX : va_X b L xs s s.heap) (hbl : b < s.heap.size) (hbb : b < base) {h1 h2 : Nat} {t i : Int32} (ii : iv_R 0 3577 i) (hiL : i.toInt + 7 ≤ (L : Int)) {cells slots : Nat} (hRc : cells + 7 ≤ R.cells) (hRs : slots + 896 ≤ R.slots) {G : iv_G} {H : Heap} {locs : List Loc} (hB : iv_B iv_sh D classes tys base G s.heap H locs) (hJ : lw_J t t h1 h2 G) {ls : Array Slot} (hl : lv_has ls 4 [(3, .int i), (0, .ref b), (1, .ref h1), (2, .ref h2)])
    (kk : ∀ (t' : Int32) (G1 : iv_G) (H1 : Heap) (locs1 : List Loc), iv_B iv_sh D classes tys base G1 s.heap H1 locs1 → lw_J t' t' h1 h2 G1 → W p l e R s m args below meth c H1 locs1 (cells + 7) (slots + 896) Q (F0 m 1620 ls [])) : W p l e R s m args below meth c H locs cells slots Q (F0 m 1164 ls []) := by
  have hx := X.1.1
  have hb := X.1.2.1
  have hbA : ¬ iv_A base b := fun q => absurd (show base ≤ b from q) (by omega)
  obtain ⟨cf, cn, cp, cW, ca, cb, hJ, hW1, hW2, hF1, hF2⟩ := hJ
  refine lv_aload_n hx hb dL_law_1164 rfl (lv_at hl 2 rfl) ?_
  refine lv_aload_n hx hb dL_law_1165 rfl (lv_at hl 1 rfl) ?_
  refine lv_iload_n hx hb dL_law_1166 rfl (lv_at hl 0 rfl) ?_
  refine lv_iconst (v := 1) hx hb dL_law_1167 (by decide) ?_
  refine iv_iadd hx hb ii q_1 (lo := 1) (hi := 3578) (by decide) dL_law_1168 (fun y1 e_y1 i_y1 => ?_)
  refine va_sld hx hb hX hbl hbA hB.2.1 (iv_inU i_y1 (by decide) (by have w1 : y1.toInt = i.toInt + (1 : Int32).toInt := e_y1; have w2 : (1 : Int32).toInt = 1 := rfl; omega)) dL_law_1169 ?_
  refine lv_topi (fun x2 e_x2 => ?_)
  have i_x2 := iv_R.all x2
  refine lv_aload_n hx hb dL_law_1170 rfl (lv_at hl 1 rfl) ?_
  refine lv_iload_n hx hb dL_law_1171 rfl (lv_at hl 0 rfl) ?_
  refine lv_iconst (v := 2) hx hb dL_law_1172 (by decide) ?_
  refine iv_iadd hx hb ii q_2 (lo := 2) (hi := 3579) (by decide) dL_law_1173 (fun y3 e_y3 i_y3 => ?_)
  refine va_sld hx hb hX hbl hbA hB.2.1 (iv_inU i_y3 (by decide) (by have w1 : y3.toInt = i.toInt + (2 : Int32).toInt := e_y3; have w2 : (2 : Int32).toInt = 2 := rfl; omega)) dL_law_1174 ?_
  refine lv_topi (fun x4 e_x4 => ?_)
  have i_x4 := iv_R.all x4
  refine lv_aload_n hx hb dL_law_1175 rfl (lv_at hl 1 rfl) ?_
  refine lv_iload_n hx hb dL_law_1176 rfl (lv_at hl 0 rfl) ?_
  refine lv_iconst (v := 3) hx hb dL_law_1177 (by decide) ?_
  refine iv_iadd hx hb ii q_3 (lo := 3) (hi := 3580) (by decide) dL_law_1178 (fun y5 e_y5 i_y5 => ?_)
  refine va_sld hx hb hX hbl hbA hB.2.1 (iv_inU i_y5 (by decide) (by have w1 : y5.toInt = i.toInt + (3 : Int32).toInt := e_y5; have w2 : (3 : Int32).toInt = 3 := rfl; omega)) dL_law_1179 ?_
  refine lv_topi (fun x6 e_x6 => ?_)
  have i_x6 := iv_R.all x6
  refine lv_aload_n hx hb dL_law_1180 rfl (lv_at hl 1 rfl) ?_
  refine lv_iload_n hx hb dL_law_1181 rfl (lv_at hl 0 rfl) ?_
  refine lv_iconst (v := 4) hx hb dL_law_1182 (by decide) ?_
  refine iv_iadd hx hb ii q_4 (lo := 4) (hi := 3581) (by decide) dL_law_1183 (fun y7 e_y7 i_y7 => ?_)
  refine va_sld hx hb hX hbl hbA hB.2.1 (iv_inU i_y7 (by decide) (by have w1 : y7.toInt = i.toInt + (4 : Int32).toInt := e_y7; have w2 : (4 : Int32).toInt = 4 := rfl; omega)) dL_law_1184 ?_
  refine lv_topi (fun x8 e_x8 => ?_)
  have i_x8 := iv_R.all x8
  refine lv_aload_n hx hb dL_law_1185 rfl (lv_at hl 1 rfl) ?_
  refine lv_iload_n hx hb dL_law_1186 rfl (lv_at hl 0 rfl) ?_
  refine lv_iconst (v := 5) hx hb dL_law_1187 (by decide) ?_
  refine iv_iadd hx hb ii q_5 (lo := 5) (hi := 3582) (by decide) dL_law_1188 (fun y9 e_y9 i_y9 => ?_)
  refine va_sld hx hb hX hbl hbA hB.2.1 (iv_inU i_y9 (by decide) (by have w1 : y9.toInt = i.toInt + (5 : Int32).toInt := e_y9; have w2 : (5 : Int32).toInt = 5 := rfl; omega)) dL_law_1189 ?_
  refine lv_topi (fun x10 e_x10 => ?_)
  have i_x10 := iv_R.all x10
  refine lv_aload_n hx hb dL_law_1190 rfl (lv_at hl 1 rfl) ?_
  refine lv_iload_n hx hb dL_law_1191 rfl (lv_at hl 0 rfl) ?_
  refine lv_bipush (v := 6) hx hb dL_law_1192 (by decide) ?_
  refine iv_iadd hx hb ii q_6 (lo := 6) (hi := 3583) (by decide) dL_law_1194 (fun y11 e_y11 i_y11 => ?_)
  refine va_sld hx hb hX hbl hbA hB.2.1 (iv_inU i_y11 (by decide) (by have w1 : y11.toInt = i.toInt + (6 : Int32).toInt := e_y11; have w2 : (6 : Int32).toInt = 6 := rfl; omega)) dL_law_1195 ?_
  refine lv_topi (fun x12 e_x12 => ?_)
  have i_x12 := iv_R.all x12
  obtain ⟨g1, r1, g2, r2, a1, a2, q1, q2, hne, qf1, qf2, hnr, kn1, kp1, kn2, kp2⟩ := id hJ
  refine iv_cVi X k_good k_mf_X11_louder k_im_X11_louder k_sel_X11_louder k_ml_L_134 ft_X11 hB a1 sh_11 (As := [.int x2, .int x4, .int x6, .int x8, .int x10, .int x12]) (c_X11_louder l D tys base G h1 g1 r1 a1 x2 i_x2 x4 i_x4 x6 i_x6 x8 i_x8 x10 i_x10 x12 i_x12) ⟨rfl, rfl⟩ ⟨Nat.le_trans (m := 1300) (Nat.le_of_ble_eq_true rfl) hRf, Nat.le_trans (m := 26000) (Nat.le_of_ble_eq_true rfl) hRl⟩ ⟨by omega, by omega⟩ rfl rfl hl.1 (Nat.le_of_ble_eq_true rfl) dL_law_1196 (fun v13 G13 H locs hq hB => ?_)
  have hJ := hJ.same hq.1
  have hW1 := lw_same hW1 hq.1
  have hW2 := lw_same hW2 hq.1
  have hF1 := lw_same hF1 hq.1
  have hF2 := lw_same hF2 hq.1
  refine lv_pop hx hb dL_law_1199 rfl ?_
  refine lv_aload_n hx hb dL_law_1200 rfl (lv_at hl 3 rfl) ?_
  refine lv_aload_n hx hb dL_law_1201 rfl (lv_at hl 1 rfl) ?_
  refine lv_iload_n hx hb dL_law_1202 rfl (lv_at hl 0 rfl) ?_
  refine lv_iconst (v := 1) hx hb dL_law_1203 (by decide) ?_
  refine iv_iadd hx hb ii q_1 (lo := 1) (hi := 3578) (by decide) dL_law_1204 (fun y14 e_y14 i_y14 => ?_)
  refine va_sld hx hb hX hbl hbA hB.2.1 (iv_inU i_y14 (by decide) (by have w1 : y14.toInt = i.toInt + (1 : Int32).toInt := e_y14; have w2 : (1 : Int32).toInt = 1 := rfl; omega)) dL_law_1205 ?_
  refine lv_topi (fun x15 e_x15 => ?_)
  have i_x15 := iv_R.all x15
  refine lv_aload_n hx hb dL_law_1206 rfl (lv_at hl 1 rfl) ?_
  refine lv_iload_n hx hb dL_law_1207 rfl (lv_at hl 0 rfl) ?_
  refine lv_iconst (v := 2) hx hb dL_law_1208 (by decide) ?_
  refine iv_iadd hx hb ii q_2 (lo := 2) (hi := 3579) (by decide) dL_law_1209 (fun y16 e_y16 i_y16 => ?_)
  refine va_sld hx hb hX hbl hbA hB.2.1 (iv_inU i_y16 (by decide) (by have w1 : y16.toInt = i.toInt + (2 : Int32).toInt := e_y16; have w2 : (2 : Int32).toInt = 2 := rfl; omega)) dL_law_1210 ?_
  refine lv_topi (fun x17 e_x17 => ?_)
  have i_x17 := iv_R.all x17
  refine lv_aload_n hx hb dL_law_1211 rfl (lv_at hl 1 rfl) ?_
  refine lv_iload_n hx hb dL_law_1212 rfl (lv_at hl 0 rfl) ?_
  refine lv_iconst (v := 3) hx hb dL_law_1213 (by decide) ?_
  refine iv_iadd hx hb ii q_3 (lo := 3) (hi := 3580) (by decide) dL_law_1214 (fun y18 e_y18 i_y18 => ?_)
  refine va_sld hx hb hX hbl hbA hB.2.1 (iv_inU i_y18 (by decide) (by have w1 : y18.toInt = i.toInt + (3 : Int32).toInt := e_y18; have w2 : (3 : Int32).toInt = 3 := rfl; omega)) dL_law_1215 ?_
  refine lv_topi (fun x19 e_x19 => ?_)
  have i_x19 := iv_R.all x19
  refine lv_aload_n hx hb dL_law_1216 rfl (lv_at hl 1 rfl) ?_
  refine lv_iload_n hx hb dL_law_1217 rfl (lv_at hl 0 rfl) ?_
  refine lv_iconst (v := 4) hx hb dL_law_1218 (by decide) ?_
  refine iv_iadd hx hb ii q_4 (lo := 4) (hi := 3581) (by decide) dL_law_1219 (fun y20 e_y20 i_y20 => ?_)
  refine va_sld hx hb hX hbl hbA hB.2.1 (iv_inU i_y20 (by decide) (by have w1 : y20.toInt = i.toInt + (4 : Int32).toInt := e_y20; have w2 : (4 : Int32).toInt = 4 := rfl; omega)) dL_law_1220 ?_
  refine lv_topi (fun x21 e_x21 => ?_)
  have i_x21 := iv_R.all x21
  refine lv_aload_n hx hb dL_law_1221 rfl (lv_at hl 1 rfl) ?_
  refine lv_iload_n hx hb dL_law_1222 rfl (lv_at hl 0 rfl) ?_
  refine lv_iconst (v := 5) hx hb dL_law_1223 (by decide) ?_
  refine iv_iadd hx hb ii q_5 (lo := 5) (hi := 3582) (by decide) dL_law_1224 (fun y22 e_y22 i_y22 => ?_)
  refine va_sld hx hb hX hbl hbA hB.2.1 (iv_inU i_y22 (by decide) (by have w1 : y22.toInt = i.toInt + (5 : Int32).toInt := e_y22; have w2 : (5 : Int32).toInt = 5 := rfl; omega)) dL_law_1225 ?_
  refine lv_topi (fun x23 e_x23 => ?_)
  have i_x23 := iv_R.all x23
  refine lv_aload_n hx hb dL_law_1226 rfl (lv_at hl 1 rfl) ?_
  refine lv_iload_n hx hb dL_law_1227 rfl (lv_at hl 0 rfl) ?_
  refine lv_bipush (v := 6) hx hb dL_law_1228 (by decide) ?_
  refine iv_iadd hx hb ii q_6 (lo := 6) (hi := 3583) (by decide) dL_law_1230 (fun y24 e_y24 i_y24 => ?_)
  refine va_sld hx hb hX hbl hbA hB.2.1 (iv_inU i_y24 (by decide) (by have w1 : y24.toInt = i.toInt + (6 : Int32).toInt := e_y24; have w2 : (6 : Int32).toInt = 6 := rfl; omega)) dL_law_1231 ?_
  refine lv_topi (fun x25 e_x25 => ?_)
  have i_x25 := iv_R.all x25
  obtain ⟨g1, r1, g2, r2, a1, a2, q1, q2, hne, qf1, qf2, hnr, kn1, kp1, kn2, kp2⟩ := id hJ
  refine iv_cVi X k_good k_mf_X12_louder k_im_X12_louder k_sel_X12_louder k_ml_L_138 ft_X12 hB a2 sh_12 (As := [.int x15, .int x17, .int x19, .int x21, .int x23, .int x25]) (c_X12_louder l D tys base G13 h2 g2 r2 a2 x15 i_x15 x17 i_x17 x19 i_x19 x21 i_x21 x23 i_x23 x25 i_x25) ⟨rfl, rfl⟩ ⟨Nat.le_trans (m := 1300) (Nat.le_of_ble_eq_true rfl) hRf, Nat.le_trans (m := 26000) (Nat.le_of_ble_eq_true rfl) hRl⟩ ⟨by omega, by omega⟩ rfl rfl hl.1 (Nat.le_of_ble_eq_true rfl) dL_law_1232 (fun v26 G26 H locs hq hB => ?_)
  have hJ := hJ.same hq.1
  have hW1 := lw_same hW1 hq.1
  have hW2 := lw_same hW2 hq.1
  have hF1 := lw_same hF1 hq.1
  have hF2 := lw_same hF2 hq.1
  refine lv_pop hx hb dL_law_1235 rfl ?_
  refine lv_goto (tgt := 1620) hx hb dL_law_1236 (by decide) ?_
  refine W.widen (k := cells + 7) (n := slots + 896) (by omega) (by omega) ?_
  exact kk _ _ _ _ hB ⟨_, _, _, _, _, _, hJ, hW1, hW2, hF1, hF2⟩
theorem dL_law_1239 : decode cL_law 1239 = .ok (.aload_n 1, 1) := by decide +kernel
theorem dL_law_1240 : decode cL_law 1240 = .ok (.aload_n 0, 1) := by decide +kernel
theorem dL_law_1241 : decode cL_law 1241 = .ok (.iload_n 3, 1) := by decide +kernel
theorem dL_law_1242 : decode cL_law 1242 = .ok (.iconst 1, 1) := by decide +kernel
theorem dL_law_1243 : decode cL_law 1243 = .ok (.iadd, 1) := by decide +kernel
theorem dL_law_1244 : decode cL_law 1244 = .ok (.iaload, 1) := by decide +kernel
theorem dL_law_1245 : decode cL_law 1245 = .ok (.invokevirtual 139, 3) := by decide +kernel
theorem dL_law_1248 : decode cL_law 1248 = .ok (.pop, 1) := by decide +kernel
theorem dL_law_1249 : decode cL_law 1249 = .ok (.aload_n 2, 1) := by decide +kernel
theorem dL_law_1250 : decode cL_law 1250 = .ok (.aload_n 0, 1) := by decide +kernel
theorem dL_law_1251 : decode cL_law 1251 = .ok (.iload_n 3, 1) := by decide +kernel
theorem dL_law_1252 : decode cL_law 1252 = .ok (.iconst 1, 1) := by decide +kernel
theorem dL_law_1253 : decode cL_law 1253 = .ok (.iadd, 1) := by decide +kernel
theorem dL_law_1254 : decode cL_law 1254 = .ok (.iaload, 1) := by decide +kernel
theorem dL_law_1255 : decode cL_law 1255 = .ok (.invokevirtual 142, 3) := by decide +kernel
theorem dL_law_1258 : decode cL_law 1258 = .ok (.pop, 1) := by decide +kernel
theorem dL_law_1259 : decode cL_law 1259 = .ok (.goto 361, 3) := by decide +kernel
set_option maxHeartbeats 4000000 in
set_option maxRecDepth 100000 in
theorem law_c29 {p : Program} {l : Launch} {e : Env} {R : Room} {s : State} {m : MethodId} {args : Array Value} {below : List Frame} {meth : Method} {c : Code} {Q : State → Prop} {D : va_G} {tys : List (ClassId × FieldType)} {base b L : Nat} {xs : Nat → Int32} (X : iv_X p m c cL_law 4 s args iv_W0 RL D classes tys base) (hty : iv_ty tys) (hRf : 1300 ≤ R.frames) (hRl : 26000 ≤ R.locals) (hX : va_X b L xs s s.heap) (hbl : b < s.heap.size) (hbb : b < base) {h1 h2 : Nat} {t i : Int32} (ii : iv_R 0 3577 i) (hiL : i.toInt + 7 ≤ (L : Int)) {cells slots : Nat} (hRc : cells + 7 ≤ R.cells) (hRs : slots + 896 ≤ R.slots) {G : iv_G} {H : Heap} {locs : List Loc} (hB : iv_B iv_sh D classes tys base G s.heap H locs) (hJ : lw_J t t h1 h2 G) {ls : Array Slot} (hl : lv_has ls 4 [(3, .int i), (0, .ref b), (1, .ref h1), (2, .ref h2)])
    (kk : ∀ (t' : Int32) (G1 : iv_G) (H1 : Heap) (locs1 : List Loc), iv_B iv_sh D classes tys base G1 s.heap H1 locs1 → lw_J t' t' h1 h2 G1 → W p l e R s m args below meth c H1 locs1 (cells + 7) (slots + 896) Q (F0 m 1620 ls [])) : W p l e R s m args below meth c H locs cells slots Q (F0 m 1239 ls []) := by
  have hx := X.1.1
  have hb := X.1.2.1
  have hbA : ¬ iv_A base b := fun q => absurd (show base ≤ b from q) (by omega)
  obtain ⟨cf, cn, cp, cW, ca, cb, hJ, hW1, hW2, hF1, hF2⟩ := hJ
  refine lv_aload_n hx hb dL_law_1239 rfl (lv_at hl 2 rfl) ?_
  refine lv_aload_n hx hb dL_law_1240 rfl (lv_at hl 1 rfl) ?_
  refine lv_iload_n hx hb dL_law_1241 rfl (lv_at hl 0 rfl) ?_
  refine lv_iconst (v := 1) hx hb dL_law_1242 (by decide) ?_
  refine iv_iadd hx hb ii q_1 (lo := 1) (hi := 3578) (by decide) dL_law_1243 (fun y1 e_y1 i_y1 => ?_)
  refine va_sld hx hb hX hbl hbA hB.2.1 (iv_inU i_y1 (by decide) (by have w1 : y1.toInt = i.toInt + (1 : Int32).toInt := e_y1; have w2 : (1 : Int32).toInt = 1 := rfl; omega)) dL_law_1244 ?_
  refine lv_topi (fun x2 e_x2 => ?_)
  have i_x2 := iv_R.all x2
  obtain ⟨g1, r1, g2, r2, a1, a2, q1, q2, hne, qf1, qf2, hnr, kn1, kp1, kn2, kp2⟩ := id hJ
  refine iv_cVi X k_good k_mf_X11_ropes k_im_X11_ropes k_sel_X11_ropes k_ml_L_139 ft_X11 hB a1 sh_11 (As := [.int x2]) (c_X11_ropes l D tys base G h1 g1 r1 a1 x2 i_x2) ⟨rfl, rfl⟩ ⟨Nat.le_trans (m := 1300) (Nat.le_of_ble_eq_true rfl) hRf, Nat.le_trans (m := 26000) (Nat.le_of_ble_eq_true rfl) hRl⟩ ⟨by omega, by omega⟩ rfl rfl hl.1 (Nat.le_of_ble_eq_true rfl) dL_law_1245 (fun v3 G3 H locs hq hB => ?_)
  have hJ := hJ.same hq.1
  have hW1 := lw_same hW1 hq.1
  have hW2 := lw_same hW2 hq.1
  have hF1 := lw_same hF1 hq.1
  have hF2 := lw_same hF2 hq.1
  refine lv_pop hx hb dL_law_1248 rfl ?_
  refine lv_aload_n hx hb dL_law_1249 rfl (lv_at hl 3 rfl) ?_
  refine lv_aload_n hx hb dL_law_1250 rfl (lv_at hl 1 rfl) ?_
  refine lv_iload_n hx hb dL_law_1251 rfl (lv_at hl 0 rfl) ?_
  refine lv_iconst (v := 1) hx hb dL_law_1252 (by decide) ?_
  refine iv_iadd hx hb ii q_1 (lo := 1) (hi := 3578) (by decide) dL_law_1253 (fun y4 e_y4 i_y4 => ?_)
  refine va_sld hx hb hX hbl hbA hB.2.1 (iv_inU i_y4 (by decide) (by have w1 : y4.toInt = i.toInt + (1 : Int32).toInt := e_y4; have w2 : (1 : Int32).toInt = 1 := rfl; omega)) dL_law_1254 ?_
  refine lv_topi (fun x5 e_x5 => ?_)
  have i_x5 := iv_R.all x5
  obtain ⟨g1, r1, g2, r2, a1, a2, q1, q2, hne, qf1, qf2, hnr, kn1, kp1, kn2, kp2⟩ := id hJ
  refine iv_cVi X k_good k_mf_X12_ropes k_im_X12_ropes k_sel_X12_ropes k_ml_L_142 ft_X12 hB a2 sh_12 (As := [.int x5]) (c_X12_ropes l D tys base G3 h2 g2 r2 a2 x5 i_x5) ⟨rfl, rfl⟩ ⟨Nat.le_trans (m := 1300) (Nat.le_of_ble_eq_true rfl) hRf, Nat.le_trans (m := 26000) (Nat.le_of_ble_eq_true rfl) hRl⟩ ⟨by omega, by omega⟩ rfl rfl hl.1 (Nat.le_of_ble_eq_true rfl) dL_law_1255 (fun v6 G6 H locs hq hB => ?_)
  have hJ := hJ.same hq.1
  have hW1 := lw_same hW1 hq.1
  have hW2 := lw_same hW2 hq.1
  have hF1 := lw_same hF1 hq.1
  have hF2 := lw_same hF2 hq.1
  refine lv_pop hx hb dL_law_1258 rfl ?_
  refine lv_goto (tgt := 1620) hx hb dL_law_1259 (by decide) ?_
  refine W.widen (k := cells + 7) (n := slots + 896) (by omega) (by omega) ?_
  exact kk _ _ _ _ hB ⟨_, _, _, _, _, _, hJ, hW1, hW2, hF1, hF2⟩
theorem dL_law_1262 : decode cL_law 1262 = .ok (.aload_n 1, 1) := by decide +kernel
theorem dL_law_1263 : decode cL_law 1263 = .ok (.aload_n 0, 1) := by decide +kernel
theorem dL_law_1264 : decode cL_law 1264 = .ok (.iload_n 3, 1) := by decide +kernel
theorem dL_law_1265 : decode cL_law 1265 = .ok (.iconst 1, 1) := by decide +kernel
theorem dL_law_1266 : decode cL_law 1266 = .ok (.iadd, 1) := by decide +kernel
theorem dL_law_1267 : decode cL_law 1267 = .ok (.iaload, 1) := by decide +kernel
theorem dL_law_1268 : decode cL_law 1268 = .ok (.invokevirtual 143, 3) := by decide +kernel
theorem dL_law_1271 : decode cL_law 1271 = .ok (.pop, 1) := by decide +kernel
theorem dL_law_1272 : decode cL_law 1272 = .ok (.aload_n 2, 1) := by decide +kernel
theorem dL_law_1273 : decode cL_law 1273 = .ok (.aload_n 0, 1) := by decide +kernel
theorem dL_law_1274 : decode cL_law 1274 = .ok (.iload_n 3, 1) := by decide +kernel
theorem dL_law_1275 : decode cL_law 1275 = .ok (.iconst 1, 1) := by decide +kernel
theorem dL_law_1276 : decode cL_law 1276 = .ok (.iadd, 1) := by decide +kernel
theorem dL_law_1277 : decode cL_law 1277 = .ok (.iaload, 1) := by decide +kernel
theorem dL_law_1278 : decode cL_law 1278 = .ok (.invokevirtual 146, 3) := by decide +kernel
theorem dL_law_1281 : decode cL_law 1281 = .ok (.pop, 1) := by decide +kernel
theorem dL_law_1282 : decode cL_law 1282 = .ok (.goto 338, 3) := by decide +kernel
set_option maxHeartbeats 4000000 in
set_option maxRecDepth 100000 in
theorem law_c30 {p : Program} {l : Launch} {e : Env} {R : Room} {s : State} {m : MethodId} {args : Array Value} {below : List Frame} {meth : Method} {c : Code} {Q : State → Prop} {D : va_G} {tys : List (ClassId × FieldType)} {base b L : Nat} {xs : Nat → Int32} (X : iv_X p m c cL_law 4 s args iv_W0 RL D classes tys base) (hty : iv_ty tys) (hRf : 1300 ≤ R.frames) (hRl : 26000 ≤ R.locals) (hX : va_X b L xs s s.heap) (hbl : b < s.heap.size) (hbb : b < base) {h1 h2 : Nat} {t i : Int32} (ii : iv_R 0 3577 i) (hiL : i.toInt + 7 ≤ (L : Int)) {cells slots : Nat} (hRc : cells + 7 ≤ R.cells) (hRs : slots + 896 ≤ R.slots) {G : iv_G} {H : Heap} {locs : List Loc} (hB : iv_B iv_sh D classes tys base G s.heap H locs) (hJ : lw_J t t h1 h2 G) {ls : Array Slot} (hl : lv_has ls 4 [(3, .int i), (0, .ref b), (1, .ref h1), (2, .ref h2)])
    (kk : ∀ (t' : Int32) (G1 : iv_G) (H1 : Heap) (locs1 : List Loc), iv_B iv_sh D classes tys base G1 s.heap H1 locs1 → lw_J t' t' h1 h2 G1 → W p l e R s m args below meth c H1 locs1 (cells + 7) (slots + 896) Q (F0 m 1620 ls [])) : W p l e R s m args below meth c H locs cells slots Q (F0 m 1262 ls []) := by
  have hx := X.1.1
  have hb := X.1.2.1
  have hbA : ¬ iv_A base b := fun q => absurd (show base ≤ b from q) (by omega)
  obtain ⟨cf, cn, cp, cW, ca, cb, hJ, hW1, hW2, hF1, hF2⟩ := hJ
  refine lv_aload_n hx hb dL_law_1262 rfl (lv_at hl 2 rfl) ?_
  refine lv_aload_n hx hb dL_law_1263 rfl (lv_at hl 1 rfl) ?_
  refine lv_iload_n hx hb dL_law_1264 rfl (lv_at hl 0 rfl) ?_
  refine lv_iconst (v := 1) hx hb dL_law_1265 (by decide) ?_
  refine iv_iadd hx hb ii q_1 (lo := 1) (hi := 3578) (by decide) dL_law_1266 (fun y1 e_y1 i_y1 => ?_)
  refine va_sld hx hb hX hbl hbA hB.2.1 (iv_inU i_y1 (by decide) (by have w1 : y1.toInt = i.toInt + (1 : Int32).toInt := e_y1; have w2 : (1 : Int32).toInt = 1 := rfl; omega)) dL_law_1267 ?_
  refine lv_topi (fun x2 e_x2 => ?_)
  have i_x2 := iv_R.all x2
  obtain ⟨g1, r1, g2, r2, a1, a2, q1, q2, hne, qf1, qf2, hnr, kn1, kp1, kn2, kp2⟩ := id hJ
  refine iv_cVi X k_good k_mf_X11_free k_im_X11_free k_sel_X11_free k_ml_L_143 ft_X11 hB a1 sh_11 (As := [.int x2]) (c_X11_free l D tys base G h1 g1 r1 a1 x2 i_x2) ⟨rfl, rfl⟩ ⟨Nat.le_trans (m := 1300) (Nat.le_of_ble_eq_true rfl) hRf, Nat.le_trans (m := 26000) (Nat.le_of_ble_eq_true rfl) hRl⟩ ⟨by omega, by omega⟩ rfl rfl hl.1 (Nat.le_of_ble_eq_true rfl) dL_law_1268 (fun v3 G3 H locs hq hB => ?_)
  have hJ := hJ.md hq.1
  have hW1 := hW1.K (iv_MdT.of hq.1) (by decide) (by decide)
  have hW2 := hW2.K (iv_MdT.of hq.1) (by decide) (by decide)
  have hF1 := hF1.K (iv_MdT.of hq.1) (by decide)
  have hF2 := hF2.K (iv_MdT.of hq.1) (by decide) (by decide)
  refine lv_pop hx hb dL_law_1271 rfl ?_
  refine lv_aload_n hx hb dL_law_1272 rfl (lv_at hl 3 rfl) ?_
  refine lv_aload_n hx hb dL_law_1273 rfl (lv_at hl 1 rfl) ?_
  refine lv_iload_n hx hb dL_law_1274 rfl (lv_at hl 0 rfl) ?_
  refine lv_iconst (v := 1) hx hb dL_law_1275 (by decide) ?_
  refine iv_iadd hx hb ii q_1 (lo := 1) (hi := 3578) (by decide) dL_law_1276 (fun y4 e_y4 i_y4 => ?_)
  refine va_sld hx hb hX hbl hbA hB.2.1 (iv_inU i_y4 (by decide) (by have w1 : y4.toInt = i.toInt + (1 : Int32).toInt := e_y4; have w2 : (1 : Int32).toInt = 1 := rfl; omega)) dL_law_1277 ?_
  refine lv_topi (fun x5 e_x5 => ?_)
  have i_x5 := iv_R.all x5
  obtain ⟨g1, r1, g2, r2, a1, a2, q1, q2, hne, qf1, qf2, hnr, kn1, kp1, kn2, kp2⟩ := id hJ
  refine iv_cVi X k_good k_mf_X12_free k_im_X12_free k_sel_X12_free k_ml_L_146 ft_X12 hB a2 sh_12 (As := [.int x5]) (c_X12_free l D tys base G3 h2 g2 r2 a2 x5 i_x5) ⟨rfl, rfl⟩ ⟨Nat.le_trans (m := 1300) (Nat.le_of_ble_eq_true rfl) hRf, Nat.le_trans (m := 26000) (Nat.le_of_ble_eq_true rfl) hRl⟩ ⟨by omega, by omega⟩ rfl rfl hl.1 (Nat.le_of_ble_eq_true rfl) dL_law_1278 (fun v6 G6 H locs hq hB => ?_)
  have hJ := hJ.md hq.1
  have hW1 := hW1.K (iv_MdT.of hq.1) (by decide) (by decide)
  have hW2 := hW2.K (iv_MdT.of hq.1) (by decide) (by decide)
  have hF1 := hF1.K (iv_MdT.of hq.1) (by decide)
  have hF2 := hF2.K (iv_MdT.of hq.1) (by decide) (by decide)
  refine lv_pop hx hb dL_law_1281 rfl ?_
  refine lv_goto (tgt := 1620) hx hb dL_law_1282 (by decide) ?_
  refine W.widen (k := cells + 7) (n := slots + 896) (by omega) (by omega) ?_
  exact kk _ _ _ _ hB ⟨_, _, _, _, _, _, hJ, hW1, hW2, hF1, hF2⟩
theorem dL_law_1285 : decode cL_law 1285 = .ok (.aload_n 1, 1) := by decide +kernel
theorem dL_law_1286 : decode cL_law 1286 = .ok (.aload_n 0, 1) := by decide +kernel
theorem dL_law_1287 : decode cL_law 1287 = .ok (.iload_n 3, 1) := by decide +kernel
theorem dL_law_1288 : decode cL_law 1288 = .ok (.iconst 1, 1) := by decide +kernel
theorem dL_law_1289 : decode cL_law 1289 = .ok (.iadd, 1) := by decide +kernel
theorem dL_law_1290 : decode cL_law 1290 = .ok (.iaload, 1) := by decide +kernel
theorem dL_law_1291 : decode cL_law 1291 = .ok (.invokevirtual 147, 3) := by decide +kernel
theorem dL_law_1294 : decode cL_law 1294 = .ok (.pop, 1) := by decide +kernel
theorem dL_law_1295 : decode cL_law 1295 = .ok (.aload_n 2, 1) := by decide +kernel
theorem dL_law_1296 : decode cL_law 1296 = .ok (.aload_n 0, 1) := by decide +kernel
theorem dL_law_1297 : decode cL_law 1297 = .ok (.iload_n 3, 1) := by decide +kernel
theorem dL_law_1298 : decode cL_law 1298 = .ok (.iconst 1, 1) := by decide +kernel
theorem dL_law_1299 : decode cL_law 1299 = .ok (.iadd, 1) := by decide +kernel
theorem dL_law_1300 : decode cL_law 1300 = .ok (.iaload, 1) := by decide +kernel
theorem dL_law_1301 : decode cL_law 1301 = .ok (.invokevirtual 150, 3) := by decide +kernel
theorem dL_law_1304 : decode cL_law 1304 = .ok (.pop, 1) := by decide +kernel
theorem dL_law_1305 : decode cL_law 1305 = .ok (.goto 315, 3) := by decide +kernel
set_option maxHeartbeats 4000000 in
set_option maxRecDepth 100000 in
theorem law_c31 {p : Program} {l : Launch} {e : Env} {R : Room} {s : State} {m : MethodId} {args : Array Value} {below : List Frame} {meth : Method} {c : Code} {Q : State → Prop} {D : va_G} {tys : List (ClassId × FieldType)} {base b L : Nat} {xs : Nat → Int32} (X : iv_X p m c cL_law 4 s args iv_W0 RL D classes tys base) (hty : iv_ty tys) (hRf : 1300 ≤ R.frames) (hRl : 26000 ≤ R.locals) (hX : va_X b L xs s s.heap) (hbl : b < s.heap.size) (hbb : b < base) {h1 h2 : Nat} {t i : Int32} (ii : iv_R 0 3577 i) (hiL : i.toInt + 7 ≤ (L : Int)) {cells slots : Nat} (hRc : cells + 7 ≤ R.cells) (hRs : slots + 896 ≤ R.slots) {G : iv_G} {H : Heap} {locs : List Loc} (hB : iv_B iv_sh D classes tys base G s.heap H locs) (hJ : lw_J t t h1 h2 G) {ls : Array Slot} (hl : lv_has ls 4 [(3, .int i), (0, .ref b), (1, .ref h1), (2, .ref h2)])
    (kk : ∀ (t' : Int32) (G1 : iv_G) (H1 : Heap) (locs1 : List Loc), iv_B iv_sh D classes tys base G1 s.heap H1 locs1 → lw_J t' t' h1 h2 G1 → W p l e R s m args below meth c H1 locs1 (cells + 7) (slots + 896) Q (F0 m 1620 ls [])) : W p l e R s m args below meth c H locs cells slots Q (F0 m 1285 ls []) := by
  have hx := X.1.1
  have hb := X.1.2.1
  have hbA : ¬ iv_A base b := fun q => absurd (show base ≤ b from q) (by omega)
  obtain ⟨cf, cn, cp, cW, ca, cb, hJ, hW1, hW2, hF1, hF2⟩ := hJ
  refine lv_aload_n hx hb dL_law_1285 rfl (lv_at hl 2 rfl) ?_
  refine lv_aload_n hx hb dL_law_1286 rfl (lv_at hl 1 rfl) ?_
  refine lv_iload_n hx hb dL_law_1287 rfl (lv_at hl 0 rfl) ?_
  refine lv_iconst (v := 1) hx hb dL_law_1288 (by decide) ?_
  refine iv_iadd hx hb ii q_1 (lo := 1) (hi := 3578) (by decide) dL_law_1289 (fun y1 e_y1 i_y1 => ?_)
  refine va_sld hx hb hX hbl hbA hB.2.1 (iv_inU i_y1 (by decide) (by have w1 : y1.toInt = i.toInt + (1 : Int32).toInt := e_y1; have w2 : (1 : Int32).toInt = 1 := rfl; omega)) dL_law_1290 ?_
  refine lv_topi (fun x2 e_x2 => ?_)
  have i_x2 := iv_R.all x2
  obtain ⟨g1, r1, g2, r2, a1, a2, q1, q2, hne, qf1, qf2, hnr, kn1, kp1, kn2, kp2⟩ := id hJ
  refine iv_cVi X k_good k_mf_X11_placed k_im_X11_placed k_sel_X11_placed k_ml_L_147 ft_X11 hB a1 sh_11 (As := [.int x2]) (c_X11_placed l D tys base G h1 g1 r1 a1 x2 i_x2) ⟨rfl, rfl⟩ ⟨Nat.le_trans (m := 1300) (Nat.le_of_ble_eq_true rfl) hRf, Nat.le_trans (m := 26000) (Nat.le_of_ble_eq_true rfl) hRl⟩ ⟨by omega, by omega⟩ rfl rfl hl.1 (Nat.le_of_ble_eq_true rfl) dL_law_1291 (fun v3 G3 H locs hq hB => ?_)
  have hJ := hJ.md hq.1
  have hW1 := hW1.K (iv_MdT.of hq.1) (by decide) (by decide)
  have hW2 := hW2.K (iv_MdT.of hq.1) (by decide) (by decide)
  have hF1 := hF1.K (iv_MdT.of hq.1) (by decide)
  have hF2 := hF2.K (iv_MdT.of hq.1) (by decide) (by decide)
  refine lv_pop hx hb dL_law_1294 rfl ?_
  refine lv_aload_n hx hb dL_law_1295 rfl (lv_at hl 3 rfl) ?_
  refine lv_aload_n hx hb dL_law_1296 rfl (lv_at hl 1 rfl) ?_
  refine lv_iload_n hx hb dL_law_1297 rfl (lv_at hl 0 rfl) ?_
  refine lv_iconst (v := 1) hx hb dL_law_1298 (by decide) ?_
  refine iv_iadd hx hb ii q_1 (lo := 1) (hi := 3578) (by decide) dL_law_1299 (fun y4 e_y4 i_y4 => ?_)
  refine va_sld hx hb hX hbl hbA hB.2.1 (iv_inU i_y4 (by decide) (by have w1 : y4.toInt = i.toInt + (1 : Int32).toInt := e_y4; have w2 : (1 : Int32).toInt = 1 := rfl; omega)) dL_law_1300 ?_
  refine lv_topi (fun x5 e_x5 => ?_)
  have i_x5 := iv_R.all x5
  obtain ⟨g1, r1, g2, r2, a1, a2, q1, q2, hne, qf1, qf2, hnr, kn1, kp1, kn2, kp2⟩ := id hJ
  refine iv_cVi X k_good k_mf_X12_placed k_im_X12_placed k_sel_X12_placed k_ml_L_150 ft_X12 hB a2 sh_12 (As := [.int x5]) (c_X12_placed l D tys base G3 h2 g2 r2 a2 x5 i_x5) ⟨rfl, rfl⟩ ⟨Nat.le_trans (m := 1300) (Nat.le_of_ble_eq_true rfl) hRf, Nat.le_trans (m := 26000) (Nat.le_of_ble_eq_true rfl) hRl⟩ ⟨by omega, by omega⟩ rfl rfl hl.1 (Nat.le_of_ble_eq_true rfl) dL_law_1301 (fun v6 G6 H locs hq hB => ?_)
  have hJ := hJ.md hq.1
  have hW1 := hW1.K (iv_MdT.of hq.1) (by decide) (by decide)
  have hW2 := hW2.K (iv_MdT.of hq.1) (by decide) (by decide)
  have hF1 := hF1.K (iv_MdT.of hq.1) (by decide)
  have hF2 := hF2.K (iv_MdT.of hq.1) (by decide) (by decide)
  refine lv_pop hx hb dL_law_1304 rfl ?_
  refine lv_goto (tgt := 1620) hx hb dL_law_1305 (by decide) ?_
  refine W.widen (k := cells + 7) (n := slots + 896) (by omega) (by omega) ?_
  exact kk _ _ _ _ hB ⟨_, _, _, _, _, _, hJ, hW1, hW2, hF1, hF2⟩
theorem dL_law_1308 : decode cL_law 1308 = .ok (.aload_n 1, 1) := by decide +kernel
theorem dL_law_1309 : decode cL_law 1309 = .ok (.aload_n 0, 1) := by decide +kernel
theorem dL_law_1310 : decode cL_law 1310 = .ok (.iload_n 3, 1) := by decide +kernel
theorem dL_law_1311 : decode cL_law 1311 = .ok (.iconst 1, 1) := by decide +kernel
theorem dL_law_1312 : decode cL_law 1312 = .ok (.iadd, 1) := by decide +kernel
theorem dL_law_1313 : decode cL_law 1313 = .ok (.iaload, 1) := by decide +kernel
theorem dL_law_1314 : decode cL_law 1314 = .ok (.invokevirtual 151, 3) := by decide +kernel
theorem dL_law_1317 : decode cL_law 1317 = .ok (.pop, 1) := by decide +kernel
theorem dL_law_1318 : decode cL_law 1318 = .ok (.aload_n 2, 1) := by decide +kernel
theorem dL_law_1319 : decode cL_law 1319 = .ok (.aload_n 0, 1) := by decide +kernel
theorem dL_law_1320 : decode cL_law 1320 = .ok (.iload_n 3, 1) := by decide +kernel
theorem dL_law_1321 : decode cL_law 1321 = .ok (.iconst 1, 1) := by decide +kernel
theorem dL_law_1322 : decode cL_law 1322 = .ok (.iadd, 1) := by decide +kernel
theorem dL_law_1323 : decode cL_law 1323 = .ok (.iaload, 1) := by decide +kernel
theorem dL_law_1324 : decode cL_law 1324 = .ok (.invokevirtual 154, 3) := by decide +kernel
theorem dL_law_1327 : decode cL_law 1327 = .ok (.pop, 1) := by decide +kernel
theorem dL_law_1328 : decode cL_law 1328 = .ok (.goto 292, 3) := by decide +kernel
set_option maxHeartbeats 4000000 in
set_option maxRecDepth 100000 in
theorem law_c32 {p : Program} {l : Launch} {e : Env} {R : Room} {s : State} {m : MethodId} {args : Array Value} {below : List Frame} {meth : Method} {c : Code} {Q : State → Prop} {D : va_G} {tys : List (ClassId × FieldType)} {base b L : Nat} {xs : Nat → Int32} (X : iv_X p m c cL_law 4 s args iv_W0 RL D classes tys base) (hty : iv_ty tys) (hRf : 1300 ≤ R.frames) (hRl : 26000 ≤ R.locals) (hX : va_X b L xs s s.heap) (hbl : b < s.heap.size) (hbb : b < base) {h1 h2 : Nat} {t i : Int32} (ii : iv_R 0 3577 i) (hiL : i.toInt + 7 ≤ (L : Int)) {cells slots : Nat} (hRc : cells + 7 ≤ R.cells) (hRs : slots + 896 ≤ R.slots) {G : iv_G} {H : Heap} {locs : List Loc} (hB : iv_B iv_sh D classes tys base G s.heap H locs) (hJ : lw_J t t h1 h2 G) {ls : Array Slot} (hl : lv_has ls 4 [(3, .int i), (0, .ref b), (1, .ref h1), (2, .ref h2)])
    (kk : ∀ (t' : Int32) (G1 : iv_G) (H1 : Heap) (locs1 : List Loc), iv_B iv_sh D classes tys base G1 s.heap H1 locs1 → lw_J t' t' h1 h2 G1 → W p l e R s m args below meth c H1 locs1 (cells + 7) (slots + 896) Q (F0 m 1620 ls [])) : W p l e R s m args below meth c H locs cells slots Q (F0 m 1308 ls []) := by
  have hx := X.1.1
  have hb := X.1.2.1
  have hbA : ¬ iv_A base b := fun q => absurd (show base ≤ b from q) (by omega)
  obtain ⟨cf, cn, cp, cW, ca, cb, hJ, hW1, hW2, hF1, hF2⟩ := hJ
  refine lv_aload_n hx hb dL_law_1308 rfl (lv_at hl 2 rfl) ?_
  refine lv_aload_n hx hb dL_law_1309 rfl (lv_at hl 1 rfl) ?_
  refine lv_iload_n hx hb dL_law_1310 rfl (lv_at hl 0 rfl) ?_
  refine lv_iconst (v := 1) hx hb dL_law_1311 (by decide) ?_
  refine iv_iadd hx hb ii q_1 (lo := 1) (hi := 3578) (by decide) dL_law_1312 (fun y1 e_y1 i_y1 => ?_)
  refine va_sld hx hb hX hbl hbA hB.2.1 (iv_inU i_y1 (by decide) (by have w1 : y1.toInt = i.toInt + (1 : Int32).toInt := e_y1; have w2 : (1 : Int32).toInt = 1 := rfl; omega)) dL_law_1313 ?_
  refine lv_topi (fun x2 e_x2 => ?_)
  have i_x2 := iv_R.all x2
  obtain ⟨g1, r1, g2, r2, a1, a2, q1, q2, hne, qf1, qf2, hnr, kn1, kp1, kn2, kp2⟩ := id hJ
  refine iv_cVi X k_good k_mf_X11_quarrels k_im_X11_quarrels k_sel_X11_quarrels k_ml_L_151 ft_X11 hB a1 sh_11 (As := [.int x2]) (c_X11_quarrels l D tys base G h1 g1 r1 a1 x2 i_x2) ⟨rfl, rfl⟩ ⟨Nat.le_trans (m := 1300) (Nat.le_of_ble_eq_true rfl) hRf, Nat.le_trans (m := 26000) (Nat.le_of_ble_eq_true rfl) hRl⟩ ⟨by omega, by omega⟩ rfl rfl hl.1 (Nat.le_of_ble_eq_true rfl) dL_law_1314 (fun v3 G3 H locs hq hB => ?_)
  have hJ := hJ.md hq.1
  have hW1 := hW1.K (iv_MdT.of hq.1) (by decide) (by decide)
  have hW2 := hW2.K (iv_MdT.of hq.1) (by decide) (by decide)
  have hF1 := hF1.K (iv_MdT.of hq.1) (by decide)
  have hF2 := hF2.K (iv_MdT.of hq.1) (by decide) (by decide)
  refine lv_pop hx hb dL_law_1317 rfl ?_
  refine lv_aload_n hx hb dL_law_1318 rfl (lv_at hl 3 rfl) ?_
  refine lv_aload_n hx hb dL_law_1319 rfl (lv_at hl 1 rfl) ?_
  refine lv_iload_n hx hb dL_law_1320 rfl (lv_at hl 0 rfl) ?_
  refine lv_iconst (v := 1) hx hb dL_law_1321 (by decide) ?_
  refine iv_iadd hx hb ii q_1 (lo := 1) (hi := 3578) (by decide) dL_law_1322 (fun y4 e_y4 i_y4 => ?_)
  refine va_sld hx hb hX hbl hbA hB.2.1 (iv_inU i_y4 (by decide) (by have w1 : y4.toInt = i.toInt + (1 : Int32).toInt := e_y4; have w2 : (1 : Int32).toInt = 1 := rfl; omega)) dL_law_1323 ?_
  refine lv_topi (fun x5 e_x5 => ?_)
  have i_x5 := iv_R.all x5
  obtain ⟨g1, r1, g2, r2, a1, a2, q1, q2, hne, qf1, qf2, hnr, kn1, kp1, kn2, kp2⟩ := id hJ
  refine iv_cVi X k_good k_mf_X12_quarrels k_im_X12_quarrels k_sel_X12_quarrels k_ml_L_154 ft_X12 hB a2 sh_12 (As := [.int x5]) (c_X12_quarrels l D tys base G3 h2 g2 r2 a2 x5 i_x5) ⟨rfl, rfl⟩ ⟨Nat.le_trans (m := 1300) (Nat.le_of_ble_eq_true rfl) hRf, Nat.le_trans (m := 26000) (Nat.le_of_ble_eq_true rfl) hRl⟩ ⟨by omega, by omega⟩ rfl rfl hl.1 (Nat.le_of_ble_eq_true rfl) dL_law_1324 (fun v6 G6 H locs hq hB => ?_)
  have hJ := hJ.md hq.1
  have hW1 := hW1.K (iv_MdT.of hq.1) (by decide) (by decide)
  have hW2 := hW2.K (iv_MdT.of hq.1) (by decide) (by decide)
  have hF1 := hF1.K (iv_MdT.of hq.1) (by decide)
  have hF2 := hF2.K (iv_MdT.of hq.1) (by decide) (by decide)
  refine lv_pop hx hb dL_law_1327 rfl ?_
  refine lv_goto (tgt := 1620) hx hb dL_law_1328 (by decide) ?_
  refine W.widen (k := cells + 7) (n := slots + 896) (by omega) (by omega) ?_
  exact kk _ _ _ _ hB ⟨_, _, _, _, _, _, hJ, hW1, hW2, hF1, hF2⟩
theorem dL_law_1331 : decode cL_law 1331 = .ok (.aload_n 1, 1) := by decide +kernel
theorem dL_law_1332 : decode cL_law 1332 = .ok (.invokevirtual 155, 3) := by decide +kernel
theorem dL_law_1335 : decode cL_law 1335 = .ok (.pop, 1) := by decide +kernel
theorem dL_law_1336 : decode cL_law 1336 = .ok (.aload_n 2, 1) := by decide +kernel
theorem dL_law_1337 : decode cL_law 1337 = .ok (.invokevirtual 159, 3) := by decide +kernel
theorem dL_law_1340 : decode cL_law 1340 = .ok (.pop, 1) := by decide +kernel
theorem dL_law_1341 : decode cL_law 1341 = .ok (.goto 279, 3) := by decide +kernel
set_option maxHeartbeats 4000000 in
set_option maxRecDepth 100000 in
theorem law_c33 {p : Program} {l : Launch} {e : Env} {R : Room} {s : State} {m : MethodId} {args : Array Value} {below : List Frame} {meth : Method} {c : Code} {Q : State → Prop} {D : va_G} {tys : List (ClassId × FieldType)} {base b L : Nat} {xs : Nat → Int32} (X : iv_X p m c cL_law 4 s args iv_W0 RL D classes tys base) (hty : iv_ty tys) (hRf : 1300 ≤ R.frames) (hRl : 26000 ≤ R.locals) (hX : va_X b L xs s s.heap) (hbl : b < s.heap.size) (hbb : b < base) {h1 h2 : Nat} {t i : Int32} (ii : iv_R 0 3577 i) (hiL : i.toInt + 7 ≤ (L : Int)) {cells slots : Nat} (hRc : cells + 7 ≤ R.cells) (hRs : slots + 896 ≤ R.slots) {G : iv_G} {H : Heap} {locs : List Loc} (hB : iv_B iv_sh D classes tys base G s.heap H locs) (hJ : lw_J t t h1 h2 G) {ls : Array Slot} (hl : lv_has ls 4 [(3, .int i), (0, .ref b), (1, .ref h1), (2, .ref h2)])
    (kk : ∀ (t' : Int32) (G1 : iv_G) (H1 : Heap) (locs1 : List Loc), iv_B iv_sh D classes tys base G1 s.heap H1 locs1 → lw_J t' t' h1 h2 G1 → W p l e R s m args below meth c H1 locs1 (cells + 7) (slots + 896) Q (F0 m 1620 ls [])) : W p l e R s m args below meth c H locs cells slots Q (F0 m 1331 ls []) := by
  have hx := X.1.1
  have hb := X.1.2.1
  have hbA : ¬ iv_A base b := fun q => absurd (show base ≤ b from q) (by omega)
  obtain ⟨cf, cn, cp, cW, ca, cb, hJ, hW1, hW2, hF1, hF2⟩ := hJ
  refine lv_aload_n hx hb dL_law_1331 rfl (lv_at hl 2 rfl) ?_
  obtain ⟨g1, r1, g2, r2, a1, a2, q1, q2, hne, qf1, qf2, hnr, kn1, kp1, kn2, kp2⟩ := id hJ
  refine iv_cVi X k_good k_mf_X11_likeliest k_im_X11_likeliest k_sel_X11_likeliest k_ml_L_155 ft_X11 hB a1 sh_11 (As := []) (c_X11_likeliest l D tys base G h1 g1 r1 a1) ⟨rfl, rfl⟩ ⟨Nat.le_trans (m := 1300) (Nat.le_of_ble_eq_true rfl) hRf, Nat.le_trans (m := 26000) (Nat.le_of_ble_eq_true rfl) hRl⟩ ⟨by omega, by omega⟩ rfl rfl hl.1 (Nat.le_of_ble_eq_true rfl) dL_law_1332 (fun v1 G1 H locs hq hB => ?_)
  have hJ := hJ.md hq.1
  have hW1 := hW1.K (iv_MdT.of hq.1) (by decide) (by decide)
  have hW2 := hW2.K (iv_MdT.of hq.1) (by decide) (by decide)
  have hF1 := hF1.K (iv_MdT.of hq.1) (by decide)
  have hF2 := hF2.K (iv_MdT.of hq.1) (by decide) (by decide)
  refine lv_pop hx hb dL_law_1335 rfl ?_
  refine lv_aload_n hx hb dL_law_1336 rfl (lv_at hl 3 rfl) ?_
  obtain ⟨g1, r1, g2, r2, a1, a2, q1, q2, hne, qf1, qf2, hnr, kn1, kp1, kn2, kp2⟩ := id hJ
  refine iv_cVi X k_good k_mf_X12_likeliest k_im_X12_likeliest k_sel_X12_likeliest k_ml_L_159 ft_X12 hB a2 sh_12 (As := []) (c_X12_likeliest l D tys base G1 h2 g2 r2 a2) ⟨rfl, rfl⟩ ⟨Nat.le_trans (m := 1300) (Nat.le_of_ble_eq_true rfl) hRf, Nat.le_trans (m := 26000) (Nat.le_of_ble_eq_true rfl) hRl⟩ ⟨by omega, by omega⟩ rfl rfl hl.1 (Nat.le_of_ble_eq_true rfl) dL_law_1337 (fun v2 G2 H locs hq hB => ?_)
  have hJ := hJ.md hq.1
  have hW1 := hW1.K (iv_MdT.of hq.1) (by decide) (by decide)
  have hW2 := hW2.K (iv_MdT.of hq.1) (by decide) (by decide)
  have hF1 := hF1.K (iv_MdT.of hq.1) (by decide)
  have hF2 := hF2.K (iv_MdT.of hq.1) (by decide) (by decide)
  refine lv_pop hx hb dL_law_1340 rfl ?_
  refine lv_goto (tgt := 1620) hx hb dL_law_1341 (by decide) ?_
  refine W.widen (k := cells + 7) (n := slots + 896) (by omega) (by omega) ?_
  exact kk _ _ _ _ hB ⟨_, _, _, _, _, _, hJ, hW1, hW2, hF1, hF2⟩
theorem dL_law_1344 : decode cL_law 1344 = .ok (.aload_n 1, 1) := by decide +kernel
theorem dL_law_1345 : decode cL_law 1345 = .ok (.aload_n 0, 1) := by decide +kernel
theorem dL_law_1346 : decode cL_law 1346 = .ok (.iload_n 3, 1) := by decide +kernel
theorem dL_law_1347 : decode cL_law 1347 = .ok (.iconst 1, 1) := by decide +kernel
theorem dL_law_1348 : decode cL_law 1348 = .ok (.iadd, 1) := by decide +kernel
theorem dL_law_1349 : decode cL_law 1349 = .ok (.iaload, 1) := by decide +kernel
theorem dL_law_1350 : decode cL_law 1350 = .ok (.invokevirtual 160, 3) := by decide +kernel
theorem dL_law_1353 : decode cL_law 1353 = .ok (.pop, 1) := by decide +kernel
theorem dL_law_1354 : decode cL_law 1354 = .ok (.aload_n 2, 1) := by decide +kernel
theorem dL_law_1355 : decode cL_law 1355 = .ok (.aload_n 0, 1) := by decide +kernel
theorem dL_law_1356 : decode cL_law 1356 = .ok (.iload_n 3, 1) := by decide +kernel
theorem dL_law_1357 : decode cL_law 1357 = .ok (.iconst 1, 1) := by decide +kernel
theorem dL_law_1358 : decode cL_law 1358 = .ok (.iadd, 1) := by decide +kernel
theorem dL_law_1359 : decode cL_law 1359 = .ok (.iaload, 1) := by decide +kernel
theorem dL_law_1360 : decode cL_law 1360 = .ok (.invokevirtual 163, 3) := by decide +kernel
theorem dL_law_1363 : decode cL_law 1363 = .ok (.pop, 1) := by decide +kernel
theorem dL_law_1364 : decode cL_law 1364 = .ok (.goto 256, 3) := by decide +kernel
set_option maxHeartbeats 4000000 in
set_option maxRecDepth 100000 in
theorem law_c34 {p : Program} {l : Launch} {e : Env} {R : Room} {s : State} {m : MethodId} {args : Array Value} {below : List Frame} {meth : Method} {c : Code} {Q : State → Prop} {D : va_G} {tys : List (ClassId × FieldType)} {base b L : Nat} {xs : Nat → Int32} (X : iv_X p m c cL_law 4 s args iv_W0 RL D classes tys base) (hty : iv_ty tys) (hRf : 1300 ≤ R.frames) (hRl : 26000 ≤ R.locals) (hX : va_X b L xs s s.heap) (hbl : b < s.heap.size) (hbb : b < base) {h1 h2 : Nat} {t i : Int32} (ii : iv_R 0 3577 i) (hiL : i.toInt + 7 ≤ (L : Int)) {cells slots : Nat} (hRc : cells + 7 ≤ R.cells) (hRs : slots + 896 ≤ R.slots) {G : iv_G} {H : Heap} {locs : List Loc} (hB : iv_B iv_sh D classes tys base G s.heap H locs) (hJ : lw_J t t h1 h2 G) {ls : Array Slot} (hl : lv_has ls 4 [(3, .int i), (0, .ref b), (1, .ref h1), (2, .ref h2)])
    (kk : ∀ (t' : Int32) (G1 : iv_G) (H1 : Heap) (locs1 : List Loc), iv_B iv_sh D classes tys base G1 s.heap H1 locs1 → lw_J t' t' h1 h2 G1 → W p l e R s m args below meth c H1 locs1 (cells + 7) (slots + 896) Q (F0 m 1620 ls [])) : W p l e R s m args below meth c H locs cells slots Q (F0 m 1344 ls []) := by
  have hx := X.1.1
  have hb := X.1.2.1
  have hbA : ¬ iv_A base b := fun q => absurd (show base ≤ b from q) (by omega)
  obtain ⟨cf, cn, cp, cW, ca, cb, hJ, hW1, hW2, hF1, hF2⟩ := hJ
  refine lv_aload_n hx hb dL_law_1344 rfl (lv_at hl 2 rfl) ?_
  refine lv_aload_n hx hb dL_law_1345 rfl (lv_at hl 1 rfl) ?_
  refine lv_iload_n hx hb dL_law_1346 rfl (lv_at hl 0 rfl) ?_
  refine lv_iconst (v := 1) hx hb dL_law_1347 (by decide) ?_
  refine iv_iadd hx hb ii q_1 (lo := 1) (hi := 3578) (by decide) dL_law_1348 (fun y1 e_y1 i_y1 => ?_)
  refine va_sld hx hb hX hbl hbA hB.2.1 (iv_inU i_y1 (by decide) (by have w1 : y1.toInt = i.toInt + (1 : Int32).toInt := e_y1; have w2 : (1 : Int32).toInt = 1 := rfl; omega)) dL_law_1349 ?_
  refine lv_topi (fun x2 e_x2 => ?_)
  have i_x2 := iv_R.all x2
  obtain ⟨g1, r1, g2, r2, a1, a2, q1, q2, hne, qf1, qf2, hnr, kn1, kp1, kn2, kp2⟩ := id hJ
  refine iv_cVi X k_good k_mf_X11_noneYet k_im_X11_noneYet k_sel_X11_noneYet k_ml_L_160 ft_X11 hB a1 sh_11 (As := [.int x2]) (c_X11_noneYet l D tys base G h1 g1 r1 a1 x2 i_x2) ⟨rfl, rfl⟩ ⟨Nat.le_trans (m := 1300) (Nat.le_of_ble_eq_true rfl) hRf, Nat.le_trans (m := 26000) (Nat.le_of_ble_eq_true rfl) hRl⟩ ⟨by omega, by omega⟩ rfl rfl hl.1 (Nat.le_of_ble_eq_true rfl) dL_law_1350 (fun v3 G3 H locs hq hB => ?_)
  have hJ := hJ.md hq.1
  have hW1 := hW1.K (iv_MdT.of hq.1) (by decide) (by decide)
  have hW2 := hW2.K (iv_MdT.of hq.1) (by decide) (by decide)
  have hF1 := hF1.K (iv_MdT.of hq.1) (by decide)
  have hF2 := hF2.K (iv_MdT.of hq.1) (by decide) (by decide)
  refine lv_pop hx hb dL_law_1353 rfl ?_
  refine lv_aload_n hx hb dL_law_1354 rfl (lv_at hl 3 rfl) ?_
  refine lv_aload_n hx hb dL_law_1355 rfl (lv_at hl 1 rfl) ?_
  refine lv_iload_n hx hb dL_law_1356 rfl (lv_at hl 0 rfl) ?_
  refine lv_iconst (v := 1) hx hb dL_law_1357 (by decide) ?_
  refine iv_iadd hx hb ii q_1 (lo := 1) (hi := 3578) (by decide) dL_law_1358 (fun y4 e_y4 i_y4 => ?_)
  refine va_sld hx hb hX hbl hbA hB.2.1 (iv_inU i_y4 (by decide) (by have w1 : y4.toInt = i.toInt + (1 : Int32).toInt := e_y4; have w2 : (1 : Int32).toInt = 1 := rfl; omega)) dL_law_1359 ?_
  refine lv_topi (fun x5 e_x5 => ?_)
  have i_x5 := iv_R.all x5
  obtain ⟨g1, r1, g2, r2, a1, a2, q1, q2, hne, qf1, qf2, hnr, kn1, kp1, kn2, kp2⟩ := id hJ
  refine iv_cVi X k_good k_mf_X12_noneYet k_im_X12_noneYet k_sel_X12_noneYet k_ml_L_163 ft_X12 hB a2 sh_12 (As := [.int x5]) (c_X12_noneYet l D tys base G3 h2 g2 r2 a2 x5 i_x5) ⟨rfl, rfl⟩ ⟨Nat.le_trans (m := 1300) (Nat.le_of_ble_eq_true rfl) hRf, Nat.le_trans (m := 26000) (Nat.le_of_ble_eq_true rfl) hRl⟩ ⟨by omega, by omega⟩ rfl rfl hl.1 (Nat.le_of_ble_eq_true rfl) dL_law_1360 (fun v6 G6 H locs hq hB => ?_)
  have hJ := hJ.md hq.1
  have hW1 := hW1.K (iv_MdT.of hq.1) (by decide) (by decide)
  have hW2 := hW2.K (iv_MdT.of hq.1) (by decide) (by decide)
  have hF1 := hF1.K (iv_MdT.of hq.1) (by decide)
  have hF2 := hF2.K (iv_MdT.of hq.1) (by decide) (by decide)
  refine lv_pop hx hb dL_law_1363 rfl ?_
  refine lv_goto (tgt := 1620) hx hb dL_law_1364 (by decide) ?_
  refine W.widen (k := cells + 7) (n := slots + 896) (by omega) (by omega) ?_
  exact kk _ _ _ _ hB ⟨_, _, _, _, _, _, hJ, hW1, hW2, hF1, hF2⟩
theorem dL_law_1367 : decode cL_law 1367 = .ok (.aload_n 1, 1) := by decide +kernel
theorem dL_law_1368 : decode cL_law 1368 = .ok (.aload_n 0, 1) := by decide +kernel
theorem dL_law_1369 : decode cL_law 1369 = .ok (.iload_n 3, 1) := by decide +kernel
theorem dL_law_1370 : decode cL_law 1370 = .ok (.iconst 1, 1) := by decide +kernel
theorem dL_law_1371 : decode cL_law 1371 = .ok (.iadd, 1) := by decide +kernel
theorem dL_law_1372 : decode cL_law 1372 = .ok (.iaload, 1) := by decide +kernel
theorem dL_law_1373 : decode cL_law 1373 = .ok (.invokevirtual 164, 3) := by decide +kernel
theorem dL_law_1376 : decode cL_law 1376 = .ok (.pop, 1) := by decide +kernel
theorem dL_law_1377 : decode cL_law 1377 = .ok (.aload_n 2, 1) := by decide +kernel
theorem dL_law_1378 : decode cL_law 1378 = .ok (.aload_n 0, 1) := by decide +kernel
theorem dL_law_1379 : decode cL_law 1379 = .ok (.iload_n 3, 1) := by decide +kernel
theorem dL_law_1380 : decode cL_law 1380 = .ok (.iconst 1, 1) := by decide +kernel
theorem dL_law_1381 : decode cL_law 1381 = .ok (.iadd, 1) := by decide +kernel
theorem dL_law_1382 : decode cL_law 1382 = .ok (.iaload, 1) := by decide +kernel
theorem dL_law_1383 : decode cL_law 1383 = .ok (.invokevirtual 167, 3) := by decide +kernel
theorem dL_law_1386 : decode cL_law 1386 = .ok (.pop, 1) := by decide +kernel
theorem dL_law_1387 : decode cL_law 1387 = .ok (.goto 233, 3) := by decide +kernel
set_option maxHeartbeats 4000000 in
set_option maxRecDepth 100000 in
theorem law_c35 {p : Program} {l : Launch} {e : Env} {R : Room} {s : State} {m : MethodId} {args : Array Value} {below : List Frame} {meth : Method} {c : Code} {Q : State → Prop} {D : va_G} {tys : List (ClassId × FieldType)} {base b L : Nat} {xs : Nat → Int32} (X : iv_X p m c cL_law 4 s args iv_W0 RL D classes tys base) (hty : iv_ty tys) (hRf : 1300 ≤ R.frames) (hRl : 26000 ≤ R.locals) (hX : va_X b L xs s s.heap) (hbl : b < s.heap.size) (hbb : b < base) {h1 h2 : Nat} {t i : Int32} (ii : iv_R 0 3577 i) (hiL : i.toInt + 7 ≤ (L : Int)) {cells slots : Nat} (hRc : cells + 7 ≤ R.cells) (hRs : slots + 896 ≤ R.slots) {G : iv_G} {H : Heap} {locs : List Loc} (hB : iv_B iv_sh D classes tys base G s.heap H locs) (hJ : lw_J t t h1 h2 G) {ls : Array Slot} (hl : lv_has ls 4 [(3, .int i), (0, .ref b), (1, .ref h1), (2, .ref h2)])
    (kk : ∀ (t' : Int32) (G1 : iv_G) (H1 : Heap) (locs1 : List Loc), iv_B iv_sh D classes tys base G1 s.heap H1 locs1 → lw_J t' t' h1 h2 G1 → W p l e R s m args below meth c H1 locs1 (cells + 7) (slots + 896) Q (F0 m 1620 ls [])) : W p l e R s m args below meth c H locs cells slots Q (F0 m 1367 ls []) := by
  have hx := X.1.1
  have hb := X.1.2.1
  have hbA : ¬ iv_A base b := fun q => absurd (show base ≤ b from q) (by omega)
  obtain ⟨cf, cn, cp, cW, ca, cb, hJ, hW1, hW2, hF1, hF2⟩ := hJ
  refine lv_aload_n hx hb dL_law_1367 rfl (lv_at hl 2 rfl) ?_
  refine lv_aload_n hx hb dL_law_1368 rfl (lv_at hl 1 rfl) ?_
  refine lv_iload_n hx hb dL_law_1369 rfl (lv_at hl 0 rfl) ?_
  refine lv_iconst (v := 1) hx hb dL_law_1370 (by decide) ?_
  refine iv_iadd hx hb ii q_1 (lo := 1) (hi := 3578) (by decide) dL_law_1371 (fun y1 e_y1 i_y1 => ?_)
  refine va_sld hx hb hX hbl hbA hB.2.1 (iv_inU i_y1 (by decide) (by have w1 : y1.toInt = i.toInt + (1 : Int32).toInt := e_y1; have w2 : (1 : Int32).toInt = 1 := rfl; omega)) dL_law_1372 ?_
  refine lv_topi (fun x2 e_x2 => ?_)
  have i_x2 := iv_R.all x2
  obtain ⟨g1, r1, g2, r2, a1, a2, q1, q2, hne, qf1, qf2, hnr, kn1, kp1, kn2, kp2⟩ := id hJ
  refine iv_cVi X k_good k_mf_X11_raised k_im_X11_raised k_sel_X11_raised k_ml_L_164 ft_X11 hB a1 sh_11 (As := [.int x2]) (c_X11_raised l D tys base G h1 g1 r1 a1 x2 i_x2) ⟨rfl, rfl⟩ ⟨Nat.le_trans (m := 1300) (Nat.le_of_ble_eq_true rfl) hRf, Nat.le_trans (m := 26000) (Nat.le_of_ble_eq_true rfl) hRl⟩ ⟨by omega, by omega⟩ rfl rfl hl.1 (Nat.le_of_ble_eq_true rfl) dL_law_1373 (fun v3 G3 H locs hq hB => ?_)
  have hJ := hJ.same hq.1
  have hW1 := lw_same hW1 hq.1
  have hW2 := lw_same hW2 hq.1
  have hF1 := lw_same hF1 hq.1
  have hF2 := lw_same hF2 hq.1
  refine lv_pop hx hb dL_law_1376 rfl ?_
  refine lv_aload_n hx hb dL_law_1377 rfl (lv_at hl 3 rfl) ?_
  refine lv_aload_n hx hb dL_law_1378 rfl (lv_at hl 1 rfl) ?_
  refine lv_iload_n hx hb dL_law_1379 rfl (lv_at hl 0 rfl) ?_
  refine lv_iconst (v := 1) hx hb dL_law_1380 (by decide) ?_
  refine iv_iadd hx hb ii q_1 (lo := 1) (hi := 3578) (by decide) dL_law_1381 (fun y4 e_y4 i_y4 => ?_)
  refine va_sld hx hb hX hbl hbA hB.2.1 (iv_inU i_y4 (by decide) (by have w1 : y4.toInt = i.toInt + (1 : Int32).toInt := e_y4; have w2 : (1 : Int32).toInt = 1 := rfl; omega)) dL_law_1382 ?_
  refine lv_topi (fun x5 e_x5 => ?_)
  have i_x5 := iv_R.all x5
  obtain ⟨g1, r1, g2, r2, a1, a2, q1, q2, hne, qf1, qf2, hnr, kn1, kp1, kn2, kp2⟩ := id hJ
  refine iv_cVi X k_good k_mf_X12_raised k_im_X12_raised k_sel_X12_raised k_ml_L_167 ft_X12 hB a2 sh_12 (As := [.int x5]) (c_X12_raised l D tys base G3 h2 g2 r2 a2 x5 i_x5) ⟨rfl, rfl⟩ ⟨Nat.le_trans (m := 1300) (Nat.le_of_ble_eq_true rfl) hRf, Nat.le_trans (m := 26000) (Nat.le_of_ble_eq_true rfl) hRl⟩ ⟨by omega, by omega⟩ rfl rfl hl.1 (Nat.le_of_ble_eq_true rfl) dL_law_1383 (fun v6 G6 H locs hq hB => ?_)
  have hJ := hJ.same hq.1
  have hW1 := lw_same hW1 hq.1
  have hW2 := lw_same hW2 hq.1
  have hF1 := lw_same hF1 hq.1
  have hF2 := lw_same hF2 hq.1
  refine lv_pop hx hb dL_law_1386 rfl ?_
  refine lv_goto (tgt := 1620) hx hb dL_law_1387 (by decide) ?_
  refine W.widen (k := cells + 7) (n := slots + 896) (by omega) (by omega) ?_
  exact kk _ _ _ _ hB ⟨_, _, _, _, _, _, hJ, hW1, hW2, hF1, hF2⟩
theorem dL_law_1390 : decode cL_law 1390 = .ok (.aload_n 1, 1) := by decide +kernel
theorem dL_law_1391 : decode cL_law 1391 = .ok (.aload_n 0, 1) := by decide +kernel
theorem dL_law_1392 : decode cL_law 1392 = .ok (.iload_n 3, 1) := by decide +kernel
theorem dL_law_1393 : decode cL_law 1393 = .ok (.iconst 1, 1) := by decide +kernel
theorem dL_law_1394 : decode cL_law 1394 = .ok (.iadd, 1) := by decide +kernel
theorem dL_law_1395 : decode cL_law 1395 = .ok (.iaload, 1) := by decide +kernel
theorem dL_law_1396 : decode cL_law 1396 = .ok (.aload_n 0, 1) := by decide +kernel
theorem dL_law_1397 : decode cL_law 1397 = .ok (.iload_n 3, 1) := by decide +kernel
theorem dL_law_1398 : decode cL_law 1398 = .ok (.iconst 2, 1) := by decide +kernel
theorem dL_law_1399 : decode cL_law 1399 = .ok (.iadd, 1) := by decide +kernel
theorem dL_law_1400 : decode cL_law 1400 = .ok (.iaload, 1) := by decide +kernel
theorem dL_law_1401 : decode cL_law 1401 = .ok (.aload_n 0, 1) := by decide +kernel
theorem dL_law_1402 : decode cL_law 1402 = .ok (.iload_n 3, 1) := by decide +kernel
theorem dL_law_1403 : decode cL_law 1403 = .ok (.iconst 3, 1) := by decide +kernel
theorem dL_law_1404 : decode cL_law 1404 = .ok (.iadd, 1) := by decide +kernel
theorem dL_law_1405 : decode cL_law 1405 = .ok (.iaload, 1) := by decide +kernel
theorem dL_law_1406 : decode cL_law 1406 = .ok (.invokevirtual 168, 3) := by decide +kernel
theorem dL_law_1409 : decode cL_law 1409 = .ok (.pop, 1) := by decide +kernel
theorem dL_law_1410 : decode cL_law 1410 = .ok (.aload_n 2, 1) := by decide +kernel
theorem dL_law_1411 : decode cL_law 1411 = .ok (.aload_n 0, 1) := by decide +kernel
theorem dL_law_1412 : decode cL_law 1412 = .ok (.iload_n 3, 1) := by decide +kernel
theorem dL_law_1413 : decode cL_law 1413 = .ok (.iconst 1, 1) := by decide +kernel
theorem dL_law_1414 : decode cL_law 1414 = .ok (.iadd, 1) := by decide +kernel
theorem dL_law_1415 : decode cL_law 1415 = .ok (.iaload, 1) := by decide +kernel
theorem dL_law_1416 : decode cL_law 1416 = .ok (.aload_n 0, 1) := by decide +kernel
theorem dL_law_1417 : decode cL_law 1417 = .ok (.iload_n 3, 1) := by decide +kernel
theorem dL_law_1418 : decode cL_law 1418 = .ok (.iconst 2, 1) := by decide +kernel
theorem dL_law_1419 : decode cL_law 1419 = .ok (.iadd, 1) := by decide +kernel
theorem dL_law_1420 : decode cL_law 1420 = .ok (.iaload, 1) := by decide +kernel
theorem dL_law_1421 : decode cL_law 1421 = .ok (.aload_n 0, 1) := by decide +kernel
theorem dL_law_1422 : decode cL_law 1422 = .ok (.iload_n 3, 1) := by decide +kernel
theorem dL_law_1423 : decode cL_law 1423 = .ok (.iconst 3, 1) := by decide +kernel
theorem dL_law_1424 : decode cL_law 1424 = .ok (.iadd, 1) := by decide +kernel
theorem dL_law_1425 : decode cL_law 1425 = .ok (.iaload, 1) := by decide +kernel
theorem dL_law_1426 : decode cL_law 1426 = .ok (.invokevirtual 171, 3) := by decide +kernel
theorem dL_law_1429 : decode cL_law 1429 = .ok (.pop, 1) := by decide +kernel
theorem dL_law_1430 : decode cL_law 1430 = .ok (.goto 190, 3) := by decide +kernel
set_option maxHeartbeats 4000000 in
set_option maxRecDepth 100000 in
theorem law_c36 {p : Program} {l : Launch} {e : Env} {R : Room} {s : State} {m : MethodId} {args : Array Value} {below : List Frame} {meth : Method} {c : Code} {Q : State → Prop} {D : va_G} {tys : List (ClassId × FieldType)} {base b L : Nat} {xs : Nat → Int32} (X : iv_X p m c cL_law 4 s args iv_W0 RL D classes tys base) (hty : iv_ty tys) (hRf : 1300 ≤ R.frames) (hRl : 26000 ≤ R.locals) (hX : va_X b L xs s s.heap) (hbl : b < s.heap.size) (hbb : b < base) {h1 h2 : Nat} {t i : Int32} (ii : iv_R 0 3577 i) (hiL : i.toInt + 7 ≤ (L : Int)) {cells slots : Nat} (hRc : cells + 7 ≤ R.cells) (hRs : slots + 896 ≤ R.slots) {G : iv_G} {H : Heap} {locs : List Loc} (hB : iv_B iv_sh D classes tys base G s.heap H locs) (hJ : lw_J t t h1 h2 G) {ls : Array Slot} (hl : lv_has ls 4 [(3, .int i), (0, .ref b), (1, .ref h1), (2, .ref h2)])
    (kk : ∀ (t' : Int32) (G1 : iv_G) (H1 : Heap) (locs1 : List Loc), iv_B iv_sh D classes tys base G1 s.heap H1 locs1 → lw_J t' t' h1 h2 G1 → W p l e R s m args below meth c H1 locs1 (cells + 7) (slots + 896) Q (F0 m 1620 ls [])) : W p l e R s m args below meth c H locs cells slots Q (F0 m 1390 ls []) := by
  have hx := X.1.1
  have hb := X.1.2.1
  have hbA : ¬ iv_A base b := fun q => absurd (show base ≤ b from q) (by omega)
  obtain ⟨cf, cn, cp, cW, ca, cb, hJ, hW1, hW2, hF1, hF2⟩ := hJ
  refine lv_aload_n hx hb dL_law_1390 rfl (lv_at hl 2 rfl) ?_
  refine lv_aload_n hx hb dL_law_1391 rfl (lv_at hl 1 rfl) ?_
  refine lv_iload_n hx hb dL_law_1392 rfl (lv_at hl 0 rfl) ?_
  refine lv_iconst (v := 1) hx hb dL_law_1393 (by decide) ?_
  refine iv_iadd hx hb ii q_1 (lo := 1) (hi := 3578) (by decide) dL_law_1394 (fun y1 e_y1 i_y1 => ?_)
  refine va_sld hx hb hX hbl hbA hB.2.1 (iv_inU i_y1 (by decide) (by have w1 : y1.toInt = i.toInt + (1 : Int32).toInt := e_y1; have w2 : (1 : Int32).toInt = 1 := rfl; omega)) dL_law_1395 ?_
  refine lv_topi (fun x2 e_x2 => ?_)
  have i_x2 := iv_R.all x2
  refine lv_aload_n hx hb dL_law_1396 rfl (lv_at hl 1 rfl) ?_
  refine lv_iload_n hx hb dL_law_1397 rfl (lv_at hl 0 rfl) ?_
  refine lv_iconst (v := 2) hx hb dL_law_1398 (by decide) ?_
  refine iv_iadd hx hb ii q_2 (lo := 2) (hi := 3579) (by decide) dL_law_1399 (fun y3 e_y3 i_y3 => ?_)
  refine va_sld hx hb hX hbl hbA hB.2.1 (iv_inU i_y3 (by decide) (by have w1 : y3.toInt = i.toInt + (2 : Int32).toInt := e_y3; have w2 : (2 : Int32).toInt = 2 := rfl; omega)) dL_law_1400 ?_
  refine lv_topi (fun x4 e_x4 => ?_)
  have i_x4 := iv_R.all x4
  refine lv_aload_n hx hb dL_law_1401 rfl (lv_at hl 1 rfl) ?_
  refine lv_iload_n hx hb dL_law_1402 rfl (lv_at hl 0 rfl) ?_
  refine lv_iconst (v := 3) hx hb dL_law_1403 (by decide) ?_
  refine iv_iadd hx hb ii q_3 (lo := 3) (hi := 3580) (by decide) dL_law_1404 (fun y5 e_y5 i_y5 => ?_)
  refine va_sld hx hb hX hbl hbA hB.2.1 (iv_inU i_y5 (by decide) (by have w1 : y5.toInt = i.toInt + (3 : Int32).toInt := e_y5; have w2 : (3 : Int32).toInt = 3 := rfl; omega)) dL_law_1405 ?_
  refine lv_topi (fun x6 e_x6 => ?_)
  have i_x6 := iv_R.all x6
  obtain ⟨g1, r1, g2, r2, a1, a2, q1, q2, hne, qf1, qf2, hnr, kn1, kp1, kn2, kp2⟩ := id hJ
  refine iv_cVi X k_good k_mf_X11_chorus k_im_X11_chorus k_sel_X11_chorus k_ml_L_168 ft_X11 hB a1 sh_11 (As := [.int x2, .int x4, .int x6]) (c_X11_chorus l D tys base G h1 g1 r1 a1 x2 i_x2 x4 i_x4 x6 i_x6) ⟨rfl, rfl⟩ ⟨Nat.le_trans (m := 1300) (Nat.le_of_ble_eq_true rfl) hRf, Nat.le_trans (m := 26000) (Nat.le_of_ble_eq_true rfl) hRl⟩ ⟨by omega, by omega⟩ rfl rfl hl.1 (Nat.le_of_ble_eq_true rfl) dL_law_1406 (fun v7 G7 H locs hq hB => ?_)
  have hJ := hJ.md hq.1
  have hW1 := hW1.K (iv_MdT.of hq.1) (by decide) (by decide)
  have hW2 := hW2.K (iv_MdT.of hq.1) (by decide) (by decide)
  have hF1 := hF1.K (iv_MdT.of hq.1) (by decide)
  have hF2 := hF2.K (iv_MdT.of hq.1) (by decide) (by decide)
  refine lv_pop hx hb dL_law_1409 rfl ?_
  refine lv_aload_n hx hb dL_law_1410 rfl (lv_at hl 3 rfl) ?_
  refine lv_aload_n hx hb dL_law_1411 rfl (lv_at hl 1 rfl) ?_
  refine lv_iload_n hx hb dL_law_1412 rfl (lv_at hl 0 rfl) ?_
  refine lv_iconst (v := 1) hx hb dL_law_1413 (by decide) ?_
  refine iv_iadd hx hb ii q_1 (lo := 1) (hi := 3578) (by decide) dL_law_1414 (fun y8 e_y8 i_y8 => ?_)
  refine va_sld hx hb hX hbl hbA hB.2.1 (iv_inU i_y8 (by decide) (by have w1 : y8.toInt = i.toInt + (1 : Int32).toInt := e_y8; have w2 : (1 : Int32).toInt = 1 := rfl; omega)) dL_law_1415 ?_
  refine lv_topi (fun x9 e_x9 => ?_)
  have i_x9 := iv_R.all x9
  refine lv_aload_n hx hb dL_law_1416 rfl (lv_at hl 1 rfl) ?_
  refine lv_iload_n hx hb dL_law_1417 rfl (lv_at hl 0 rfl) ?_
  refine lv_iconst (v := 2) hx hb dL_law_1418 (by decide) ?_
  refine iv_iadd hx hb ii q_2 (lo := 2) (hi := 3579) (by decide) dL_law_1419 (fun y10 e_y10 i_y10 => ?_)
  refine va_sld hx hb hX hbl hbA hB.2.1 (iv_inU i_y10 (by decide) (by have w1 : y10.toInt = i.toInt + (2 : Int32).toInt := e_y10; have w2 : (2 : Int32).toInt = 2 := rfl; omega)) dL_law_1420 ?_
  refine lv_topi (fun x11 e_x11 => ?_)
  have i_x11 := iv_R.all x11
  refine lv_aload_n hx hb dL_law_1421 rfl (lv_at hl 1 rfl) ?_
  refine lv_iload_n hx hb dL_law_1422 rfl (lv_at hl 0 rfl) ?_
  refine lv_iconst (v := 3) hx hb dL_law_1423 (by decide) ?_
  refine iv_iadd hx hb ii q_3 (lo := 3) (hi := 3580) (by decide) dL_law_1424 (fun y12 e_y12 i_y12 => ?_)
  refine va_sld hx hb hX hbl hbA hB.2.1 (iv_inU i_y12 (by decide) (by have w1 : y12.toInt = i.toInt + (3 : Int32).toInt := e_y12; have w2 : (3 : Int32).toInt = 3 := rfl; omega)) dL_law_1425 ?_
  refine lv_topi (fun x13 e_x13 => ?_)
  have i_x13 := iv_R.all x13
  obtain ⟨g1, r1, g2, r2, a1, a2, q1, q2, hne, qf1, qf2, hnr, kn1, kp1, kn2, kp2⟩ := id hJ
  refine iv_cVi X k_good k_mf_X12_chorus k_im_X12_chorus k_sel_X12_chorus k_ml_L_171 ft_X12 hB a2 sh_12 (As := [.int x9, .int x11, .int x13]) (c_X12_chorus l D tys base G7 h2 g2 r2 a2 x9 i_x9 x11 i_x11 x13 i_x13) ⟨rfl, rfl⟩ ⟨Nat.le_trans (m := 1300) (Nat.le_of_ble_eq_true rfl) hRf, Nat.le_trans (m := 26000) (Nat.le_of_ble_eq_true rfl) hRl⟩ ⟨by omega, by omega⟩ rfl rfl hl.1 (Nat.le_of_ble_eq_true rfl) dL_law_1426 (fun v14 G14 H locs hq hB => ?_)
  have hJ := hJ.md hq.1
  have hW1 := hW1.K (iv_MdT.of hq.1) (by decide) (by decide)
  have hW2 := hW2.K (iv_MdT.of hq.1) (by decide) (by decide)
  have hF1 := hF1.K (iv_MdT.of hq.1) (by decide)
  have hF2 := hF2.K (iv_MdT.of hq.1) (by decide) (by decide)
  refine lv_pop hx hb dL_law_1429 rfl ?_
  refine lv_goto (tgt := 1620) hx hb dL_law_1430 (by decide) ?_
  refine W.widen (k := cells + 7) (n := slots + 896) (by omega) (by omega) ?_
  exact kk _ _ _ _ hB ⟨_, _, _, _, _, _, hJ, hW1, hW2, hF1, hF2⟩
theorem dL_law_1433 : decode cL_law 1433 = .ok (.aload_n 1, 1) := by decide +kernel
theorem dL_law_1434 : decode cL_law 1434 = .ok (.aload_n 0, 1) := by decide +kernel
theorem dL_law_1435 : decode cL_law 1435 = .ok (.iload_n 3, 1) := by decide +kernel
theorem dL_law_1436 : decode cL_law 1436 = .ok (.iconst 1, 1) := by decide +kernel
theorem dL_law_1437 : decode cL_law 1437 = .ok (.iadd, 1) := by decide +kernel
theorem dL_law_1438 : decode cL_law 1438 = .ok (.iaload, 1) := by decide +kernel
theorem dL_law_1439 : decode cL_law 1439 = .ok (.invokevirtual 172, 3) := by decide +kernel
theorem dL_law_1442 : decode cL_law 1442 = .ok (.pop, 1) := by decide +kernel
theorem dL_law_1443 : decode cL_law 1443 = .ok (.aload_n 2, 1) := by decide +kernel
theorem dL_law_1444 : decode cL_law 1444 = .ok (.aload_n 0, 1) := by decide +kernel
theorem dL_law_1445 : decode cL_law 1445 = .ok (.iload_n 3, 1) := by decide +kernel
theorem dL_law_1446 : decode cL_law 1446 = .ok (.iconst 1, 1) := by decide +kernel
theorem dL_law_1447 : decode cL_law 1447 = .ok (.iadd, 1) := by decide +kernel
theorem dL_law_1448 : decode cL_law 1448 = .ok (.iaload, 1) := by decide +kernel
theorem dL_law_1449 : decode cL_law 1449 = .ok (.invokevirtual 175, 3) := by decide +kernel
theorem dL_law_1452 : decode cL_law 1452 = .ok (.pop, 1) := by decide +kernel
theorem dL_law_1453 : decode cL_law 1453 = .ok (.goto 167, 3) := by decide +kernel
set_option maxHeartbeats 4000000 in
set_option maxRecDepth 100000 in
theorem law_c37 {p : Program} {l : Launch} {e : Env} {R : Room} {s : State} {m : MethodId} {args : Array Value} {below : List Frame} {meth : Method} {c : Code} {Q : State → Prop} {D : va_G} {tys : List (ClassId × FieldType)} {base b L : Nat} {xs : Nat → Int32} (X : iv_X p m c cL_law 4 s args iv_W0 RL D classes tys base) (hty : iv_ty tys) (hRf : 1300 ≤ R.frames) (hRl : 26000 ≤ R.locals) (hX : va_X b L xs s s.heap) (hbl : b < s.heap.size) (hbb : b < base) {h1 h2 : Nat} {t i : Int32} (ii : iv_R 0 3577 i) (hiL : i.toInt + 7 ≤ (L : Int)) {cells slots : Nat} (hRc : cells + 7 ≤ R.cells) (hRs : slots + 896 ≤ R.slots) {G : iv_G} {H : Heap} {locs : List Loc} (hB : iv_B iv_sh D classes tys base G s.heap H locs) (hJ : lw_J t t h1 h2 G) {ls : Array Slot} (hl : lv_has ls 4 [(3, .int i), (0, .ref b), (1, .ref h1), (2, .ref h2)])
    (kk : ∀ (t' : Int32) (G1 : iv_G) (H1 : Heap) (locs1 : List Loc), iv_B iv_sh D classes tys base G1 s.heap H1 locs1 → lw_J t' t' h1 h2 G1 → W p l e R s m args below meth c H1 locs1 (cells + 7) (slots + 896) Q (F0 m 1620 ls [])) : W p l e R s m args below meth c H locs cells slots Q (F0 m 1433 ls []) := by
  have hx := X.1.1
  have hb := X.1.2.1
  have hbA : ¬ iv_A base b := fun q => absurd (show base ≤ b from q) (by omega)
  obtain ⟨cf, cn, cp, cW, ca, cb, hJ, hW1, hW2, hF1, hF2⟩ := hJ
  refine lv_aload_n hx hb dL_law_1433 rfl (lv_at hl 2 rfl) ?_
  refine lv_aload_n hx hb dL_law_1434 rfl (lv_at hl 1 rfl) ?_
  refine lv_iload_n hx hb dL_law_1435 rfl (lv_at hl 0 rfl) ?_
  refine lv_iconst (v := 1) hx hb dL_law_1436 (by decide) ?_
  refine iv_iadd hx hb ii q_1 (lo := 1) (hi := 3578) (by decide) dL_law_1437 (fun y1 e_y1 i_y1 => ?_)
  refine va_sld hx hb hX hbl hbA hB.2.1 (iv_inU i_y1 (by decide) (by have w1 : y1.toInt = i.toInt + (1 : Int32).toInt := e_y1; have w2 : (1 : Int32).toInt = 1 := rfl; omega)) dL_law_1438 ?_
  refine lv_topi (fun x2 e_x2 => ?_)
  have i_x2 := iv_R.all x2
  obtain ⟨g1, r1, g2, r2, a1, a2, q1, q2, hne, qf1, qf2, hnr, kn1, kp1, kn2, kp2⟩ := id hJ
  refine iv_cVi X k_good k_mf_X11_hopes k_im_X11_hopes k_sel_X11_hopes k_ml_L_172 ft_X11 hB a1 sh_11 (As := [.int x2]) (c_X11_hopes l D tys base G h1 g1 r1 a1 x2 i_x2) ⟨rfl, rfl⟩ ⟨Nat.le_trans (m := 1300) (Nat.le_of_ble_eq_true rfl) hRf, Nat.le_trans (m := 26000) (Nat.le_of_ble_eq_true rfl) hRl⟩ ⟨by omega, by omega⟩ rfl rfl hl.1 (Nat.le_of_ble_eq_true rfl) dL_law_1439 (fun v3 G3 H locs hq hB => ?_)
  have hJ := hJ.md hq.1
  have hW1 := hW1.K (iv_MdT.of hq.1) (by decide) (by decide)
  have hW2 := hW2.K (iv_MdT.of hq.1) (by decide) (by decide)
  have hF1 := hF1.K (iv_MdT.of hq.1) (by decide)
  have hF2 := hF2.K (iv_MdT.of hq.1) (by decide) (by decide)
  refine lv_pop hx hb dL_law_1442 rfl ?_
  refine lv_aload_n hx hb dL_law_1443 rfl (lv_at hl 3 rfl) ?_
  refine lv_aload_n hx hb dL_law_1444 rfl (lv_at hl 1 rfl) ?_
  refine lv_iload_n hx hb dL_law_1445 rfl (lv_at hl 0 rfl) ?_
  refine lv_iconst (v := 1) hx hb dL_law_1446 (by decide) ?_
  refine iv_iadd hx hb ii q_1 (lo := 1) (hi := 3578) (by decide) dL_law_1447 (fun y4 e_y4 i_y4 => ?_)
  refine va_sld hx hb hX hbl hbA hB.2.1 (iv_inU i_y4 (by decide) (by have w1 : y4.toInt = i.toInt + (1 : Int32).toInt := e_y4; have w2 : (1 : Int32).toInt = 1 := rfl; omega)) dL_law_1448 ?_
  refine lv_topi (fun x5 e_x5 => ?_)
  have i_x5 := iv_R.all x5
  obtain ⟨g1, r1, g2, r2, a1, a2, q1, q2, hne, qf1, qf2, hnr, kn1, kp1, kn2, kp2⟩ := id hJ
  refine iv_cVi X k_good k_mf_X12_hopes k_im_X12_hopes k_sel_X12_hopes k_ml_L_175 ft_X12 hB a2 sh_12 (As := [.int x5]) (c_X12_hopes l D tys base G3 h2 g2 r2 a2 x5 i_x5) ⟨rfl, rfl⟩ ⟨Nat.le_trans (m := 1300) (Nat.le_of_ble_eq_true rfl) hRf, Nat.le_trans (m := 26000) (Nat.le_of_ble_eq_true rfl) hRl⟩ ⟨by omega, by omega⟩ rfl rfl hl.1 (Nat.le_of_ble_eq_true rfl) dL_law_1449 (fun v6 G6 H locs hq hB => ?_)
  have hJ := hJ.md hq.1
  have hW1 := hW1.K (iv_MdT.of hq.1) (by decide) (by decide)
  have hW2 := hW2.K (iv_MdT.of hq.1) (by decide) (by decide)
  have hF1 := hF1.K (iv_MdT.of hq.1) (by decide)
  have hF2 := hF2.K (iv_MdT.of hq.1) (by decide) (by decide)
  refine lv_pop hx hb dL_law_1452 rfl ?_
  refine lv_goto (tgt := 1620) hx hb dL_law_1453 (by decide) ?_
  refine W.widen (k := cells + 7) (n := slots + 896) (by omega) (by omega) ?_
  exact kk _ _ _ _ hB ⟨_, _, _, _, _, _, hJ, hW1, hW2, hF1, hF2⟩
theorem dL_law_1456 : decode cL_law 1456 = .ok (.aload_n 1, 1) := by decide +kernel
theorem dL_law_1457 : decode cL_law 1457 = .ok (.aload_n 0, 1) := by decide +kernel
theorem dL_law_1458 : decode cL_law 1458 = .ok (.iload_n 3, 1) := by decide +kernel
theorem dL_law_1459 : decode cL_law 1459 = .ok (.iconst 1, 1) := by decide +kernel
theorem dL_law_1460 : decode cL_law 1460 = .ok (.iadd, 1) := by decide +kernel
theorem dL_law_1461 : decode cL_law 1461 = .ok (.iaload, 1) := by decide +kernel
theorem dL_law_1462 : decode cL_law 1462 = .ok (.invokevirtual 176, 3) := by decide +kernel
theorem dL_law_1465 : decode cL_law 1465 = .ok (.pop, 1) := by decide +kernel
theorem dL_law_1466 : decode cL_law 1466 = .ok (.aload_n 2, 1) := by decide +kernel
theorem dL_law_1467 : decode cL_law 1467 = .ok (.aload_n 0, 1) := by decide +kernel
theorem dL_law_1468 : decode cL_law 1468 = .ok (.iload_n 3, 1) := by decide +kernel
theorem dL_law_1469 : decode cL_law 1469 = .ok (.iconst 1, 1) := by decide +kernel
theorem dL_law_1470 : decode cL_law 1470 = .ok (.iadd, 1) := by decide +kernel
theorem dL_law_1471 : decode cL_law 1471 = .ok (.iaload, 1) := by decide +kernel
theorem dL_law_1472 : decode cL_law 1472 = .ok (.invokevirtual 179, 3) := by decide +kernel
theorem dL_law_1475 : decode cL_law 1475 = .ok (.pop, 1) := by decide +kernel
theorem dL_law_1476 : decode cL_law 1476 = .ok (.goto 144, 3) := by decide +kernel
set_option maxHeartbeats 4000000 in
set_option maxRecDepth 100000 in
theorem law_c38 {p : Program} {l : Launch} {e : Env} {R : Room} {s : State} {m : MethodId} {args : Array Value} {below : List Frame} {meth : Method} {c : Code} {Q : State → Prop} {D : va_G} {tys : List (ClassId × FieldType)} {base b L : Nat} {xs : Nat → Int32} (X : iv_X p m c cL_law 4 s args iv_W0 RL D classes tys base) (hty : iv_ty tys) (hRf : 1300 ≤ R.frames) (hRl : 26000 ≤ R.locals) (hX : va_X b L xs s s.heap) (hbl : b < s.heap.size) (hbb : b < base) {h1 h2 : Nat} {t i : Int32} (ii : iv_R 0 3577 i) (hiL : i.toInt + 7 ≤ (L : Int)) {cells slots : Nat} (hRc : cells + 7 ≤ R.cells) (hRs : slots + 896 ≤ R.slots) {G : iv_G} {H : Heap} {locs : List Loc} (hB : iv_B iv_sh D classes tys base G s.heap H locs) (hJ : lw_J t t h1 h2 G) {ls : Array Slot} (hl : lv_has ls 4 [(3, .int i), (0, .ref b), (1, .ref h1), (2, .ref h2)])
    (kk : ∀ (t' : Int32) (G1 : iv_G) (H1 : Heap) (locs1 : List Loc), iv_B iv_sh D classes tys base G1 s.heap H1 locs1 → lw_J t' t' h1 h2 G1 → W p l e R s m args below meth c H1 locs1 (cells + 7) (slots + 896) Q (F0 m 1620 ls [])) : W p l e R s m args below meth c H locs cells slots Q (F0 m 1456 ls []) := by
  have hx := X.1.1
  have hb := X.1.2.1
  have hbA : ¬ iv_A base b := fun q => absurd (show base ≤ b from q) (by omega)
  obtain ⟨cf, cn, cp, cW, ca, cb, hJ, hW1, hW2, hF1, hF2⟩ := hJ
  refine lv_aload_n hx hb dL_law_1456 rfl (lv_at hl 2 rfl) ?_
  refine lv_aload_n hx hb dL_law_1457 rfl (lv_at hl 1 rfl) ?_
  refine lv_iload_n hx hb dL_law_1458 rfl (lv_at hl 0 rfl) ?_
  refine lv_iconst (v := 1) hx hb dL_law_1459 (by decide) ?_
  refine iv_iadd hx hb ii q_1 (lo := 1) (hi := 3578) (by decide) dL_law_1460 (fun y1 e_y1 i_y1 => ?_)
  refine va_sld hx hb hX hbl hbA hB.2.1 (iv_inU i_y1 (by decide) (by have w1 : y1.toInt = i.toInt + (1 : Int32).toInt := e_y1; have w2 : (1 : Int32).toInt = 1 := rfl; omega)) dL_law_1461 ?_
  refine lv_topi (fun x2 e_x2 => ?_)
  have i_x2 := iv_R.all x2
  obtain ⟨g1, r1, g2, r2, a1, a2, q1, q2, hne, qf1, qf2, hnr, kn1, kp1, kn2, kp2⟩ := id hJ
  refine iv_cVi X k_good k_mf_X11_octaves k_im_X11_octaves k_sel_X11_octaves k_ml_L_176 ft_X11 hB a1 sh_11 (As := [.int x2]) (c_X11_octaves l D tys base G h1 g1 r1 a1 x2 i_x2) ⟨rfl, rfl⟩ ⟨Nat.le_trans (m := 1300) (Nat.le_of_ble_eq_true rfl) hRf, Nat.le_trans (m := 26000) (Nat.le_of_ble_eq_true rfl) hRl⟩ ⟨by omega, by omega⟩ rfl rfl hl.1 (Nat.le_of_ble_eq_true rfl) dL_law_1462 (fun v3 G3 H locs hq hB => ?_)
  have hJ := hJ.same hq.1
  have hW1 := lw_same hW1 hq.1
  have hW2 := lw_same hW2 hq.1
  have hF1 := lw_same hF1 hq.1
  have hF2 := lw_same hF2 hq.1
  refine lv_pop hx hb dL_law_1465 rfl ?_
  refine lv_aload_n hx hb dL_law_1466 rfl (lv_at hl 3 rfl) ?_
  refine lv_aload_n hx hb dL_law_1467 rfl (lv_at hl 1 rfl) ?_
  refine lv_iload_n hx hb dL_law_1468 rfl (lv_at hl 0 rfl) ?_
  refine lv_iconst (v := 1) hx hb dL_law_1469 (by decide) ?_
  refine iv_iadd hx hb ii q_1 (lo := 1) (hi := 3578) (by decide) dL_law_1470 (fun y4 e_y4 i_y4 => ?_)
  refine va_sld hx hb hX hbl hbA hB.2.1 (iv_inU i_y4 (by decide) (by have w1 : y4.toInt = i.toInt + (1 : Int32).toInt := e_y4; have w2 : (1 : Int32).toInt = 1 := rfl; omega)) dL_law_1471 ?_
  refine lv_topi (fun x5 e_x5 => ?_)
  have i_x5 := iv_R.all x5
  obtain ⟨g1, r1, g2, r2, a1, a2, q1, q2, hne, qf1, qf2, hnr, kn1, kp1, kn2, kp2⟩ := id hJ
  refine iv_cVi X k_good k_mf_X12_octaves k_im_X12_octaves k_sel_X12_octaves k_ml_L_179 ft_X12 hB a2 sh_12 (As := [.int x5]) (c_X12_octaves l D tys base G3 h2 g2 r2 a2 x5 i_x5) ⟨rfl, rfl⟩ ⟨Nat.le_trans (m := 1300) (Nat.le_of_ble_eq_true rfl) hRf, Nat.le_trans (m := 26000) (Nat.le_of_ble_eq_true rfl) hRl⟩ ⟨by omega, by omega⟩ rfl rfl hl.1 (Nat.le_of_ble_eq_true rfl) dL_law_1472 (fun v6 G6 H locs hq hB => ?_)
  have hJ := hJ.same hq.1
  have hW1 := lw_same hW1 hq.1
  have hW2 := lw_same hW2 hq.1
  have hF1 := lw_same hF1 hq.1
  have hF2 := lw_same hF2 hq.1
  refine lv_pop hx hb dL_law_1475 rfl ?_
  refine lv_goto (tgt := 1620) hx hb dL_law_1476 (by decide) ?_
  refine W.widen (k := cells + 7) (n := slots + 896) (by omega) (by omega) ?_
  exact kk _ _ _ _ hB ⟨_, _, _, _, _, _, hJ, hW1, hW2, hF1, hF2⟩
theorem dL_law_1479 : decode cL_law 1479 = .ok (.aload_n 1, 1) := by decide +kernel
theorem dL_law_1480 : decode cL_law 1480 = .ok (.aload_n 0, 1) := by decide +kernel
theorem dL_law_1481 : decode cL_law 1481 = .ok (.iload_n 3, 1) := by decide +kernel
theorem dL_law_1482 : decode cL_law 1482 = .ok (.iconst 1, 1) := by decide +kernel
theorem dL_law_1483 : decode cL_law 1483 = .ok (.iadd, 1) := by decide +kernel
theorem dL_law_1484 : decode cL_law 1484 = .ok (.iaload, 1) := by decide +kernel
theorem dL_law_1485 : decode cL_law 1485 = .ok (.aload_n 0, 1) := by decide +kernel
theorem dL_law_1486 : decode cL_law 1486 = .ok (.iload_n 3, 1) := by decide +kernel
theorem dL_law_1487 : decode cL_law 1487 = .ok (.iconst 2, 1) := by decide +kernel
theorem dL_law_1488 : decode cL_law 1488 = .ok (.iadd, 1) := by decide +kernel
theorem dL_law_1489 : decode cL_law 1489 = .ok (.iaload, 1) := by decide +kernel
theorem dL_law_1490 : decode cL_law 1490 = .ok (.invokevirtual 180, 3) := by decide +kernel
theorem dL_law_1493 : decode cL_law 1493 = .ok (.pop, 1) := by decide +kernel
theorem dL_law_1494 : decode cL_law 1494 = .ok (.aload_n 2, 1) := by decide +kernel
theorem dL_law_1495 : decode cL_law 1495 = .ok (.aload_n 0, 1) := by decide +kernel
theorem dL_law_1496 : decode cL_law 1496 = .ok (.iload_n 3, 1) := by decide +kernel
theorem dL_law_1497 : decode cL_law 1497 = .ok (.iconst 1, 1) := by decide +kernel
theorem dL_law_1498 : decode cL_law 1498 = .ok (.iadd, 1) := by decide +kernel
theorem dL_law_1499 : decode cL_law 1499 = .ok (.iaload, 1) := by decide +kernel
theorem dL_law_1500 : decode cL_law 1500 = .ok (.aload_n 0, 1) := by decide +kernel
theorem dL_law_1501 : decode cL_law 1501 = .ok (.iload_n 3, 1) := by decide +kernel
theorem dL_law_1502 : decode cL_law 1502 = .ok (.iconst 2, 1) := by decide +kernel
theorem dL_law_1503 : decode cL_law 1503 = .ok (.iadd, 1) := by decide +kernel
theorem dL_law_1504 : decode cL_law 1504 = .ok (.iaload, 1) := by decide +kernel
theorem dL_law_1505 : decode cL_law 1505 = .ok (.invokevirtual 183, 3) := by decide +kernel
theorem dL_law_1508 : decode cL_law 1508 = .ok (.pop, 1) := by decide +kernel
theorem dL_law_1509 : decode cL_law 1509 = .ok (.goto 111, 3) := by decide +kernel
set_option maxHeartbeats 4000000 in
set_option maxRecDepth 100000 in
theorem law_c39 {p : Program} {l : Launch} {e : Env} {R : Room} {s : State} {m : MethodId} {args : Array Value} {below : List Frame} {meth : Method} {c : Code} {Q : State → Prop} {D : va_G} {tys : List (ClassId × FieldType)} {base b L : Nat} {xs : Nat → Int32} (X : iv_X p m c cL_law 4 s args iv_W0 RL D classes tys base) (hty : iv_ty tys) (hRf : 1300 ≤ R.frames) (hRl : 26000 ≤ R.locals) (hX : va_X b L xs s s.heap) (hbl : b < s.heap.size) (hbb : b < base) {h1 h2 : Nat} {t i : Int32} (ii : iv_R 0 3577 i) (hiL : i.toInt + 7 ≤ (L : Int)) {cells slots : Nat} (hRc : cells + 7 ≤ R.cells) (hRs : slots + 896 ≤ R.slots) {G : iv_G} {H : Heap} {locs : List Loc} (hB : iv_B iv_sh D classes tys base G s.heap H locs) (hJ : lw_J t t h1 h2 G) {ls : Array Slot} (hl : lv_has ls 4 [(3, .int i), (0, .ref b), (1, .ref h1), (2, .ref h2)])
    (kk : ∀ (t' : Int32) (G1 : iv_G) (H1 : Heap) (locs1 : List Loc), iv_B iv_sh D classes tys base G1 s.heap H1 locs1 → lw_J t' t' h1 h2 G1 → W p l e R s m args below meth c H1 locs1 (cells + 7) (slots + 896) Q (F0 m 1620 ls [])) : W p l e R s m args below meth c H locs cells slots Q (F0 m 1479 ls []) := by
  have hx := X.1.1
  have hb := X.1.2.1
  have hbA : ¬ iv_A base b := fun q => absurd (show base ≤ b from q) (by omega)
  obtain ⟨cf, cn, cp, cW, ca, cb, hJ, hW1, hW2, hF1, hF2⟩ := hJ
  refine lv_aload_n hx hb dL_law_1479 rfl (lv_at hl 2 rfl) ?_
  refine lv_aload_n hx hb dL_law_1480 rfl (lv_at hl 1 rfl) ?_
  refine lv_iload_n hx hb dL_law_1481 rfl (lv_at hl 0 rfl) ?_
  refine lv_iconst (v := 1) hx hb dL_law_1482 (by decide) ?_
  refine iv_iadd hx hb ii q_1 (lo := 1) (hi := 3578) (by decide) dL_law_1483 (fun y1 e_y1 i_y1 => ?_)
  refine va_sld hx hb hX hbl hbA hB.2.1 (iv_inU i_y1 (by decide) (by have w1 : y1.toInt = i.toInt + (1 : Int32).toInt := e_y1; have w2 : (1 : Int32).toInt = 1 := rfl; omega)) dL_law_1484 ?_
  refine lv_topi (fun x2 e_x2 => ?_)
  have i_x2 := iv_R.all x2
  refine lv_aload_n hx hb dL_law_1485 rfl (lv_at hl 1 rfl) ?_
  refine lv_iload_n hx hb dL_law_1486 rfl (lv_at hl 0 rfl) ?_
  refine lv_iconst (v := 2) hx hb dL_law_1487 (by decide) ?_
  refine iv_iadd hx hb ii q_2 (lo := 2) (hi := 3579) (by decide) dL_law_1488 (fun y3 e_y3 i_y3 => ?_)
  refine va_sld hx hb hX hbl hbA hB.2.1 (iv_inU i_y3 (by decide) (by have w1 : y3.toInt = i.toInt + (2 : Int32).toInt := e_y3; have w2 : (2 : Int32).toInt = 2 := rfl; omega)) dL_law_1489 ?_
  refine lv_topi (fun x4 e_x4 => ?_)
  have i_x4 := iv_R.all x4
  obtain ⟨g1, r1, g2, r2, a1, a2, q1, q2, hne, qf1, qf2, hnr, kn1, kp1, kn2, kp2⟩ := id hJ
  refine iv_cVi X k_good k_mf_X11_eldest k_im_X11_eldest k_sel_X11_eldest k_ml_L_180 ft_X11 hB a1 sh_11 (As := [.int x2, .int x4]) (c_X11_eldest l D tys base G h1 g1 r1 a1 x2 i_x2 x4 i_x4) ⟨rfl, rfl⟩ ⟨Nat.le_trans (m := 1300) (Nat.le_of_ble_eq_true rfl) hRf, Nat.le_trans (m := 26000) (Nat.le_of_ble_eq_true rfl) hRl⟩ ⟨by omega, by omega⟩ rfl rfl hl.1 (Nat.le_of_ble_eq_true rfl) dL_law_1490 (fun v5 G5 H locs hq hB => ?_)
  have hJ := hJ.same hq.1
  have hW1 := lw_same hW1 hq.1
  have hW2 := lw_same hW2 hq.1
  have hF1 := lw_same hF1 hq.1
  have hF2 := lw_same hF2 hq.1
  refine lv_pop hx hb dL_law_1493 rfl ?_
  refine lv_aload_n hx hb dL_law_1494 rfl (lv_at hl 3 rfl) ?_
  refine lv_aload_n hx hb dL_law_1495 rfl (lv_at hl 1 rfl) ?_
  refine lv_iload_n hx hb dL_law_1496 rfl (lv_at hl 0 rfl) ?_
  refine lv_iconst (v := 1) hx hb dL_law_1497 (by decide) ?_
  refine iv_iadd hx hb ii q_1 (lo := 1) (hi := 3578) (by decide) dL_law_1498 (fun y6 e_y6 i_y6 => ?_)
  refine va_sld hx hb hX hbl hbA hB.2.1 (iv_inU i_y6 (by decide) (by have w1 : y6.toInt = i.toInt + (1 : Int32).toInt := e_y6; have w2 : (1 : Int32).toInt = 1 := rfl; omega)) dL_law_1499 ?_
  refine lv_topi (fun x7 e_x7 => ?_)
  have i_x7 := iv_R.all x7
  refine lv_aload_n hx hb dL_law_1500 rfl (lv_at hl 1 rfl) ?_
  refine lv_iload_n hx hb dL_law_1501 rfl (lv_at hl 0 rfl) ?_
  refine lv_iconst (v := 2) hx hb dL_law_1502 (by decide) ?_
  refine iv_iadd hx hb ii q_2 (lo := 2) (hi := 3579) (by decide) dL_law_1503 (fun y8 e_y8 i_y8 => ?_)
  refine va_sld hx hb hX hbl hbA hB.2.1 (iv_inU i_y8 (by decide) (by have w1 : y8.toInt = i.toInt + (2 : Int32).toInt := e_y8; have w2 : (2 : Int32).toInt = 2 := rfl; omega)) dL_law_1504 ?_
  refine lv_topi (fun x9 e_x9 => ?_)
  have i_x9 := iv_R.all x9
  obtain ⟨g1, r1, g2, r2, a1, a2, q1, q2, hne, qf1, qf2, hnr, kn1, kp1, kn2, kp2⟩ := id hJ
  refine iv_cVi X k_good k_mf_X12_eldest k_im_X12_eldest k_sel_X12_eldest k_ml_L_183 ft_X12 hB a2 sh_12 (As := [.int x7, .int x9]) (c_X12_eldest l D tys base G5 h2 g2 r2 a2 x7 i_x7 x9 i_x9) ⟨rfl, rfl⟩ ⟨Nat.le_trans (m := 1300) (Nat.le_of_ble_eq_true rfl) hRf, Nat.le_trans (m := 26000) (Nat.le_of_ble_eq_true rfl) hRl⟩ ⟨by omega, by omega⟩ rfl rfl hl.1 (Nat.le_of_ble_eq_true rfl) dL_law_1505 (fun v10 G10 H locs hq hB => ?_)
  have hJ := hJ.same hq.1
  have hW1 := lw_same hW1 hq.1
  have hW2 := lw_same hW2 hq.1
  have hF1 := lw_same hF1 hq.1
  have hF2 := lw_same hF2 hq.1
  refine lv_pop hx hb dL_law_1508 rfl ?_
  refine lv_goto (tgt := 1620) hx hb dL_law_1509 (by decide) ?_
  refine W.widen (k := cells + 7) (n := slots + 896) (by omega) (by omega) ?_
  exact kk _ _ _ _ hB ⟨_, _, _, _, _, _, hJ, hW1, hW2, hF1, hF2⟩
theorem dL_law_1512 : decode cL_law 1512 = .ok (.aload_n 1, 1) := by decide +kernel
theorem dL_law_1513 : decode cL_law 1513 = .ok (.aload_n 0, 1) := by decide +kernel
theorem dL_law_1514 : decode cL_law 1514 = .ok (.iload_n 3, 1) := by decide +kernel
theorem dL_law_1515 : decode cL_law 1515 = .ok (.iconst 1, 1) := by decide +kernel
theorem dL_law_1516 : decode cL_law 1516 = .ok (.iadd, 1) := by decide +kernel
theorem dL_law_1517 : decode cL_law 1517 = .ok (.iaload, 1) := by decide +kernel
theorem dL_law_1518 : decode cL_law 1518 = .ok (.aload_n 0, 1) := by decide +kernel
theorem dL_law_1519 : decode cL_law 1519 = .ok (.iload_n 3, 1) := by decide +kernel
theorem dL_law_1520 : decode cL_law 1520 = .ok (.iconst 2, 1) := by decide +kernel
theorem dL_law_1521 : decode cL_law 1521 = .ok (.iadd, 1) := by decide +kernel
theorem dL_law_1522 : decode cL_law 1522 = .ok (.iaload, 1) := by decide +kernel
theorem dL_law_1523 : decode cL_law 1523 = .ok (.invokevirtual 184, 3) := by decide +kernel
theorem dL_law_1526 : decode cL_law 1526 = .ok (.pop, 1) := by decide +kernel
theorem dL_law_1527 : decode cL_law 1527 = .ok (.aload_n 2, 1) := by decide +kernel
theorem dL_law_1528 : decode cL_law 1528 = .ok (.aload_n 0, 1) := by decide +kernel
theorem dL_law_1529 : decode cL_law 1529 = .ok (.iload_n 3, 1) := by decide +kernel
theorem dL_law_1530 : decode cL_law 1530 = .ok (.iconst 1, 1) := by decide +kernel
theorem dL_law_1531 : decode cL_law 1531 = .ok (.iadd, 1) := by decide +kernel
theorem dL_law_1532 : decode cL_law 1532 = .ok (.iaload, 1) := by decide +kernel
theorem dL_law_1533 : decode cL_law 1533 = .ok (.aload_n 0, 1) := by decide +kernel
theorem dL_law_1534 : decode cL_law 1534 = .ok (.iload_n 3, 1) := by decide +kernel
theorem dL_law_1535 : decode cL_law 1535 = .ok (.iconst 2, 1) := by decide +kernel
theorem dL_law_1536 : decode cL_law 1536 = .ok (.iadd, 1) := by decide +kernel
theorem dL_law_1537 : decode cL_law 1537 = .ok (.iaload, 1) := by decide +kernel
theorem dL_law_1538 : decode cL_law 1538 = .ok (.invokevirtual 187, 3) := by decide +kernel
theorem dL_law_1541 : decode cL_law 1541 = .ok (.pop, 1) := by decide +kernel
theorem dL_law_1542 : decode cL_law 1542 = .ok (.goto 78, 3) := by decide +kernel
set_option maxHeartbeats 4000000 in
set_option maxRecDepth 100000 in
theorem law_c40 {p : Program} {l : Launch} {e : Env} {R : Room} {s : State} {m : MethodId} {args : Array Value} {below : List Frame} {meth : Method} {c : Code} {Q : State → Prop} {D : va_G} {tys : List (ClassId × FieldType)} {base b L : Nat} {xs : Nat → Int32} (X : iv_X p m c cL_law 4 s args iv_W0 RL D classes tys base) (hty : iv_ty tys) (hRf : 1300 ≤ R.frames) (hRl : 26000 ≤ R.locals) (hX : va_X b L xs s s.heap) (hbl : b < s.heap.size) (hbb : b < base) {h1 h2 : Nat} {t i : Int32} (ii : iv_R 0 3577 i) (hiL : i.toInt + 7 ≤ (L : Int)) {cells slots : Nat} (hRc : cells + 7 ≤ R.cells) (hRs : slots + 896 ≤ R.slots) {G : iv_G} {H : Heap} {locs : List Loc} (hB : iv_B iv_sh D classes tys base G s.heap H locs) (hJ : lw_J t t h1 h2 G) {ls : Array Slot} (hl : lv_has ls 4 [(3, .int i), (0, .ref b), (1, .ref h1), (2, .ref h2)])
    (kk : ∀ (t' : Int32) (G1 : iv_G) (H1 : Heap) (locs1 : List Loc), iv_B iv_sh D classes tys base G1 s.heap H1 locs1 → lw_J t' t' h1 h2 G1 → W p l e R s m args below meth c H1 locs1 (cells + 7) (slots + 896) Q (F0 m 1620 ls [])) : W p l e R s m args below meth c H locs cells slots Q (F0 m 1512 ls []) := by
  have hx := X.1.1
  have hb := X.1.2.1
  have hbA : ¬ iv_A base b := fun q => absurd (show base ≤ b from q) (by omega)
  obtain ⟨cf, cn, cp, cW, ca, cb, hJ, hW1, hW2, hF1, hF2⟩ := hJ
  refine lv_aload_n hx hb dL_law_1512 rfl (lv_at hl 2 rfl) ?_
  refine lv_aload_n hx hb dL_law_1513 rfl (lv_at hl 1 rfl) ?_
  refine lv_iload_n hx hb dL_law_1514 rfl (lv_at hl 0 rfl) ?_
  refine lv_iconst (v := 1) hx hb dL_law_1515 (by decide) ?_
  refine iv_iadd hx hb ii q_1 (lo := 1) (hi := 3578) (by decide) dL_law_1516 (fun y1 e_y1 i_y1 => ?_)
  refine va_sld hx hb hX hbl hbA hB.2.1 (iv_inU i_y1 (by decide) (by have w1 : y1.toInt = i.toInt + (1 : Int32).toInt := e_y1; have w2 : (1 : Int32).toInt = 1 := rfl; omega)) dL_law_1517 ?_
  refine lv_topi (fun x2 e_x2 => ?_)
  have i_x2 := iv_R.all x2
  refine lv_aload_n hx hb dL_law_1518 rfl (lv_at hl 1 rfl) ?_
  refine lv_iload_n hx hb dL_law_1519 rfl (lv_at hl 0 rfl) ?_
  refine lv_iconst (v := 2) hx hb dL_law_1520 (by decide) ?_
  refine iv_iadd hx hb ii q_2 (lo := 2) (hi := 3579) (by decide) dL_law_1521 (fun y3 e_y3 i_y3 => ?_)
  refine va_sld hx hb hX hbl hbA hB.2.1 (iv_inU i_y3 (by decide) (by have w1 : y3.toInt = i.toInt + (2 : Int32).toInt := e_y3; have w2 : (2 : Int32).toInt = 2 := rfl; omega)) dL_law_1522 ?_
  refine lv_topi (fun x4 e_x4 => ?_)
  have i_x4 := iv_R.all x4
  obtain ⟨g1, r1, g2, r2, a1, a2, q1, q2, hne, qf1, qf2, hnr, kn1, kp1, kn2, kp2⟩ := id hJ
  refine iv_cVi X k_good k_mf_X11_peals k_im_X11_peals k_sel_X11_peals k_ml_L_184 ft_X11 hB a1 sh_11 (As := [.int x2, .int x4]) (c_X11_peals l D tys base G h1 g1 r1 a1 x2 i_x2 x4 i_x4) ⟨rfl, rfl⟩ ⟨Nat.le_trans (m := 1300) (Nat.le_of_ble_eq_true rfl) hRf, Nat.le_trans (m := 26000) (Nat.le_of_ble_eq_true rfl) hRl⟩ ⟨by omega, by omega⟩ rfl rfl hl.1 (Nat.le_of_ble_eq_true rfl) dL_law_1523 (fun v5 G5 H locs hq hB => ?_)
  have hJ := hJ.md hq.1
  have hW1 := hW1.K (iv_MdT.of hq.1) (by decide) (by decide)
  have hW2 := hW2.K (iv_MdT.of hq.1) (by decide) (by decide)
  have hF1 := hF1.K (iv_MdT.of hq.1) (by decide)
  have hF2 := hF2.K (iv_MdT.of hq.1) (by decide) (by decide)
  refine lv_pop hx hb dL_law_1526 rfl ?_
  refine lv_aload_n hx hb dL_law_1527 rfl (lv_at hl 3 rfl) ?_
  refine lv_aload_n hx hb dL_law_1528 rfl (lv_at hl 1 rfl) ?_
  refine lv_iload_n hx hb dL_law_1529 rfl (lv_at hl 0 rfl) ?_
  refine lv_iconst (v := 1) hx hb dL_law_1530 (by decide) ?_
  refine iv_iadd hx hb ii q_1 (lo := 1) (hi := 3578) (by decide) dL_law_1531 (fun y6 e_y6 i_y6 => ?_)
  refine va_sld hx hb hX hbl hbA hB.2.1 (iv_inU i_y6 (by decide) (by have w1 : y6.toInt = i.toInt + (1 : Int32).toInt := e_y6; have w2 : (1 : Int32).toInt = 1 := rfl; omega)) dL_law_1532 ?_
  refine lv_topi (fun x7 e_x7 => ?_)
  have i_x7 := iv_R.all x7
  refine lv_aload_n hx hb dL_law_1533 rfl (lv_at hl 1 rfl) ?_
  refine lv_iload_n hx hb dL_law_1534 rfl (lv_at hl 0 rfl) ?_
  refine lv_iconst (v := 2) hx hb dL_law_1535 (by decide) ?_
  refine iv_iadd hx hb ii q_2 (lo := 2) (hi := 3579) (by decide) dL_law_1536 (fun y8 e_y8 i_y8 => ?_)
  refine va_sld hx hb hX hbl hbA hB.2.1 (iv_inU i_y8 (by decide) (by have w1 : y8.toInt = i.toInt + (2 : Int32).toInt := e_y8; have w2 : (2 : Int32).toInt = 2 := rfl; omega)) dL_law_1537 ?_
  refine lv_topi (fun x9 e_x9 => ?_)
  have i_x9 := iv_R.all x9
  obtain ⟨g1, r1, g2, r2, a1, a2, q1, q2, hne, qf1, qf2, hnr, kn1, kp1, kn2, kp2⟩ := id hJ
  refine iv_cVi X k_good k_mf_X12_peals k_im_X12_peals k_sel_X12_peals k_ml_L_187 ft_X12 hB a2 sh_12 (As := [.int x7, .int x9]) (c_X12_peals l D tys base G5 h2 g2 r2 a2 x7 i_x7 x9 i_x9) ⟨rfl, rfl⟩ ⟨Nat.le_trans (m := 1300) (Nat.le_of_ble_eq_true rfl) hRf, Nat.le_trans (m := 26000) (Nat.le_of_ble_eq_true rfl) hRl⟩ ⟨by omega, by omega⟩ rfl rfl hl.1 (Nat.le_of_ble_eq_true rfl) dL_law_1538 (fun v10 G10 H locs hq hB => ?_)
  have hJ := hJ.md hq.1
  have hW1 := hW1.K (iv_MdT.of hq.1) (by decide) (by decide)
  have hW2 := hW2.K (iv_MdT.of hq.1) (by decide) (by decide)
  have hF1 := hF1.K (iv_MdT.of hq.1) (by decide)
  have hF2 := hF2.K (iv_MdT.of hq.1) (by decide) (by decide)
  refine lv_pop hx hb dL_law_1541 rfl ?_
  refine lv_goto (tgt := 1620) hx hb dL_law_1542 (by decide) ?_
  refine W.widen (k := cells + 7) (n := slots + 896) (by omega) (by omega) ?_
  exact kk _ _ _ _ hB ⟨_, _, _, _, _, _, hJ, hW1, hW2, hF1, hF2⟩
theorem dL_law_1545 : decode cL_law 1545 = .ok (.aload_n 1, 1) := by decide +kernel
theorem dL_law_1546 : decode cL_law 1546 = .ok (.invokevirtual 188, 3) := by decide +kernel
theorem dL_law_1549 : decode cL_law 1549 = .ok (.pop, 1) := by decide +kernel
theorem dL_law_1550 : decode cL_law 1550 = .ok (.aload_n 2, 1) := by decide +kernel
theorem dL_law_1551 : decode cL_law 1551 = .ok (.invokevirtual 192, 3) := by decide +kernel
theorem dL_law_1554 : decode cL_law 1554 = .ok (.pop, 1) := by decide +kernel
theorem dL_law_1555 : decode cL_law 1555 = .ok (.goto 65, 3) := by decide +kernel
set_option maxHeartbeats 4000000 in
set_option maxRecDepth 100000 in
theorem law_c41 {p : Program} {l : Launch} {e : Env} {R : Room} {s : State} {m : MethodId} {args : Array Value} {below : List Frame} {meth : Method} {c : Code} {Q : State → Prop} {D : va_G} {tys : List (ClassId × FieldType)} {base b L : Nat} {xs : Nat → Int32} (X : iv_X p m c cL_law 4 s args iv_W0 RL D classes tys base) (hty : iv_ty tys) (hRf : 1300 ≤ R.frames) (hRl : 26000 ≤ R.locals) (hX : va_X b L xs s s.heap) (hbl : b < s.heap.size) (hbb : b < base) {h1 h2 : Nat} {t i : Int32} (ii : iv_R 0 3577 i) (hiL : i.toInt + 7 ≤ (L : Int)) {cells slots : Nat} (hRc : cells + 7 ≤ R.cells) (hRs : slots + 896 ≤ R.slots) {G : iv_G} {H : Heap} {locs : List Loc} (hB : iv_B iv_sh D classes tys base G s.heap H locs) (hJ : lw_J t t h1 h2 G) {ls : Array Slot} (hl : lv_has ls 4 [(3, .int i), (0, .ref b), (1, .ref h1), (2, .ref h2)])
    (kk : ∀ (t' : Int32) (G1 : iv_G) (H1 : Heap) (locs1 : List Loc), iv_B iv_sh D classes tys base G1 s.heap H1 locs1 → lw_J t' t' h1 h2 G1 → W p l e R s m args below meth c H1 locs1 (cells + 7) (slots + 896) Q (F0 m 1620 ls [])) : W p l e R s m args below meth c H locs cells slots Q (F0 m 1545 ls []) := by
  have hx := X.1.1
  have hb := X.1.2.1
  have hbA : ¬ iv_A base b := fun q => absurd (show base ≤ b from q) (by omega)
  obtain ⟨cf, cn, cp, cW, ca, cb, hJ, hW1, hW2, hF1, hF2⟩ := hJ
  refine lv_aload_n hx hb dL_law_1545 rfl (lv_at hl 2 rfl) ?_
  obtain ⟨g1, r1, g2, r2, a1, a2, q1, q2, hne, qf1, qf2, hnr, kn1, kp1, kn2, kp2⟩ := id hJ
  refine iv_cVi X k_good k_mf_X11_undo k_im_X11_undo k_sel_X11_undo k_ml_L_188 ft_X11 hB a1 sh_11 (As := []) (c_X11_undo l D tys base G h1 g1 r1 a1) ⟨rfl, rfl⟩ ⟨Nat.le_trans (m := 1300) (Nat.le_of_ble_eq_true rfl) hRf, Nat.le_trans (m := 26000) (Nat.le_of_ble_eq_true rfl) hRl⟩ ⟨by omega, by omega⟩ rfl rfl hl.1 (Nat.le_of_ble_eq_true rfl) dL_law_1546 (fun v1 G1 H locs hq hB => ?_)
  have hJ := hJ.md hq.1
  have hW1 := hW1.K (iv_MdT.of hq.1) (by decide) (by decide)
  have hW2 := hW2.K (iv_MdT.of hq.1) (by decide) (by decide)
  have hF1 := hF1.K (iv_MdT.of hq.1) (by decide)
  have hF2 := hF2.K (iv_MdT.of hq.1) (by decide) (by decide)
  refine lv_pop hx hb dL_law_1549 rfl ?_
  refine lv_aload_n hx hb dL_law_1550 rfl (lv_at hl 3 rfl) ?_
  obtain ⟨g1, r1, g2, r2, a1, a2, q1, q2, hne, qf1, qf2, hnr, kn1, kp1, kn2, kp2⟩ := id hJ
  refine iv_cVi X k_good k_mf_X12_undo k_im_X12_undo k_sel_X12_undo k_ml_L_192 ft_X12 hB a2 sh_12 (As := []) (c_X12_undo l D tys base G1 h2 g2 r2 a2) ⟨rfl, rfl⟩ ⟨Nat.le_trans (m := 1300) (Nat.le_of_ble_eq_true rfl) hRf, Nat.le_trans (m := 26000) (Nat.le_of_ble_eq_true rfl) hRl⟩ ⟨by omega, by omega⟩ rfl rfl hl.1 (Nat.le_of_ble_eq_true rfl) dL_law_1551 (fun v2 G2 H locs hq hB => ?_)
  have hJ := hJ.md hq.1
  have hW1 := hW1.K (iv_MdT.of hq.1) (by decide) (by decide)
  have hW2 := hW2.K (iv_MdT.of hq.1) (by decide) (by decide)
  have hF1 := hF1.K (iv_MdT.of hq.1) (by decide)
  have hF2 := hF2.K (iv_MdT.of hq.1) (by decide) (by decide)
  refine lv_pop hx hb dL_law_1554 rfl ?_
  refine lv_goto (tgt := 1620) hx hb dL_law_1555 (by decide) ?_
  refine W.widen (k := cells + 7) (n := slots + 896) (by omega) (by omega) ?_
  exact kk _ _ _ _ hB ⟨_, _, _, _, _, _, hJ, hW1, hW2, hF1, hF2⟩
theorem dL_law_1558 : decode cL_law 1558 = .ok (.aload_n 1, 1) := by decide +kernel
theorem dL_law_1559 : decode cL_law 1559 = .ok (.aload_n 0, 1) := by decide +kernel
theorem dL_law_1560 : decode cL_law 1560 = .ok (.iload_n 3, 1) := by decide +kernel
theorem dL_law_1561 : decode cL_law 1561 = .ok (.iconst 1, 1) := by decide +kernel
theorem dL_law_1562 : decode cL_law 1562 = .ok (.iadd, 1) := by decide +kernel
theorem dL_law_1563 : decode cL_law 1563 = .ok (.iaload, 1) := by decide +kernel
theorem dL_law_1564 : decode cL_law 1564 = .ok (.ifCond .eq 7, 3) := by decide +kernel
theorem dL_law_1567 : decode cL_law 1567 = .ok (.iconst 1, 1) := by decide +kernel
theorem dL_law_1568 : decode cL_law 1568 = .ok (.goto 4, 3) := by decide +kernel
theorem dL_law_1571 : decode cL_law 1571 = .ok (.iconst 0, 1) := by decide +kernel
theorem dL_law_1572 : decode cL_law 1572 = .ok (.invokevirtual 193, 3) := by decide +kernel
theorem dL_law_1575 : decode cL_law 1575 = .ok (.pop, 1) := by decide +kernel
theorem dL_law_1576 : decode cL_law 1576 = .ok (.aload_n 2, 1) := by decide +kernel
theorem dL_law_1577 : decode cL_law 1577 = .ok (.aload_n 0, 1) := by decide +kernel
theorem dL_law_1578 : decode cL_law 1578 = .ok (.iload_n 3, 1) := by decide +kernel
theorem dL_law_1579 : decode cL_law 1579 = .ok (.iconst 1, 1) := by decide +kernel
theorem dL_law_1580 : decode cL_law 1580 = .ok (.iadd, 1) := by decide +kernel
theorem dL_law_1581 : decode cL_law 1581 = .ok (.iaload, 1) := by decide +kernel
theorem dL_law_1582 : decode cL_law 1582 = .ok (.ifCond .eq 7, 3) := by decide +kernel
theorem dL_law_1585 : decode cL_law 1585 = .ok (.iconst 1, 1) := by decide +kernel
theorem dL_law_1586 : decode cL_law 1586 = .ok (.goto 4, 3) := by decide +kernel
theorem dL_law_1589 : decode cL_law 1589 = .ok (.iconst 0, 1) := by decide +kernel
theorem dL_law_1590 : decode cL_law 1590 = .ok (.invokevirtual 197, 3) := by decide +kernel
theorem dL_law_1593 : decode cL_law 1593 = .ok (.pop, 1) := by decide +kernel
theorem dL_law_1594 : decode cL_law 1594 = .ok (.goto 26, 3) := by decide +kernel
set_option maxHeartbeats 4000000 in
set_option maxRecDepth 100000 in
theorem law_c42 {p : Program} {l : Launch} {e : Env} {R : Room} {s : State} {m : MethodId} {args : Array Value} {below : List Frame} {meth : Method} {c : Code} {Q : State → Prop} {D : va_G} {tys : List (ClassId × FieldType)} {base b L : Nat} {xs : Nat → Int32} (X : iv_X p m c cL_law 4 s args iv_W0 RL D classes tys base) (hty : iv_ty tys) (hRf : 1300 ≤ R.frames) (hRl : 26000 ≤ R.locals) (hX : va_X b L xs s s.heap) (hbl : b < s.heap.size) (hbb : b < base) {h1 h2 : Nat} {t i : Int32} (ii : iv_R 0 3577 i) (hiL : i.toInt + 7 ≤ (L : Int)) {cells slots : Nat} (hRc : cells + 7 ≤ R.cells) (hRs : slots + 896 ≤ R.slots) {G : iv_G} {H : Heap} {locs : List Loc} (hB : iv_B iv_sh D classes tys base G s.heap H locs) (hJ : lw_J t t h1 h2 G) {ls : Array Slot} (hl : lv_has ls 4 [(3, .int i), (0, .ref b), (1, .ref h1), (2, .ref h2)])
    (kk : ∀ (t' : Int32) (G1 : iv_G) (H1 : Heap) (locs1 : List Loc), iv_B iv_sh D classes tys base G1 s.heap H1 locs1 → lw_J t' t' h1 h2 G1 → W p l e R s m args below meth c H1 locs1 (cells + 7) (slots + 896) Q (F0 m 1620 ls [])) : W p l e R s m args below meth c H locs cells slots Q (F0 m 1558 ls []) := by
  have hx := X.1.1
  have hb := X.1.2.1
  have hbA : ¬ iv_A base b := fun q => absurd (show base ≤ b from q) (by omega)
  obtain ⟨cf, cn, cp, cW, ca, cb, hJ, hW1, hW2, hF1, hF2⟩ := hJ
  refine lv_aload_n hx hb dL_law_1558 rfl (lv_at hl 2 rfl) ?_
  refine lv_aload_n hx hb dL_law_1559 rfl (lv_at hl 1 rfl) ?_
  refine lv_iload_n hx hb dL_law_1560 rfl (lv_at hl 0 rfl) ?_
  refine lv_iconst (v := 1) hx hb dL_law_1561 (by decide) ?_
  refine iv_iadd hx hb ii q_1 (lo := 1) (hi := 3578) (by decide) dL_law_1562 (fun y1 e_y1 i_y1 => ?_)
  refine va_sld hx hb hX hbl hbA hB.2.1 (iv_inU i_y1 (by decide) (by have w1 : y1.toInt = i.toInt + (1 : Int32).toInt := e_y1; have w2 : (1 : Int32).toInt = 1 := rfl; omega)) dL_law_1563 ?_
  refine lv_topi (fun x2 e_x2 => ?_)
  have i_x2 := iv_R.all x2
  refine lv_if_eq (tgt := 1571) hx hb dL_law_1564 (by decide) (fun c1564 => ?_) (fun c1564 => ?_)
  · skip
    refine lv_iconst (v := 0) hx hb dL_law_1571 (by decide) ?_
    obtain ⟨g1, r1, g2, r2, a1, a2, q1, q2, hne, qf1, qf2, hnr, kn1, kp1, kn2, kp2⟩ := id hJ
    refine iv_cVi X k_good k_mf_X11_image k_im_X11_image k_sel_X11_image k_ml_L_193 ft_X11 hB a1 sh_11 (As := [.int 0]) (e_X11_image l D tys base G h1 g1 r1 a1 0 (q_0.wk (by decide))) ⟨rfl, rfl⟩ ⟨Nat.le_trans (m := 1300) (Nat.le_of_ble_eq_true rfl) hRf, Nat.le_trans (m := 26000) (Nat.le_of_ble_eq_true rfl) hRl⟩ ⟨by omega, by omega⟩ rfl rfl hl.1 (Nat.le_of_ble_eq_true rfl) dL_law_1572 (fun v3 G3 H locs hq hB => ?_)
    obtain ⟨cn1, cp1, hR1, hJ⟩ := hJ.im1 hq.1 a1 (by decide) (by decide) (fun g' r' h9 => (hq.2.2.1 g' r' h9).trans q1) hq.2.2.2.2.1 hq.2.2.2.2.2
    have f10 := hq.2.1
    have f11 := hq.2.2.2.1
    rw [qf1] at hJ f11
    have hW1 := hW1.K hq.1 (by decide) (by decide)
    have hW2 := hW2.K hq.1 (by decide) (by decide)
    have hF1 := hF1.K hq.1 (by decide)
    have hF2 := hF2.K hq.1 (by decide) (by decide)
    refine lv_pop hx hb dL_law_1575 rfl ?_
    refine lv_aload_n hx hb dL_law_1576 rfl (lv_at hl 3 rfl) ?_
    refine lv_aload_n hx hb dL_law_1577 rfl (lv_at hl 1 rfl) ?_
    refine lv_iload_n hx hb dL_law_1578 rfl (lv_at hl 0 rfl) ?_
    refine lv_iconst (v := 1) hx hb dL_law_1579 (by decide) ?_
    refine iv_iadd hx hb ii q_1 (lo := 1) (hi := 3578) (by decide) dL_law_1580 (fun y4 e_y4 i_y4 => ?_)
    refine va_sld hx hb hX hbl hbA hB.2.1 (iv_inU i_y4 (by decide) (by have w1 : y4.toInt = i.toInt + (1 : Int32).toInt := e_y4; have w2 : (1 : Int32).toInt = 1 := rfl; omega)) dL_law_1581 ?_
    refine lv_topi (fun x5 e_x5 => ?_)
    have i_x5 := iv_R.all x5
    refine lv_if_eq (tgt := 1589) hx hb dL_law_1582 (by decide) (fun c1582 => ?_) (fun c1582 => ?_)
    · skip
      refine lv_iconst (v := 0) hx hb dL_law_1589 (by decide) ?_
      obtain ⟨g1, r1, g2, r2, a1, a2, q1, q2, hne, qf1, qf2, hnr, kn1, kp1, kn2, kp2⟩ := id hJ
      refine iv_cVi X k_good k_mf_X12_image k_im_X12_image k_sel_X12_image k_ml_L_197 ft_X12 hB a2 sh_12 (As := [.int 0]) (e_X12_image l D tys base G3 h2 g2 r2 a2 0 (q_0.wk (by decide)) hne) ⟨rfl, rfl⟩ ⟨Nat.le_trans (m := 1300) (Nat.le_of_ble_eq_true rfl) hRf, Nat.le_trans (m := 26000) (Nat.le_of_ble_eq_true rfl) hRl⟩ ⟨by omega, by omega⟩ rfl rfl hl.1 (Nat.le_of_ble_eq_true rfl) dL_law_1590 (fun v6 G6 H locs hq hB => ?_)
      obtain ⟨cn2, cp2, hR2, hJ⟩ := hJ.im2 hq.1 a2 (by decide) (by decide) (fun g' r' h9 => (hq.2.2.1 g' r' h9).trans q2) hq.2.2.2.2.1 hq.2.2.2.2.2
      have f20 := hq.2.1
      have f21 := hq.2.2.2.1
      rw [qf2] at hJ f21
      have hvv : v3 = v6 := lx_eq f10 f20 f11 f21
      rw [← hvv] at hJ hR2
      obtain ⟨hc1, hc2⟩ := hR1.eq hR2
      rw [hc1, hc2] at hJ
      have hW1 := hW1.K hq.1 (by decide) (by decide)
      have hW2 := hW2.K hq.1 (by decide) (by decide)
      have hF1 := hF1.K hq.1 (by decide)
      have hF2 := hF2.K hq.1 (by decide) (by decide)
      refine lv_pop hx hb dL_law_1593 rfl ?_
      refine lv_goto (tgt := 1620) hx hb dL_law_1594 (by decide) ?_
      refine W.widen (k := cells + 7) (n := slots + 896) (by omega) (by omega) ?_
      exact kk _ _ _ _ hB ⟨_, _, _, _, _, _, hJ, hW1, hW2, hF1, hF2⟩
    · skip
      refine lv_iconst (v := 1) hx hb dL_law_1585 (by decide) ?_
      refine lv_goto (tgt := 1590) hx hb dL_law_1586 (by decide) ?_
      obtain ⟨g1, r1, g2, r2, a1, a2, q1, q2, hne, qf1, qf2, hnr, kn1, kp1, kn2, kp2⟩ := id hJ
      have exx : x5 = x2 := by rw [e_x5, e_x2]; exact congrArg (fun z : Int32 => xs z.toNatClampNeg) (Int32.toInt_inj.mp (e_y4.trans e_y1.symm))
      exact absurd (exx.trans c1564) c1582
  · skip
    refine lv_iconst (v := 1) hx hb dL_law_1567 (by decide) ?_
    refine lv_goto (tgt := 1572) hx hb dL_law_1568 (by decide) ?_
    obtain ⟨g1, r1, g2, r2, a1, a2, q1, q2, hne, qf1, qf2, hnr, kn1, kp1, kn2, kp2⟩ := id hJ
    refine iv_cVi X k_good k_mf_X11_image k_im_X11_image k_sel_X11_image k_ml_L_193 ft_X11 hB a1 sh_11 (As := [.int 1]) (e_X11_image l D tys base G h1 g1 r1 a1 1 (q_1.wk (by decide))) ⟨rfl, rfl⟩ ⟨Nat.le_trans (m := 1300) (Nat.le_of_ble_eq_true rfl) hRf, Nat.le_trans (m := 26000) (Nat.le_of_ble_eq_true rfl) hRl⟩ ⟨by omega, by omega⟩ rfl rfl hl.1 (Nat.le_of_ble_eq_true rfl) dL_law_1572 (fun v7 G7 H locs hq hB => ?_)
    obtain ⟨cn1, cp1, hR1, hJ⟩ := hJ.im1 hq.1 a1 (by decide) (by decide) (fun g' r' h9 => (hq.2.2.1 g' r' h9).trans q1) hq.2.2.2.2.1 hq.2.2.2.2.2
    have f10 := hq.2.1
    have f11 := hq.2.2.2.1
    rw [qf1] at hJ f11
    have hW1 := hW1.K hq.1 (by decide) (by decide)
    have hW2 := hW2.K hq.1 (by decide) (by decide)
    have hF1 := hF1.K hq.1 (by decide)
    have hF2 := hF2.K hq.1 (by decide) (by decide)
    refine lv_pop hx hb dL_law_1575 rfl ?_
    refine lv_aload_n hx hb dL_law_1576 rfl (lv_at hl 3 rfl) ?_
    refine lv_aload_n hx hb dL_law_1577 rfl (lv_at hl 1 rfl) ?_
    refine lv_iload_n hx hb dL_law_1578 rfl (lv_at hl 0 rfl) ?_
    refine lv_iconst (v := 1) hx hb dL_law_1579 (by decide) ?_
    refine iv_iadd hx hb ii q_1 (lo := 1) (hi := 3578) (by decide) dL_law_1580 (fun y8 e_y8 i_y8 => ?_)
    refine va_sld hx hb hX hbl hbA hB.2.1 (iv_inU i_y8 (by decide) (by have w1 : y8.toInt = i.toInt + (1 : Int32).toInt := e_y8; have w2 : (1 : Int32).toInt = 1 := rfl; omega)) dL_law_1581 ?_
    refine lv_topi (fun x9 e_x9 => ?_)
    have i_x9 := iv_R.all x9
    refine lv_if_eq (tgt := 1589) hx hb dL_law_1582 (by decide) (fun c1582 => ?_) (fun c1582 => ?_)
    · skip
      refine lv_iconst (v := 0) hx hb dL_law_1589 (by decide) ?_
      obtain ⟨g1, r1, g2, r2, a1, a2, q1, q2, hne, qf1, qf2, hnr, kn1, kp1, kn2, kp2⟩ := id hJ
      have exx : x9 = x2 := by rw [e_x9, e_x2]; exact congrArg (fun z : Int32 => xs z.toNatClampNeg) (Int32.toInt_inj.mp (e_y8.trans e_y1.symm))
      exact absurd (exx.symm.trans c1582) c1564
    · skip
      refine lv_iconst (v := 1) hx hb dL_law_1585 (by decide) ?_
      refine lv_goto (tgt := 1590) hx hb dL_law_1586 (by decide) ?_
      obtain ⟨g1, r1, g2, r2, a1, a2, q1, q2, hne, qf1, qf2, hnr, kn1, kp1, kn2, kp2⟩ := id hJ
      refine iv_cVi X k_good k_mf_X12_image k_im_X12_image k_sel_X12_image k_ml_L_197 ft_X12 hB a2 sh_12 (As := [.int 1]) (e_X12_image l D tys base G7 h2 g2 r2 a2 1 (q_1.wk (by decide)) hne) ⟨rfl, rfl⟩ ⟨Nat.le_trans (m := 1300) (Nat.le_of_ble_eq_true rfl) hRf, Nat.le_trans (m := 26000) (Nat.le_of_ble_eq_true rfl) hRl⟩ ⟨by omega, by omega⟩ rfl rfl hl.1 (Nat.le_of_ble_eq_true rfl) dL_law_1590 (fun v10 G10 H locs hq hB => ?_)
      obtain ⟨cn2, cp2, hR2, hJ⟩ := hJ.im2 hq.1 a2 (by decide) (by decide) (fun g' r' h9 => (hq.2.2.1 g' r' h9).trans q2) hq.2.2.2.2.1 hq.2.2.2.2.2
      have f20 := hq.2.1
      have f21 := hq.2.2.2.1
      rw [qf2] at hJ f21
      have hvv : v7 = v10 := lx_eq f10 f20 f11 f21
      rw [← hvv] at hJ hR2
      obtain ⟨hc1, hc2⟩ := hR1.eq hR2
      rw [hc1, hc2] at hJ
      have hW1 := hW1.K hq.1 (by decide) (by decide)
      have hW2 := hW2.K hq.1 (by decide) (by decide)
      have hF1 := hF1.K hq.1 (by decide)
      have hF2 := hF2.K hq.1 (by decide) (by decide)
      refine lv_pop hx hb dL_law_1593 rfl ?_
      refine lv_goto (tgt := 1620) hx hb dL_law_1594 (by decide) ?_
      refine W.widen (k := cells + 7) (n := slots + 896) (by omega) (by omega) ?_
      exact kk _ _ _ _ hB ⟨_, _, _, _, _, _, hJ, hW1, hW2, hF1, hF2⟩
theorem dL_law_1597 : decode cL_law 1597 = .ok (.aload_n 1, 1) := by decide +kernel
theorem dL_law_1598 : decode cL_law 1598 = .ok (.aload_n 0, 1) := by decide +kernel
theorem dL_law_1599 : decode cL_law 1599 = .ok (.iload_n 3, 1) := by decide +kernel
theorem dL_law_1600 : decode cL_law 1600 = .ok (.iconst 1, 1) := by decide +kernel
theorem dL_law_1601 : decode cL_law 1601 = .ok (.iadd, 1) := by decide +kernel
theorem dL_law_1602 : decode cL_law 1602 = .ok (.iaload, 1) := by decide +kernel
theorem dL_law_1603 : decode cL_law 1603 = .ok (.invokevirtual 198, 3) := by decide +kernel
theorem dL_law_1606 : decode cL_law 1606 = .ok (.pop, 1) := by decide +kernel
theorem dL_law_1607 : decode cL_law 1607 = .ok (.aload_n 2, 1) := by decide +kernel
theorem dL_law_1608 : decode cL_law 1608 = .ok (.aload_n 0, 1) := by decide +kernel
theorem dL_law_1609 : decode cL_law 1609 = .ok (.iload_n 3, 1) := by decide +kernel
theorem dL_law_1610 : decode cL_law 1610 = .ok (.iconst 1, 1) := by decide +kernel
theorem dL_law_1611 : decode cL_law 1611 = .ok (.iadd, 1) := by decide +kernel
theorem dL_law_1612 : decode cL_law 1612 = .ok (.iaload, 1) := by decide +kernel
theorem dL_law_1613 : decode cL_law 1613 = .ok (.invokevirtual 201, 3) := by decide +kernel
theorem dL_law_1616 : decode cL_law 1616 = .ok (.pop, 1) := by decide +kernel
theorem dL_law_1617 : decode cL_law 1617 = .ok (.goto 3, 3) := by decide +kernel
set_option maxHeartbeats 4000000 in
set_option maxRecDepth 100000 in
theorem law_c43 {p : Program} {l : Launch} {e : Env} {R : Room} {s : State} {m : MethodId} {args : Array Value} {below : List Frame} {meth : Method} {c : Code} {Q : State → Prop} {D : va_G} {tys : List (ClassId × FieldType)} {base b L : Nat} {xs : Nat → Int32} (X : iv_X p m c cL_law 4 s args iv_W0 RL D classes tys base) (hty : iv_ty tys) (hRf : 1300 ≤ R.frames) (hRl : 26000 ≤ R.locals) (hX : va_X b L xs s s.heap) (hbl : b < s.heap.size) (hbb : b < base) {h1 h2 : Nat} {t i : Int32} (ii : iv_R 0 3577 i) (hiL : i.toInt + 7 ≤ (L : Int)) {cells slots : Nat} (hRc : cells + 7 ≤ R.cells) (hRs : slots + 896 ≤ R.slots) {G : iv_G} {H : Heap} {locs : List Loc} (hB : iv_B iv_sh D classes tys base G s.heap H locs) (hJ : lw_J t t h1 h2 G) {ls : Array Slot} (hl : lv_has ls 4 [(3, .int i), (0, .ref b), (1, .ref h1), (2, .ref h2)])
    (kk : ∀ (t' : Int32) (G1 : iv_G) (H1 : Heap) (locs1 : List Loc), iv_B iv_sh D classes tys base G1 s.heap H1 locs1 → lw_J t' t' h1 h2 G1 → W p l e R s m args below meth c H1 locs1 (cells + 7) (slots + 896) Q (F0 m 1620 ls [])) : W p l e R s m args below meth c H locs cells slots Q (F0 m 1597 ls []) := by
  have hx := X.1.1
  have hb := X.1.2.1
  have hbA : ¬ iv_A base b := fun q => absurd (show base ≤ b from q) (by omega)
  obtain ⟨cf, cn, cp, cW, ca, cb, hJ, hW1, hW2, hF1, hF2⟩ := hJ
  refine lv_aload_n hx hb dL_law_1597 rfl (lv_at hl 2 rfl) ?_
  refine lv_aload_n hx hb dL_law_1598 rfl (lv_at hl 1 rfl) ?_
  refine lv_iload_n hx hb dL_law_1599 rfl (lv_at hl 0 rfl) ?_
  refine lv_iconst (v := 1) hx hb dL_law_1600 (by decide) ?_
  refine iv_iadd hx hb ii q_1 (lo := 1) (hi := 3578) (by decide) dL_law_1601 (fun y1 e_y1 i_y1 => ?_)
  refine va_sld hx hb hX hbl hbA hB.2.1 (iv_inU i_y1 (by decide) (by have w1 : y1.toInt = i.toInt + (1 : Int32).toInt := e_y1; have w2 : (1 : Int32).toInt = 1 := rfl; omega)) dL_law_1602 ?_
  refine lv_topi (fun x2 e_x2 => ?_)
  have i_x2 := iv_R.all x2
  obtain ⟨g1, r1, g2, r2, a1, a2, q1, q2, hne, qf1, qf2, hnr, kn1, kp1, kn2, kp2⟩ := id hJ
  refine iv_cVi X k_good k_mf_X11_look k_im_X11_look k_sel_X11_look k_ml_L_198 ft_X11 hB a1 sh_11 (As := [.int x2]) (c_X11_look l D tys base G h1 g1 r1 a1 x2 i_x2) ⟨rfl, rfl⟩ ⟨Nat.le_trans (m := 1300) (Nat.le_of_ble_eq_true rfl) hRf, Nat.le_trans (m := 26000) (Nat.le_of_ble_eq_true rfl) hRl⟩ ⟨by omega, by omega⟩ rfl rfl hl.1 (Nat.le_of_ble_eq_true rfl) dL_law_1603 (fun v3 G3 H locs hq hB => ?_)
  have hJ := hJ.same hq.1
  have hW1 := lw_same hW1 hq.1
  have hW2 := lw_same hW2 hq.1
  have hF1 := lw_same hF1 hq.1
  have hF2 := lw_same hF2 hq.1
  refine lv_pop hx hb dL_law_1606 rfl ?_
  refine lv_aload_n hx hb dL_law_1607 rfl (lv_at hl 3 rfl) ?_
  refine lv_aload_n hx hb dL_law_1608 rfl (lv_at hl 1 rfl) ?_
  refine lv_iload_n hx hb dL_law_1609 rfl (lv_at hl 0 rfl) ?_
  refine lv_iconst (v := 1) hx hb dL_law_1610 (by decide) ?_
  refine iv_iadd hx hb ii q_1 (lo := 1) (hi := 3578) (by decide) dL_law_1611 (fun y4 e_y4 i_y4 => ?_)
  refine va_sld hx hb hX hbl hbA hB.2.1 (iv_inU i_y4 (by decide) (by have w1 : y4.toInt = i.toInt + (1 : Int32).toInt := e_y4; have w2 : (1 : Int32).toInt = 1 := rfl; omega)) dL_law_1612 ?_
  refine lv_topi (fun x5 e_x5 => ?_)
  have i_x5 := iv_R.all x5
  obtain ⟨g1, r1, g2, r2, a1, a2, q1, q2, hne, qf1, qf2, hnr, kn1, kp1, kn2, kp2⟩ := id hJ
  refine iv_cVi X k_good k_mf_X12_look k_im_X12_look k_sel_X12_look k_ml_L_201 ft_X12 hB a2 sh_12 (As := [.int x5]) (c_X12_look l D tys base G3 h2 g2 r2 a2 x5 i_x5) ⟨rfl, rfl⟩ ⟨Nat.le_trans (m := 1300) (Nat.le_of_ble_eq_true rfl) hRf, Nat.le_trans (m := 26000) (Nat.le_of_ble_eq_true rfl) hRl⟩ ⟨by omega, by omega⟩ rfl rfl hl.1 (Nat.le_of_ble_eq_true rfl) dL_law_1613 (fun v6 G6 H locs hq hB => ?_)
  have hJ := hJ.same hq.1
  have hW1 := lw_same hW1 hq.1
  have hW2 := lw_same hW2 hq.1
  have hF1 := lw_same hF1 hq.1
  have hF2 := lw_same hF2 hq.1
  refine lv_pop hx hb dL_law_1616 rfl ?_
  refine lv_goto (tgt := 1620) hx hb dL_law_1617 (by decide) ?_
  refine W.widen (k := cells + 7) (n := slots + 896) (by omega) (by omega) ?_
  exact kk _ _ _ _ hB ⟨_, _, _, _, _, _, hJ, hW1, hW2, hF1, hF2⟩
