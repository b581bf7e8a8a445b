def iv_relK (K : Nat → List Nat) (k k' : iv_K) : Prop := (∀ j, (k.1 = 5 → j ≠ 13 ∧ j ≠ 14) → k'.2.2 j = k.2.2 j) ∧ (∀ j, j ∈ K k.1 → k'.2.1 j = k.2.1 j) ∧ (k.1 = 12 → (k'.2.1 3).toInt ≤ (k.2.1 3).toInt)
theorem iv_relK.rf {K : Nat → List Nat} (k : iv_K) : iv_relK K k k := ⟨fun _ _ => rfl, fun _ _ => rfl, fun _ => Int.le_refl _⟩
abbrev iv_MdK (K : Nat → List Nat) (S : List Nat) (G G' : iv_G) : Prop := iv_mod (iv_relK K) S G G'
theorem iv_MdK.rf {K : Nat → List Nat} {S : List Nat} {G : iv_G} : iv_MdK K S G G := iv_mod.rf iv_relK.rf
theorem iv_MdK.stp {K : Nat → List Nat} {S S2 : List Nat} {G G1 G2 : iv_G} (h1 : iv_MdK K S G G1) (h2 : iv_MdK K S2 G1 G2) (s2 : ∀ x, x ∈ S2 → x ∈ S) : iv_MdK K S G G2 := iv_mod.tr (fun a b c e h1 h2 => ⟨fun j hj => (h2.1 j (by rw [e]; exact hj)).trans (h1.1 j hj), fun j hj => (h2.2.1 j (by rw [e]; exact hj)).trans (h1.2.1 j hj), fun h => Int.le_trans (h2.2.2 (e.trans h)) (h1.2.2 h)⟩) h1 h2 (fun _ h => h) s2
theorem iv_MdK.put {K : Nat → List Nat} {G : iv_G} {a cd : Nat} {g : Nat → Int32} {r : Nat → Nat} {j : Nat} {x : Int32} (ha : G a = some (cd, g, r)) (hj : j ∉ K cd) (h3 : cd = 12 → 3 ≠ j) : iv_MdK K [cd] G (iv_up G a (cd, upd g j x, r)) := iv_mod.up iv_relK.rf ha rfl List.mem_cons_self ⟨fun _ _ => rfl, fun i hi => by show upd g j x i = g i; exact if_neg (fun (e : i = j) => hj (e ▸ hi)), fun h => by show (upd g j x 3).toInt ≤ (g 3).toInt; simp [upd, h3 h]⟩
theorem iv_MdK.wk {K K' : Nat → List Nat} (hs : ∀ c j, j ∈ K' c → j ∈ K c) {S : List Nat} {G G' : iv_G} (h : iv_MdK K S G G') : iv_MdK K' S G G' := fun a k hk => by
  obtain ⟨k', h1, h2, h3, h4⟩ := h a k hk
  exact ⟨k', h1, h2, h3, h4.1, fun j hj => h4.2.1 j (hs _ j hj), h4.2.2⟩
theorem iv_MdK.of {K : Nat → List Nat} (hs : ∀ c j, j ∈ K c → j ∈ iv_stab c) {S : List Nat} {G G' : iv_G} (h : iv_Md S G G') : iv_MdK K S G G' := fun a k hk => by
  obtain ⟨k', h1, h2, h3, h4⟩ := h a k hk
  exact ⟨k', h1, h2, h3, h4.1, fun j hj => h4.2.1 j (hs _ j hj), h4.2.2.2⟩
def iv_keys (c : Nat) : List Nat := if c = 11 then [2] else if c = 12 then [4] else if c = 5 then [1, 3] else if c = 1 then [1] else if c = 60 then [67, 75, 83, 91, 99, 107, 115, 123, 131, 139, 146, 147] else []
def iv_keysO (_ : Nat) : List Nat := []
theorem iv_keys_stab : ∀ c j, j ∈ iv_keys c → j ∈ iv_stab c := by
  intro c j h
  unfold iv_keys at h
  by_cases e0 : c = 11
  · subst e0; rw [if_pos rfl] at h; exact (show ∀ q ∈ ([2] : List Nat), q ∈ iv_stab 11 from by decide) j h
  rw [if_neg e0] at h
  by_cases e1 : c = 12
  · subst e1; rw [if_pos rfl] at h; exact (show ∀ q ∈ ([4] : List Nat), q ∈ iv_stab 12 from by decide) j h
  rw [if_neg e1] at h
  by_cases e2 : c = 5
  · subst e2; rw [if_pos rfl] at h; exact (show ∀ q ∈ ([1, 3] : List Nat), q ∈ iv_stab 5 from by decide) j h
  rw [if_neg e2] at h
  by_cases e3 : c = 1
  · subst e3; rw [if_pos rfl] at h; exact (show ∀ q ∈ ([1] : List Nat), q ∈ iv_stab 1 from by decide) j h
  rw [if_neg e3] at h
  by_cases e4 : c = 60
  · subst e4; rw [if_pos rfl] at h; exact (show ∀ q ∈ ([67, 75, 83, 91, 99, 107, 115, 123, 131, 139, 146, 147] : List Nat), q ∈ iv_stab 60 from by decide) j h
  rw [if_neg e4] at h
  exact absurd h List.not_mem_nil
theorem iv_keys_ne7 : ∀ c j, j ∈ iv_keys c → c ≠ 7 := fun c j h e => by
  subst e
  exact absurd (show j ∈ ([] : List Nat) from h) List.not_mem_nil
abbrev iv_MdT (S : List Nat) (G G' : iv_G) : Prop := iv_MdK iv_keys S G G'
theorem iv_MdT.rf {S : List Nat} {G : iv_G} : iv_MdT S G G := iv_MdK.rf
theorem iv_MdT.stp {S S2 : List Nat} {G G1 G2 : iv_G} (h1 : iv_MdT S G G1) (h2 : iv_MdT S2 G1 G2) (s2 : ∀ x, x ∈ S2 → x ∈ S) : iv_MdT S G G2 := iv_MdK.stp h1 h2 s2
theorem iv_MdT.put {G : iv_G} {a cd : Nat} {g : Nat → Int32} {r : Nat → Nat} {j : Nat} {x : Int32} (ha : G a = some (cd, g, r)) (hj : j ∉ iv_keys cd) (h3 : cd = 12 → 3 ≠ j) : iv_MdT [cd] G (iv_up G a (cd, upd g j x, r)) := iv_MdK.put ha hj h3
theorem iv_MdT.of {S : List Nat} {G G' : iv_G} (h : iv_Md S G G') : iv_MdT S G G' := iv_MdK.of iv_keys_stab h
abbrev iv_MdO (S : List Nat) (G G' : iv_G) : Prop := iv_MdK iv_keysO S G G'
theorem iv_MdO.rf {S : List Nat} {G : iv_G} : iv_MdO S G G := iv_MdK.rf
theorem iv_MdO.stp {S S2 : List Nat} {G G1 G2 : iv_G} (h1 : iv_MdO S G G1) (h2 : iv_MdO S2 G1 G2) (s2 : ∀ x, x ∈ S2 → x ∈ S) : iv_MdO S G G2 := iv_MdK.stp h1 h2 s2
theorem iv_MdO.put {G : iv_G} {a cd : Nat} {g : Nat → Int32} {r : Nat → Nat} {j : Nat} {x : Int32} (ha : G a = some (cd, g, r)) (hj : j ∉ iv_keysO cd) (h3 : cd = 12 → 3 ≠ j) : iv_MdO [cd] G (iv_up G a (cd, upd g j x, r)) := iv_MdK.put ha hj h3
theorem iv_MdO.of {S : List Nat} {G G' : iv_G} (h : iv_MdT S G G') : iv_MdO S G G' := iv_MdK.wk (fun _ _ h => absurd h List.not_mem_nil) h
theorem iv_MdO.ofM {S : List Nat} {G G' : iv_G} (h : iv_Md S G G') : iv_MdO S G G' := iv_MdO.of (iv_MdT.of h)
/-- a number of a store's object -/
def iv_kc (c j b : Nat) (x : Int32) (G : iv_G) : Prop := ∃ (g : Nat → Int32) (r : Nat → Nat), G b = some (c, g, r) ∧ g j = x
theorem iv_kc.T {c j b : Nat} {x : Int32} {S : List Nat} {G G' : iv_G} (h : iv_kc c j b x G) (hm : iv_MdT S G G') (hk : j ∈ iv_keys c) : iv_kc c j b x G' := by
  obtain ⟨g, r, ha, e⟩ := h
  obtain ⟨g', r', ha', rel⟩ := hm.ex ha
  exact ⟨g', r', ha', (rel.2.1 j hk).trans e⟩
theorem iv_kc.at {c j b : Nat} {x : Int32} {rel : iv_K → iv_K → Prop} {S : List Nat} {G G' : iv_G} (h : iv_kc c j b x G) (hm : iv_mod rel S G G') (hk : c ∉ S) : iv_kc c j b x G' := by
  obtain ⟨g, r, ha, e⟩ := h
  exact ⟨g, r, hm.at ha hk, e⟩
theorem iv_kc.M {c j b : Nat} {x : Int32} {S : List Nat} {G G' : iv_G} (h : iv_kc c j b x G) (hm : iv_Md S G G') (hk : j ∈ iv_stab c) : iv_kc c j b x G' := by
  obtain ⟨g, r, ha, e⟩ := h
  obtain ⟨g', r', ha', rel⟩ := hm.ex ha
  exact ⟨g', r', ha', (rel.2.1 j hk).trans e⟩
theorem iv_kc.val {c j b : Nat} {x : Int32} {G : iv_G} {g : Nat → Int32} {r : Nat → Nat} (h : iv_kc c j b x G) (ha : G b = some (c, g, r)) : g j = x := by
  obtain ⟨g', r', hb, e⟩ := h
  have q := ha.symm.trans hb
  cases q
  exact e
theorem iv_kc.up {c j b : Nat} {x : Int32} {g : Nat → Int32} {r : Nat → Nat} {G : iv_G} : iv_kc c j b x (iv_up G b (c, upd g j x, r)) := ⟨_, _, iv_up_eq, if_pos rfl⟩
/-- the numbers of the keys are kept but for those that P names -/
def iv_kq (P : Nat → Nat → Nat → Prop) (G G' : iv_G) : Prop := ∀ (c j a : Nat) (y : Int32), j ∈ iv_keys c → ¬ P c j a → iv_kc c j a y G → iv_kc c j a y G'
def iv_no : Nat → Nat → Nat → Prop := fun _ _ _ => False
theorem iv_kq.rf {P : Nat → Nat → Nat → Prop} {G : iv_G} : iv_kq P G G := fun _ _ _ _ _ _ h => h
theorem iv_kq.tr {P : Nat → Nat → Nat → Prop} {G G1 G2 : iv_G} (h1 : iv_kq P G G1) (h2 : iv_kq P G1 G2) : iv_kq P G G2 := fun c j a y k n h => h2 c j a y k n (h1 c j a y k n h)
theorem iv_kq.T {P : Nat → Nat → Nat → Prop} {S : List Nat} {G G' : iv_G} (hm : iv_MdT S G G') : iv_kq P G G' := fun _ _ _ _ k _ h => h.T hm k
theorem iv_kq.put {P : Nat → Nat → Nat → Prop} {G : iv_G} {b c0 j0 : Nat} {g : Nat → Int32} {r : Nat → Nat} {x : Int32} (ha : G b = some (c0, g, r)) (hP : P c0 j0 b) : iv_kq P G (iv_up G b (c0, upd g j0 x, r)) := fun c j a y k n h => by
  obtain ⟨g', r', h1, e⟩ := h
  by_cases ea : a = b
  · subst ea
    have q := ha.symm.trans h1
    cases q
    have ne : j ≠ j0 := fun ej => n (by rw [ej]; exact hP)
    exact ⟨_, _, iv_up_eq, (if_neg ne).trans e⟩
  · exact ⟨g', r', (iv_up_ne ea).trans h1, e⟩
theorem iv_kq.sub {P P' : Nat → Nat → Nat → Prop} {G G' : iv_G} (h : iv_kq P G G') (hs : ∀ c j a, P c j a → P' c j a) : iv_kq P' G G' := fun c j a y k n h1 => h c j a y k (fun q => n (hs _ _ _ q)) h1
/-- where the i-th bell of a parish stands -/
def iv_bA (q i a : Nat) (G : iv_G) : Prop := ∃ (g : Nat → Int32) (r : Nat → Nat) (gb : Nat → Int32) (A : Nat → Nat), G q = some (5, g, r) ∧ G (r 0) = some (40, gb, A) ∧ a = A i
theorem iv_bA.eq {q i a b : Nat} {G : iv_G} (h1 : iv_bA q i a G) (h2 : iv_bA q i b G) : a = b := by
  obtain ⟨g, r, gb, A, a1, a2, e⟩ := h1
  obtain ⟨g', r', gb', A', b1, b2, e'⟩ := h2
  have q1 := a1.symm.trans b1
  cases q1
  have q2 := a2.symm.trans b2
  cases q2
  rw [e, e']
theorem iv_key60 {j : Nat} (h : j ∈ iv_keys 60) : j = 146 ∨ j = 147 ∨ (67 ≤ j ∧ j ≤ 139 ∧ j % 8 = 3) := by
  have h : j ∈ ([67, 75, 83, 91, 99, 107, 115, 123, 131, 139, 146, 147] : List Nat) := h
  simp only [List.mem_cons, List.not_mem_nil, or_false] at h
  omega
theorem iv_kc.pn {c j b : Nat} {x y : Int32} {G : iv_G} {b' c' j' : Nat} {g : Nat → Int32} {r : Nat → Nat} (h : iv_kc c j b x G) (ha : G b' = some (c', g, r)) (hn : j ≠ j') : iv_kc c j b x (iv_up G b' (c', upd g j' y, r)) := by
  obtain ⟨g1, r1, h1, e⟩ := h
  by_cases eb : b = b'
  · subst eb
    have q := ha.symm.trans h1
    cases q
    exact ⟨_, _, iv_up_eq, (if_neg hn).trans e⟩
  · exact ⟨g1, r1, (iv_up_ne eb).trans h1, e⟩
/-- what set() did to NEAR, to a bell's pitch -/
def hs_A (v x y : Int32) (b : Nat) (G G' : iv_G) : Prop := (¬ (¬ v = 0 ∧ x.toInt = 0) → iv_kq iv_no G G') ∧ (¬ v = 0 ∧ x.toInt = 0 → iv_kq (fun c j a => c = 5 ∧ j = 3 ∧ a = b) G G' ∧ iv_kc 5 3 b y G')
theorem hs_A.T {v x y : Int32} {b : Nat} {S : List Nat} {G G1 G2 : iv_G} (h : hs_A v x y b G G1) (hm : iv_MdT S G1 G2) : hs_A v x y b G G2 := ⟨fun q => (h.1 q).tr (iv_kq.T hm), fun q => ⟨(h.2 q).1.tr (iv_kq.T hm), (h.2 q).2.T hm (by decide)⟩⟩
def hs_B (v x w y : Int32) (b : Nat) (G G' : iv_G) : Prop := (¬ (¬ v = 0 ∧ x.toInt = 5) → iv_kq iv_no G G') ∧ (¬ v = 0 ∧ x.toInt = 5 → ∃ a, iv_bA b w.toInt.toNat a G ∧ iv_kq (fun c j a' => c = 1 ∧ j = 1 ∧ a' = a) G G' ∧ iv_kc 1 1 a y G')
theorem hs_B.T {v x w y : Int32} {b : Nat} {S : List Nat} {G G1 G2 : iv_G} (h : hs_B v x w y b G G1) (hm : iv_MdT S G1 G2) : hs_B v x w y b G G2 := ⟨fun q => (h.1 q).tr (iv_kq.T hm), fun q => by
  obtain ⟨a, h1, h2, h3⟩ := h.2 q
  exact ⟨a, h1, h2.tr (iv_kq.T hm), h3.T hm (by decide)⟩⟩
def hs_S (v x w y : Int32) (b : Nat) (G G' : iv_G) : Prop := (¬ v = 0 → x.toInt = 0 → iv_kq (fun c j a => c = 5 ∧ j = 3 ∧ a = b) G G' ∧ iv_kc 5 3 b y G') ∧ (¬ v = 0 → x.toInt = 5 → ∃ a, iv_bA b w.toInt.toNat a G ∧ iv_kq (fun c j a' => c = 1 ∧ j = 1 ∧ a' = a) G G' ∧ iv_kc 1 1 a y G') ∧ ((v = 0 ∨ (x.toInt ≠ 0 ∧ x.toInt ≠ 5)) → iv_kq iv_no G G')
theorem hs_A.S {v x w y : Int32} {b : Nat} {G G' : iv_G} (h : hs_A v x y b G G') (hx : x.toInt < 3) : hs_S v x w y b G G' := ⟨fun a c => h.2 ⟨a, c⟩, fun _ c => absurd c (by omega), fun q => h.1 (fun u => by
  rcases q with q | q
  · exact u.1 q
  · exact q.1 u.2)⟩
theorem hs_B.S {v x w y : Int32} {b : Nat} {G G' : iv_G} (h : hs_B v x w y b G G') (hx : 3 ≤ x.toInt) : hs_S v x w y b G G' := ⟨fun _ c => absurd c (by omega), fun a c => h.2 ⟨a, c⟩, fun q => h.1 (fun u => by
  rcases q with q | q
  · exact u.1 q
  · exact q.2 u.2)⟩
def hs_W (v x w y : Int32) (h b : Nat) (G G' : iv_G) : Prop := (¬ v = 0 → x.toInt = 0 → iv_kq (fun c j a => c = 60 ∧ j = 147 ∧ a = b) G G' ∧ iv_kc 60 147 b y G') ∧ (¬ v = 0 → x.toInt = 5 → iv_kq (fun c j a => c = 60 ∧ j = 67 + 8 * w.toInt.toNat ∧ a = b) G G' ∧ iv_kc 60 (67 + 8 * w.toInt.toNat) b y G') ∧ ((v = 0 ∨ (x.toInt ≠ 0 ∧ x.toInt ≠ 5)) → iv_kq iv_no G G') ∧ (¬ v = 0 → iv_kc 12 3 h 0 G')
/-- a bell that can be; what bell() did -/
def lb_ok (a b c d x : Int32) : Prop := iv_R 0 3 a ∧ iv_R 0 47 b ∧ iv_R 1 99 c ∧ iv_R 0 99 d ∧ x.toInt ≤ 9
def lq_C (q : Nat) (x0 x1 x2 x3 v : Int32) (G G' : iv_G) : Prop := ∀ n, iv_kc 5 1 q n G → (lb_ok x0 x1 x2 x3 n → v = n ∧ ∃ (a : Nat) (y : Int32), iv_bA q n.toInt.toNat a G ∧ y.toInt = n.toInt + 1 ∧ iv_kq (fun c j a' => (c = 5 ∧ j = 1 ∧ a' = q) ∨ (c = 1 ∧ j = 1 ∧ a' = a)) G G' ∧ iv_kc 5 1 q y G' ∧ iv_kc 1 1 a x1 G') ∧ (¬ lb_ok x0 x1 x2 x3 n → v = -1 ∧ iv_kq iv_no G G')
def lq_W (h q : Nat) (x0 x1 x2 x3 v : Int32) (G G' : iv_G) : Prop := ∀ n, iv_kc 60 146 q n G → (lb_ok x0 x1 x2 x3 n → v = n ∧ ∃ y : Int32, y.toInt = n.toInt + 1 ∧ iv_kq (fun c j a => c = 60 ∧ a = q ∧ (j = 146 ∨ j = 67 + 8 * n.toInt.toNat)) G G' ∧ iv_kc 60 146 q y G' ∧ iv_kc 60 (67 + 8 * n.toInt.toNat) q x1 G' ∧ iv_kc 12 3 h 0 G') ∧ (¬ lb_ok x0 x1 x2 x3 n → v = -1 ∧ iv_kq iv_no G G')
theorem lq_C.no {q : Nat} {x0 x1 x2 x3 : Int32} {G G' : iv_G} (e : G = G') (h : ∀ x, iv_kc 5 1 q x G → ¬ lb_ok x0 x1 x2 x3 x) : lq_C q x0 x1 x2 x3 (-1) G G' := fun n hn => ⟨fun k => absurd k (h n hn), fun _ => ⟨rfl, e ▸ iv_kq.rf⟩⟩
theorem lq_W.no {h' q : Nat} {x0 x1 x2 x3 : Int32} {G G' : iv_G} (e : G = G') (h : ∀ x, iv_kc 60 146 q x G → ¬ lb_ok x0 x1 x2 x3 x) : lq_W h' q x0 x1 x2 x3 (-1) G G' := fun n hn => ⟨fun k => absurd k (h n hn), fun _ => ⟨rfl, e ▸ iv_kq.rf⟩⟩
