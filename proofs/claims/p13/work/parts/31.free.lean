/-- the free relation: what K names is kept, and where things stand -/
def iv_relK (K : Nat → List Nat) (k k' : iv_K) : Prop := (∀ j, (k.1 = 5 → j ≠ 13 ∧ j ≠ 14) → k'.2.2 j = k.2.2 j) ∧ ∀ j, j ∈ K k.1 → k'.2.1 j = k.2.1 j
theorem iv_relK.rf {K : Nat → List Nat} (k : iv_K) : iv_relK K k k := ⟨fun _ _ => rfl, fun _ _ => rfl⟩
abbrev iv_MdK (K : Nat → List Nat) (S : List Nat) (G G' : iv_G) : Prop := iv_mod (iv_relK K) S G G'
theorem iv_MdK.rf {K : Nat → List Nat} {S : List Nat} {G : iv_G} : iv_MdK K S G G := iv_mod.rf iv_relK.rf
theorem iv_MdK.stp {K : Nat → List Nat} {S S2 : List Nat} {G G1 G2 : iv_G} (h1 : iv_MdK K S G G1) (h2 : iv_MdK K S2 G1 G2) (s2 : ∀ x, x ∈ S2 → x ∈ S) : iv_MdK K S G G2 := iv_mod.tr (fun a b c e h1 h2 => ⟨fun j hj => (h2.1 j (by rw [e]; exact hj)).trans (h1.1 j hj), fun j hj => (h2.2 j (by rw [e]; exact hj)).trans (h1.2 j hj)⟩) h1 h2 (fun _ h => h) s2
theorem iv_MdK.put {K : Nat → List Nat} {G : iv_G} {a cd : Nat} {g : Nat → Int32} {r : Nat → Nat} {j : Nat} {x : Int32} (ha : G a = some (cd, g, r)) (hj : j ∉ K cd) : iv_MdK K [cd] G (iv_up G a (cd, upd g j x, r)) := iv_mod.up iv_relK.rf ha rfl List.mem_cons_self ⟨fun _ _ => rfl, fun i hi => by show upd g j x i = g i; exact if_neg (fun (e : i = j) => hj (e ▸ hi))⟩
theorem iv_MdK.wk {K K' : Nat → List Nat} (hs : ∀ c j, j ∈ K' c → j ∈ K c) {S : List Nat} {G G' : iv_G} (h : iv_MdK K S G G') : iv_MdK K' S G G' := fun a k hk => by
  obtain ⟨k', h1, h2, h3, h4⟩ := h a k hk
  exact ⟨k', h1, h2, h3, h4.1, fun j hj => h4.2 j (hs _ j hj)⟩
theorem iv_MdK.of {K : Nat → List Nat} (hs : ∀ c j, j ∈ K c → j ∈ iv_stab c) {S : List Nat} {G G' : iv_G} (h : iv_Md S G G') : iv_MdK K S G G' := fun a k hk => by
  obtain ⟨k', h1, h2, h3, h4⟩ := h a k hk
  exact ⟨k', h1, h2, h3, h4.1, fun j hj => h4.2.1 j (hs _ j hj)⟩
def iv_keys (c : Nat) : List Nat := if c = 11 then [2] else if c = 12 then [4, 22, 24] else if c = 5 then [1] else if c = 60 then [146] else []
def iv_keysX (c : Nat) : List Nat := if c = 11 then [2] else if c = 12 then [4] else if c = 5 then [1] else if c = 60 then [146] else []
def iv_keysF (c : Nat) : List Nat := if c = 11 then [2] else if c = 12 then [4, 22, 24] else []
def iv_keysO (c : Nat) : List Nat := if c = 12 then [22, 24] else []
theorem iv_keys_in {f : Nat → List Nat} (h11 : ∀ j ∈ iv_keys 11, j ∈ f 11) (h12 : ∀ j ∈ iv_keys 12, j ∈ f 12) (h5 : ∀ j ∈ iv_keys 5, j ∈ f 5) (h60 : ∀ j ∈ iv_keys 60, j ∈ f 60) : ∀ c j, j ∈ iv_keys c → j ∈ f c := by
  intro c j h
  by_cases e1 : c = 11
  · subst e1; exact h11 j h
  by_cases e2 : c = 12
  · subst e2; exact h12 j h
  by_cases e3 : c = 5
  · subst e3; exact h5 j h
  by_cases e4 : c = 60
  · subst e4; exact h60 j h
  unfold iv_keys at h
  rw [if_neg e1, if_neg e2, if_neg e3, if_neg e4] at h
  exact absurd h List.not_mem_nil
theorem iv_keys_stab : ∀ c j, j ∈ iv_keys c → j ∈ iv_stab c := iv_keys_in (by decide) (by decide) (by decide) (by decide)
theorem iv_keysX_keys : ∀ c j, j ∈ iv_keysX c → j ∈ iv_keys c := by
  intro c j h
  unfold iv_keysX at h
  by_cases e1 : c = 11
  · subst e1; rw [if_pos rfl] at h; have e := List.mem_singleton.mp h; subst e; decide
  rw [if_neg e1] at h
  by_cases e2 : c = 12
  · subst e2; rw [if_pos rfl] at h; have e := List.mem_singleton.mp h; subst e; decide
  rw [if_neg e2] at h
  by_cases e3 : c = 5
  · subst e3; rw [if_pos rfl] at h; have e := List.mem_singleton.mp h; subst e; decide
  rw [if_neg e3] at h
  by_cases e4 : c = 60
  · subst e4; rw [if_pos rfl] at h; have e := List.mem_singleton.mp h; subst e; decide
  rw [if_neg e4] at h
  exact absurd h List.not_mem_nil
theorem iv_keysF_keys : ∀ c j, j ∈ iv_keysF c → j ∈ iv_keys c := by
  intro c j h
  by_cases e1 : c = 11
  · subst e1; exact h
  by_cases e2 : c = 12
  · subst e2; exact h
  unfold iv_keysF at h
  rw [if_neg e1, if_neg e2] at h
  exact absurd h List.not_mem_nil
theorem iv_keysO_keys : ∀ c j, j ∈ iv_keysO c → j ∈ iv_keys c := by
  intro c j h
  by_cases e2 : c = 12
  · subst e2; exact List.mem_cons_of_mem 4 h
  unfold iv_keysO at h
  rw [if_neg e2] at h
  exact absurd h List.not_mem_nil
theorem iv_keys_ne7 : ∀ c j, j ∈ iv_keys c → c ≠ 7 := fun c j h e => by
  subst e
  exact absurd (show j ∈ ([] : List Nat) from h) List.not_mem_nil
abbrev iv_MdT (S : List Nat) (G G' : iv_G) : Prop := iv_MdK iv_keys S G G'
theorem iv_MdT.rf {S : List Nat} {G : iv_G} : iv_MdT S G G := iv_MdK.rf
theorem iv_MdT.stp {S S2 : List Nat} {G G1 G2 : iv_G} (h1 : iv_MdT S G G1) (h2 : iv_MdT S2 G1 G2) (s2 : ∀ x, x ∈ S2 → x ∈ S) : iv_MdT S G G2 := iv_MdK.stp h1 h2 s2
theorem iv_MdT.put {G : iv_G} {a cd : Nat} {g : Nat → Int32} {r : Nat → Nat} {j : Nat} {x : Int32} (ha : G a = some (cd, g, r)) (hj : j ∉ iv_keys cd) : iv_MdT [cd] G (iv_up G a (cd, upd g j x, r)) := iv_MdK.put ha hj
theorem iv_MdT.of {S : List Nat} {G G' : iv_G} (h : iv_Md S G G') : iv_MdT S G G' := iv_MdK.of iv_keys_stab h
abbrev iv_MdF (S : List Nat) (G G' : iv_G) : Prop := iv_MdK iv_keysF S G G'
theorem iv_MdF.stp {S S2 : List Nat} {G G1 G2 : iv_G} (h1 : iv_MdF S G G1) (h2 : iv_MdF S2 G1 G2) (s2 : ∀ x, x ∈ S2 → x ∈ S) : iv_MdF S G G2 := iv_MdK.stp h1 h2 s2
theorem iv_MdF.put {G : iv_G} {a cd : Nat} {g : Nat → Int32} {r : Nat → Nat} {j : Nat} {x : Int32} (ha : G a = some (cd, g, r)) (hj : j ∉ iv_keysF cd) : iv_MdF [cd] G (iv_up G a (cd, upd g j x, r)) := iv_MdK.put ha hj
theorem iv_MdF.of {S : List Nat} {G G' : iv_G} (h : iv_MdT S G G') : iv_MdF S G G' := iv_MdK.wk iv_keysF_keys h
theorem iv_MdF.ofM {S : List Nat} {G G' : iv_G} (h : iv_Md S G G') : iv_MdF S G G' := iv_MdF.of (iv_MdT.of h)
abbrev iv_MdO (S : List Nat) (G G' : iv_G) : Prop := iv_MdK iv_keysO S G G'
theorem iv_MdO.rf {S : List Nat} {G : iv_G} : iv_MdO S G G := iv_MdK.rf
theorem iv_MdO.stp {S S2 : List Nat} {G G1 G2 : iv_G} (h1 : iv_MdO S G G1) (h2 : iv_MdO S2 G1 G2) (s2 : ∀ x, x ∈ S2 → x ∈ S) : iv_MdO S G G2 := iv_MdK.stp h1 h2 s2
theorem iv_MdO.put {G : iv_G} {a cd : Nat} {g : Nat → Int32} {r : Nat → Nat} {j : Nat} {x : Int32} (ha : G a = some (cd, g, r)) (hj : j ∉ iv_keysO cd := by first | exact List.not_mem_nil | decide) : iv_MdO [cd] G (iv_up G a (cd, upd g j x, r)) := iv_MdK.put ha hj
theorem iv_MdO.of {S : List Nat} {G G' : iv_G} (h : iv_MdT S G G') : iv_MdO S G G' := iv_MdK.wk iv_keysO_keys h
abbrev iv_MdX (S : List Nat) (G G' : iv_G) : Prop := iv_MdK iv_keysX S G G'
theorem iv_MdX.rf {S : List Nat} {G : iv_G} : iv_MdX S G G := iv_MdK.rf
theorem iv_MdX.stp {S S2 : List Nat} {G G1 G2 : iv_G} (h1 : iv_MdX S G G1) (h2 : iv_MdX S2 G1 G2) (s2 : ∀ x, x ∈ S2 → x ∈ S) : iv_MdX S G G2 := iv_MdK.stp h1 h2 s2
theorem iv_MdX.put {G : iv_G} {a cd : Nat} {g : Nat → Int32} {r : Nat → Nat} {j : Nat} {x : Int32} (ha : G a = some (cd, g, r)) (hj : j ∉ iv_keysX cd) : iv_MdX [cd] G (iv_up G a (cd, upd g j x, r)) := iv_MdK.put ha hj
theorem iv_MdX.of {S : List Nat} {G G' : iv_G} (h : iv_MdT S G G') : iv_MdX S G G' := iv_MdK.wk iv_keysX_keys h
theorem iv_MdX.ofM {S : List Nat} {G G' : iv_G} (h : iv_Md S G G') : iv_MdX S G G' := iv_MdX.of (iv_MdT.of h)
theorem iv_MdO.ofM {S : List Nat} {G G' : iv_G} (h : iv_Md S G G') : iv_MdO S G G' := iv_MdO.of (iv_MdT.of h)
/-- a number of a store's object -/
def iv_kc (c j b : Nat) (x : Int32) (G : iv_G) : Prop := ∃ (g : Nat → Int32) (r : Nat → Nat), G b = some (c, g, r) ∧ g j = x
theorem iv_kc.T {c j b : Nat} {x : Int32} {S : List Nat} {G G' : iv_G} (h : iv_kc c j b x G) (hm : iv_MdT S G G') (hk : j ∈ iv_keys c) : iv_kc c j b x G' := by
  obtain ⟨g, r, ha, e⟩ := h
  obtain ⟨g', r', ha', rel⟩ := hm.ex ha
  exact ⟨g', r', ha', (rel.2 j hk).trans e⟩
theorem iv_kc.O {c j b : Nat} {x : Int32} {K : Nat → List Nat} {S : List Nat} {G G' : iv_G} (h : iv_kc c j b x G) (hm : iv_MdK K S G G') (hk : c ∉ S) : iv_kc c j b x G' := by
  obtain ⟨g, r, ha, e⟩ := h
  exact ⟨g, r, hm.at ha hk, e⟩
theorem iv_kc.val {c j b : Nat} {x : Int32} {G : iv_G} {g : Nat → Int32} {r : Nat → Nat} (h : iv_kc c j b x G) (ha : G b = some (c, g, r)) : g j = x := by
  obtain ⟨g', r', hb, e⟩ := h
  have q := ha.symm.trans hb
  cases q
  exact e
theorem iv_kc.up {c j b : Nat} {x : Int32} {g : Nat → Int32} {r : Nat → Nat} {G : iv_G} : iv_kc c j b x (iv_up G b (c, upd g j x, r)) := ⟨_, _, iv_up_eq, if_pos rfl⟩
def iv_kp (c j b : Nat) (G G' : iv_G) : Prop := ∀ (a : Nat) (x : Int32), a ≠ b → iv_kc c j a x G → iv_kc c j a x G'
theorem iv_kp.T {c j b : Nat} {S : List Nat} {G G' : iv_G} (hm : iv_MdT S G G') (hk : j ∈ iv_keys c) : iv_kp c j b G G' := fun _ _ _ h => h.T hm hk
theorem iv_kp.O {c j b : Nat} {K : Nat → List Nat} {S : List Nat} {G G' : iv_G} (hm : iv_MdK K S G G') (hk : c ∉ S) : iv_kp c j b G G' := fun _ _ _ h => h.O hm hk
theorem iv_kp.tr {c j b : Nat} {G G1 G2 : iv_G} (h1 : iv_kp c j b G G1) (h2 : iv_kp c j b G1 G2) : iv_kp c j b G G2 := fun a x n h => h2 a x n (h1 a x n h)
theorem iv_kp.up {c j b : Nat} {k : iv_K} {G : iv_G} : iv_kp c j b G (iv_up G b k) := fun a x n h => by
  obtain ⟨g, r, ha, e⟩ := h
  exact ⟨g, r, (iv_up_ne n).trans ha, e⟩
/-- a bell that can be -/
def lb_ok (a b c d x : Int32) : Prop := iv_R 0 3 a ∧ iv_R 0 47 b ∧ iv_R 1 99 c ∧ iv_R 0 99 d ∧ x.toInt ≤ 9
def lb_P (c j b : Nat) (x0 x1 x2 x3 v : Int32) (G G' : iv_G) : Prop := iv_kp c j b G G' ∧ ∀ x, iv_kc c j b x G → (lb_ok x0 x1 x2 x3 x → v = x ∧ ∃ y : Int32, y.toInt = x.toInt + 1 ∧ iv_kc c j b y G') ∧ (¬ lb_ok x0 x1 x2 x3 x → v = -1 ∧ iv_kc c j b x G')
theorem lb_no {c j b : Nat} {x0 x1 x2 x3 : Int32} {G : iv_G} (h : ∀ x, iv_kc c j b x G → ¬ lb_ok x0 x1 x2 x3 x) : lb_P c j b x0 x1 x2 x3 (-1) G G := ⟨fun _ _ _ h => h, fun x hx => ⟨fun h9 => absurd h9 (h x hx), fun _ => ⟨rfl, hx⟩⟩⟩
theorem lb_yes {c j b : Nat} {x0 x1 x2 x3 v y : Int32} {g : Nat → Int32} {r : Nat → Nat} {G G' : iv_G} (hc : G b = some (c, g, r)) (hok : lb_ok x0 x1 x2 x3 (g j)) (hp : iv_kp c j b G G') (hC : iv_kc c j b y G') (hy : y.toInt = (g j).toInt + 1) (hv : v = g j) : lb_P c j b x0 x1 x2 x3 v G G' := ⟨hp, fun x hx => by
  have e := hx.val hc
  subst e
  exact ⟨fun _ => ⟨hv, y, hy, hC⟩, fun h9 => absurd hok h9⟩⟩
/-- the numbers of bells behind an image's call -/
def li_P (c j : Nat) (r : Nat → Nat) (x v : Int32) (G G' : iv_G) : Prop := r 0 ≠ r 1 → ∀ n p : Int32, iv_kc c j (r 0) n G → iv_kc c j (r 1) p G → (¬ x = 0 → iv_kc c j (r 0) n G' ∧ iv_kc c j (r 1) n G') ∧ (x = 0 → v = 0 → iv_kc c j (r 0) n G' ∧ iv_kc c j (r 1) p G') ∧ (x = 0 → ¬ v = 0 → iv_kc c j (r 0) p G' ∧ iv_kc c j (r 1) p G')
theorem li_take {c j : Nat} {r : Nat → Nat} {x v : Int32} {G G' : iv_G} (hx : ¬ x = 0) (h : r 0 ≠ r 1 → ∀ n, iv_kc c j (r 0) n G → iv_kc c j (r 0) n G' ∧ iv_kc c j (r 1) n G') : li_P c j r x v G G' := fun hne n _ hn _ => ⟨fun _ => h hne n hn, fun q => absurd q hx, fun q => absurd q hx⟩
theorem li_none {c j : Nat} {r : Nat → Nat} {x : Int32} {G : iv_G} (hx : x = 0) : li_P c j r x 0 G G := fun _ _ _ hn hp => ⟨fun q => absurd hx q, fun _ _ => ⟨hn, hp⟩, fun _ q => absurd rfl q⟩
theorem li_back {c j : Nat} {r : Nat → Nat} {x v : Int32} {G G' : iv_G} (hx : x = 0) (hv : ¬ v = 0) (h : r 0 ≠ r 1 → ∀ p, iv_kc c j (r 1) p G → iv_kc c j (r 0) p G' ∧ iv_kc c j (r 1) p G') : li_P c j r x v G G' := fun hne _ p _ hp => ⟨fun q => absurd hx q, fun _ q => absurd q hv, fun _ _ => h hne p hp⟩
