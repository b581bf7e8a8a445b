def iv_relT (k k' : iv_K) : Prop := (∀ j, (k.1 = 5 → j ≠ 13 ∧ j ≠ 14) → k'.2.2 j = k.2.2 j) ∧ True
theorem iv_relT.rf (k : iv_K) : iv_relT k k := ⟨fun _ _ => rfl, trivial⟩
abbrev iv_MdT (S : List Nat) (G G' : iv_G) : Prop := iv_mod iv_relT S G G'
theorem iv_MdT.rf {S : List Nat} {G : iv_G} : iv_MdT S G G := iv_mod.rf iv_relT.rf
theorem iv_MdT.stp {S S2 : List Nat} {G G1 G2 : iv_G} (h1 : iv_MdT S G G1) (h2 : iv_MdT S2 G1 G2) (s2 : ∀ x, x ∈ S2 → x ∈ S) : iv_MdT S G G2 := iv_mod.tr (fun a b c e h1 h2 => ⟨fun j hj => (h2.1 j (by rw [e]; exact hj)).trans (h1.1 j hj), trivial⟩) h1 h2 (fun _ h => h) s2
theorem iv_MdT.put {G : iv_G} {a cd : Nat} {g : Nat → Int32} {r : Nat → Nat} {j : Nat} {x : Int32} (ha : G a = some (cd, g, r)) : iv_MdT [cd] G (iv_up G a (cd, upd g j x, r)) := iv_mod.up iv_relT.rf ha rfl List.mem_cons_self ⟨fun _ _ => rfl, trivial⟩
theorem iv_MdT.of {S : List Nat} {G G' : iv_G} (h : iv_Md S G G') : iv_MdT S G G' := fun a k hk => by
  obtain ⟨k', h1, h2, h3, h4⟩ := h a k hk
  exact ⟨k', h1, h2, h3, h4.1, trivial⟩
