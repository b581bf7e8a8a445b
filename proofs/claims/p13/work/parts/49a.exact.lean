/-- an answer of 0 or 1 that says P -/
theorem lx_eq {v w : Int32} {P : Prop} (h1 : iv_R 0 1 v) (h2 : iv_R 0 1 w) (a : ¬ v = 0 ↔ P) (b : ¬ w = 0 ↔ P) : v = w := by
  by_cases hp : P
  · have q1 : ¬ v.toInt = 0 := fun q => (a.mpr hp) (Int32.toInt_inj.mp q)
    have q2 : ¬ w.toInt = 0 := fun q => (b.mpr hp) (Int32.toInt_inj.mp q)
    have a1 := h1.1; have a2 := h1.2; have b1 := h2.1; have b2 := h2.2
    exact Int32.toInt_inj.mp (by omega)
  · have q1 : v = 0 := Classical.byContradiction (fun q => hp (a.mp q))
    have q2 : w = 0 := Classical.byContradiction (fun q => hp (b.mp q))
    rw [q1, q2]
