/-! the codes of the typed store -/
def ts_0 : iv_K → Nat → iv_T := fun _ j => match j with
  | 0 => .inr 5
  | _ => .inr 2
def ts_1 : iv_K → Nat → iv_T := fun _ j => match j with
  | 0 => .inl ((-2147483648), 2147483647)
  | 1 => .inl ((-2147483648), 2147483647)
  | 2 => .inl ((-2147483648), 2147483647)
  | 3 => .inl ((-2147483648), 2147483647)
  | 4 => .inl ((-2147483648), 2147483647)
  | 5 => .inl ((-2147483648), 2147483647)
  | 6 => .inl ((-2147483648), 2147483647)
  | _ => .inl ((-2147483648), 2147483647)
def ts_2 : iv_K → Nat → iv_T := fun _ j => match j with
  | 0 => .inr 5
  | _ => .inr 30
def ts_4 : iv_K → Nat → iv_T := fun _ j => match j with
  | 0 => .inr 5
  | 1 => .inr 31
  | 2 => .inr 32
  | 3 => .inl (0, 8)
  | _ => .inr 33
def ts_5 : iv_K → Nat → iv_T := fun _ j => match j with
  | 0 => .inr 40
  | 1 => .inl (0, 10)
  | 2 => .inr 20
  | 3 => .inl ((-2147483648), 2147483647)
  | 4 => .inl ((-2147483648), 2147483647)
  | 5 => .inl ((-2147483648), 2147483647)
  | 6 => .inl ((-2147483648), 2147483647)
  | 7 => .inl ((-2147483648), 2147483647)
  | 8 => .inr 8
  | 9 => .inr 13
  | 10 => .inr 14
  | 11 => .inr 21
  | 12 => .inl ((-2147483648), 2147483647)
  | 13 => .inr 3
  | _ => .inr 3
def ts_6 : iv_K → Nat → iv_T := fun _ j => match j with
  | 0 => .inr 41
  | 1 => .inl (0, 5)
  | _ => .inl ((-2147483648), 2147483647)
def ts_7 : iv_K → Nat → iv_T := fun _ j => match j with
  | 0 => .inr 10
  | 1 => .inl ((-1), 400)
  | 2 => .inl ((-2147483648), 2147483647)
  | 3 => .inl ((-2147483648), 2147483647)
  | 4 => .inl (0, 1)
  | 5 => .inl (0, 400)
  | 6 => .inl ((-2147483648), 2147483647)
  | 7 => .inl ((-2147483648), 2147483647)
  | 8 => .inl (0, 20)
  | 9 => .inr 21
  | 10 => .inr 34
  | 11 => .inr 35
  | 12 => .inr 36
  | 13 => .inr 37
  | _ => .inr 38
def ts_8 : iv_K → Nat → iv_T := fun _ j => match j with
  | 0 => .inl (3, 3)
  | 1 => .inr 22
  | _ => .inl (0, 20)
def ts_9 : iv_K → Nat → iv_T := fun _ j => match j with
  | 0 => .inr 5
  | _ => .inr 39
def ts_10 : iv_K → Nat → iv_T := fun _ j => match j with
  | 0 => .inr 42
  | 1 => .inr 43
  | _ => .inr 44
def ts_11 : iv_K → Nat → iv_T := fun _ j => match j with
  | 0 => .inr 5
  | 1 => .inr 5
  | 2 => .inl (0, 1)
  | 3 => .inr 6
  | 4 => .inr 45
  | 5 => .inl (0, 400)
  | 6 => .inr 7
  | 7 => .inr 2
  | 8 => .inr 0
  | 9 => .inr 9
  | 10 => .inr 4
  | _ => .inr 46
def ts_12 : iv_K → Nat → iv_T := fun _ j => match j with
  | 0 => .inr 60
  | 1 => .inr 60
  | 2 => .inr 62
  | 3 => .inl (0, 6)
  | 4 => .inl (0, 1)
  | 5 => .inr 63
  | 6 => .inr 64
  | 7 => .inr 65
  | 8 => .inr 66
  | 9 => .inr 67
  | 10 => .inr 68
  | 11 => .inl ((-2147483648), 2147483647)
  | 12 => .inl (0, 16)
  | 13 => .inl (0, 410)
  | 14 => .inl (0, 20)
  | 15 => .inl (0, 400)
  | 16 => .inl (0, 400)
  | 17 => .inl ((-2147483648), 2147483647)
  | 18 => .inl (0, 400)
  | 19 => .inl ((-2147483648), 2147483647)
  | 20 => .inl ((-2147483648), 2147483647)
  | 21 => .inl ((-2147483648), 2147483647)
  | 22 => .inl ((-2147483648), 2147483647)
  | 23 => .inl ((-2147483648), 2147483647)
  | 24 => .inl ((-2147483648), 2147483647)
  | 25 => .inl ((-2147483648), 2147483647)
  | 26 => .inr 69
  | 27 => .inr 70
  | 28 => .inr 71
  | 29 => .inr 72
  | 30 => .inr 73
  | _ => .inl (0, 8)
def ts_13 : iv_K → Nat → iv_T := fun _ j => match j with
  | 0 => .inl (4, 4)
  | 1 => .inr 23
  | _ => .inl (0, 120)
def ts_14 : iv_K → Nat → iv_T := fun _ j => match j with
  | 0 => .inl (3, 3)
  | 1 => .inr 24
  | _ => .inl (0, 12)
/-- a law: how many lines (its own number), how many signs (its ghost 11); its arrays' codes tell their lengths -/
def iv_lc (role n u : Nat) : Nat := 10000 + (role * 64 + n) * 1024 + u
def ts_3 : iv_K → Nat → iv_T := fun k j => match j with
  | 0 => .inl (((k.2.2 10 % 64 : Nat) : Int), ((k.2.2 10 % 64 : Nat) : Int))
  | 1 => .inr (iv_lc 0 (k.2.2 10 % 64) (k.2.2 11 % 1024))
  | 2 => .inr (iv_lc 1 (k.2.2 10 % 64) (k.2.2 11 % 1024))
  | 3 => .inr (iv_lc 2 (k.2.2 10 % 64) (k.2.2 11 % 1024))
  | 4 => .inr (iv_lc 3 (k.2.2 10 % 64) (k.2.2 11 % 1024))
  | 5 => .inr (iv_lc 4 (k.2.2 10 % 64) (k.2.2 11 % 1024))
  | _ => .inr 28
def iv_lsh (role n u : Nat) : iv_Sh := match role with
  | 0 => .inr (.inl (n, iv_E (-2147483648) 2147483647 n))
  | 1 => .inr (.inl (n + 1, iv_E 0 (u : Int) (n + 1)))
  | 2 => .inr (.inl (n, iv_E 0 (u : Int) n))
  | 3 => .inr (.inl (u, iv_E 0 148 u))
  | _ => .inr (.inl (u, iv_E (-2147483648) 2147483647 u))
/-- the arrays of the reference that are more than numbers in bounds: filled in by their own part -/
def iv_wb (i : Nat) : Int × Int := if i = 3 then (0, 120) else if i = 4 then (0, 20) else if 66 ≤ i ∧ i < 146 ∧ i % 8 = 2 then (0, 3) else if 66 ≤ i ∧ i < 146 ∧ i % 8 = 3 then (0, 47) else if i = 146 then (0, 10) else if i = 149 then (0, 20) else if i = 150 then (0, 16) else if i = 151 then (0, 16) else if i = 152 then (0, 12) else (-2147483648, 2147483647)
/-- n signs of a law from place b on can be worked off over a pile of t numbers; o: where the signs stand -/
def iv_sg (g : Nat → Int32) (o : Nat) : Nat → Nat → Nat → Prop
  | 0, _, _ => True
  | n + 1, b, t => (0 ≤ (g (o + 2 * b)).toInt ∧ (g (o + 2 * b)).toInt < 12 ∧ iv_sg g o n (b + 1) (t + 1)) ∨ ((g (o + 2 * b)).toInt = 26 ∧ 1 ≤ t ∧ ¬ g (o + 2 * b + 1) = 0 ∧ iv_sg g o n (b + 1) t) ∨ ((g (o + 2 * b)).toInt = 30 ∧ 1 ≤ t ∧ iv_sg g o n (b + 1) t) ∨ (23 ≤ (g (o + 2 * b)).toInt ∧ (g (o + 2 * b)).toInt ≤ 32 ∧ (g (o + 2 * b)).toInt ≠ 26 ∧ (g (o + 2 * b)).toInt ≠ 30 ∧ 2 ≤ t ∧ iv_sg g o n (b + 1) (t - 1))
/-- a law of the reference: its lines' places, and signs that can be worked off -/
def iv_lw (g : Nat → Int32) (k : Nat) : Prop := ∀ i : Nat, (i : Int) < (g (150 + k)).toInt → ∃ b m e : Nat, g (746 + 16 * k + i) = nI b ∧ g (778 + 16 * k + i) = nI m ∧ g (810 + 16 * k + i) = nI e ∧ b ≤ m ∧ m ≤ e ∧ e ≤ 410 ∧ iv_sg g (874 + 820 * k) (m - b) b 0 ∧ iv_sg g (874 + 820 * k) (e - m) m 0
def iv_wP : (Nat → Int32) → Prop := fun g => (∀ i, i < 746 → iv_R (iv_wb i).1 (iv_wb i).2 (g i)) ∧ iv_lw g 0 ∧ iv_lw g 1
def iv_kP : (Nat → Int32) → Prop := fun g => ∀ i, i < 876 → iv_R (iv_wb (i % 146)).1 (iv_wb (i % 146)).2 (g i)
def iv_sh : Nat → iv_Sh := fun c => match c with
  | 0 => .inl (0, ts_0)
  | 1 => .inl (1, ts_1)
  | 2 => .inl (2, ts_2)
  | 3 => .inl (3, ts_3)
  | 4 => .inl (4, ts_4)
  | 5 => .inl (5, ts_5)
  | 6 => .inl (6, ts_6)
  | 7 => .inl (7, ts_7)
  | 8 => .inl (8, ts_8)
  | 9 => .inl (9, ts_9)
  | 10 => .inl (10, ts_10)
  | 11 => .inl (11, ts_11)
  | 12 => .inl (12, ts_12)
  | 13 => .inl (8, ts_13)
  | 14 => .inl (8, ts_14)
  | 20 => .inr (.inl (16, iv_E (-2147483648) 2147483647 16))
  | 21 => .inr (.inl (10, iv_E (-2147483648) 2147483647 10))
  | 22 => .inr (.inl (60, iv_E (-2147483648) 2147483647 60))
  | 23 => .inr (.inl (480, iv_E (-2147483648) 2147483647 480))
  | 24 => .inr (.inl (36, iv_E (-2147483648) 2147483647 36))
  | 27 => .inr (.inl (65, iv_E (-2147483648) 2147483647 65))
  | 28 => .inr (.inl (40, iv_E (-2147483648) 2147483647 40))
  | 30 => .inr (.inl (11, iv_E (-2147483648) 2147483647 11))
  | 31 => .inr (.inl (10, iv_E (-2147483648) 2147483647 10))
  | 32 => .inr (.inl (8, iv_E 0 9 8))
  | 33 => .inr (.inl (2048, iv_E (-2147483648) 2147483647 2048))
  | 34 => .inr (.inl (16, iv_E (-2147483648) 2147483647 16))
  | 35 => .inr (.inl (17, iv_E 0 400 17))
  | 36 => .inr (.inl (16, iv_E 0 400 16))
  | 37 => .inr (.inl (400, iv_E 0 148 400))
  | 38 => .inr (.inl (400, iv_E (-2147483648) 2147483647 400))
  | 39 => .inr (.inl (20, iv_E (-2147483648) 2147483647 20))
  | 40 => .inr (.inr (1, 10, 1))
  | 41 => .inr (.inr (2, 6, 27))
  | 42 => .inr (.inl (401, iv_E (-2147483648) 2147483647 401))
  | 43 => .inr (.inl (401, iv_E (-2147483648) 2147483647 401))
  | 44 => .inr (.inl (401, iv_E (-2147483648) 2147483647 401))
  | 45 => .inr (.inl (400, iv_E (-2147483648) 2147483647 400))
  | 46 => .inr (.inl (10, iv_E (-2147483648) 2147483647 10))
  | 60 => .inr (.inl (2514, iv_wP))
  | 62 => .inr (.inl (876, iv_kP))
  | 63 => .inr (.inl (64, iv_E (-2147483648) 2147483647 64))
  | 64 => .inr (.inl (820, iv_E (-2147483648) 2147483647 820))
  | 65 => .inr (.inl (60, iv_E (-2147483648) 2147483647 60))
  | 66 => .inr (.inl (400, iv_E 0 255 400))
  | 67 => .inr (.inl (420, iv_E (-2147483648) 2147483647 420))
  | 68 => .inr (.inl (12, iv_E (-2147483648) 2147483647 12))
  | 69 => .inr (.inl (10, iv_E (-2147483648) 2147483647 10))
  | 70 => .inr (.inl (10, iv_E (-2147483648) 2147483647 10))
  | 71 => .inr (.inl (20, iv_E (-2147483648) 2147483647 20))
  | 72 => .inr (.inl (8, iv_E 0 9 8))
  | 73 => .inr (.inl (2304, iv_E (-2147483648) 2147483647 2304))
  | c => iv_lsh ((c - 10000) / 1024 / 64) ((c - 10000) / 1024 % 64) ((c - 10000) % 1024)
theorem sh_0 : iv_sh 0 = .inl (0, ts_0) := rfl
theorem sh_1 : iv_sh 1 = .inl (1, ts_1) := rfl
theorem sh_2 : iv_sh 2 = .inl (2, ts_2) := rfl
theorem sh_3 : iv_sh 3 = .inl (3, ts_3) := rfl
theorem sh_4 : iv_sh 4 = .inl (4, ts_4) := rfl
theorem sh_5 : iv_sh 5 = .inl (5, ts_5) := rfl
theorem sh_6 : iv_sh 6 = .inl (6, ts_6) := rfl
theorem sh_7 : iv_sh 7 = .inl (7, ts_7) := rfl
theorem sh_8 : iv_sh 8 = .inl (8, ts_8) := rfl
theorem sh_9 : iv_sh 9 = .inl (9, ts_9) := rfl
theorem sh_10 : iv_sh 10 = .inl (10, ts_10) := rfl
theorem sh_11 : iv_sh 11 = .inl (11, ts_11) := rfl
theorem sh_12 : iv_sh 12 = .inl (12, ts_12) := rfl
theorem sh_13 : iv_sh 13 = .inl (8, ts_13) := rfl
theorem sh_14 : iv_sh 14 = .inl (8, ts_14) := rfl
theorem sh_20 : iv_sh 20 = .inr (.inl (16, iv_E (-2147483648) 2147483647 16)) := rfl
theorem sh_21 : iv_sh 21 = .inr (.inl (10, iv_E (-2147483648) 2147483647 10)) := rfl
theorem sh_22 : iv_sh 22 = .inr (.inl (60, iv_E (-2147483648) 2147483647 60)) := rfl
theorem sh_23 : iv_sh 23 = .inr (.inl (480, iv_E (-2147483648) 2147483647 480)) := rfl
theorem sh_24 : iv_sh 24 = .inr (.inl (36, iv_E (-2147483648) 2147483647 36)) := rfl
theorem sh_27 : iv_sh 27 = .inr (.inl (65, iv_E (-2147483648) 2147483647 65)) := rfl
theorem sh_28 : iv_sh 28 = .inr (.inl (40, iv_E (-2147483648) 2147483647 40)) := rfl
theorem sh_30 : iv_sh 30 = .inr (.inl (11, iv_E (-2147483648) 2147483647 11)) := rfl
theorem sh_31 : iv_sh 31 = .inr (.inl (10, iv_E (-2147483648) 2147483647 10)) := rfl
theorem sh_32 : iv_sh 32 = .inr (.inl (8, iv_E 0 9 8)) := rfl
theorem sh_33 : iv_sh 33 = .inr (.inl (2048, iv_E (-2147483648) 2147483647 2048)) := rfl
theorem sh_34 : iv_sh 34 = .inr (.inl (16, iv_E (-2147483648) 2147483647 16)) := rfl
theorem sh_35 : iv_sh 35 = .inr (.inl (17, iv_E 0 400 17)) := rfl
theorem sh_36 : iv_sh 36 = .inr (.inl (16, iv_E 0 400 16)) := rfl
theorem sh_37 : iv_sh 37 = .inr (.inl (400, iv_E 0 148 400)) := rfl
theorem sh_38 : iv_sh 38 = .inr (.inl (400, iv_E (-2147483648) 2147483647 400)) := rfl
theorem sh_39 : iv_sh 39 = .inr (.inl (20, iv_E (-2147483648) 2147483647 20)) := rfl
theorem sh_40 : iv_sh 40 = .inr (.inr (1, 10, 1)) := rfl
theorem sh_41 : iv_sh 41 = .inr (.inr (2, 6, 27)) := rfl
theorem sh_42 : iv_sh 42 = .inr (.inl (401, iv_E (-2147483648) 2147483647 401)) := rfl
theorem sh_43 : iv_sh 43 = .inr (.inl (401, iv_E (-2147483648) 2147483647 401)) := rfl
theorem sh_44 : iv_sh 44 = .inr (.inl (401, iv_E (-2147483648) 2147483647 401)) := rfl
theorem sh_45 : iv_sh 45 = .inr (.inl (400, iv_E (-2147483648) 2147483647 400)) := rfl
theorem sh_46 : iv_sh 46 = .inr (.inl (10, iv_E (-2147483648) 2147483647 10)) := rfl
theorem sh_60 : iv_sh 60 = .inr (.inl (2514, iv_wP)) := rfl
theorem sh_62 : iv_sh 62 = .inr (.inl (876, iv_kP)) := rfl
theorem sh_63 : iv_sh 63 = .inr (.inl (64, iv_E (-2147483648) 2147483647 64)) := rfl
theorem sh_64 : iv_sh 64 = .inr (.inl (820, iv_E (-2147483648) 2147483647 820)) := rfl
theorem sh_65 : iv_sh 65 = .inr (.inl (60, iv_E (-2147483648) 2147483647 60)) := rfl
theorem sh_66 : iv_sh 66 = .inr (.inl (400, iv_E 0 255 400)) := rfl
theorem sh_67 : iv_sh 67 = .inr (.inl (420, iv_E (-2147483648) 2147483647 420)) := rfl
theorem sh_68 : iv_sh 68 = .inr (.inl (12, iv_E (-2147483648) 2147483647 12)) := rfl
theorem sh_69 : iv_sh 69 = .inr (.inl (10, iv_E (-2147483648) 2147483647 10)) := rfl
theorem sh_70 : iv_sh 70 = .inr (.inl (10, iv_E (-2147483648) 2147483647 10)) := rfl
theorem sh_71 : iv_sh 71 = .inr (.inl (20, iv_E (-2147483648) 2147483647 20)) := rfl
theorem sh_72 : iv_sh 72 = .inr (.inl (8, iv_E 0 9 8)) := rfl
theorem sh_73 : iv_sh 73 = .inr (.inl (2304, iv_E (-2147483648) 2147483647 2304)) := rfl
def iv_stab : Nat → List Nat := fun c => match c with
  | 5 => [1]
  | 11 => [2, 5]
  | 12 => [4, 12, 13, 14, 15, 22, 23, 24]
  | 60 => [146]
  | 7 => [4, 8]
  | _ => []
/-- the law's own array is not in bounds of numbers alone: w's number of bells stays, too -/
def iv_rel (k k' : iv_K) : Prop := (∀ j, (k.1 = 5 → j ≠ 13 ∧ j ≠ 14) → k'.2.2 j = k.2.2 j) ∧ (∀ j, j ∈ iv_stab k.1 → k'.2.1 j = k.2.1 j) ∧ (k.1 = 7 → (k.2.1 1).toInt ≤ (k'.2.1 1).toInt ∧ (k.2.1 5).toInt ≤ (k'.2.1 5).toInt)
theorem iv_rel.rf (k : iv_K) : iv_rel k k := ⟨fun _ _ => rfl, fun _ _ => rfl, fun _ => ⟨Int.le_refl _, Int.le_refl _⟩⟩
theorem iv_rel.tr (a b c : iv_K) (e : b.1 = a.1) (h1 : iv_rel a b) (h2 : iv_rel b c) : iv_rel a c := ⟨fun j hj => (h2.1 j (by rw [e]; exact hj)).trans (h1.1 j hj), fun j hj => (h2.2.1 j (by rw [e]; exact hj)).trans (h1.2.1 j hj), fun h => ⟨Int.le_trans (h1.2.2 h).1 (h2.2.2 (e.trans h)).1, Int.le_trans (h1.2.2 h).2 (h2.2.2 (e.trans h)).2⟩⟩
theorem iv_rel.put {cd : Nat} {g : Nat → Int32} {r : Nat → Nat} {j : Nat} {x : Int32} (h1 : j ∉ iv_stab cd) (h2 : cd = 7 → 1 ≠ j ∧ 5 ≠ j) : iv_rel (cd, g, r) (cd, upd g j x, r) := by
  refine ⟨fun _ _ => rfl, fun i hi => ?_, fun h => ?_⟩
  · show upd g j x i = g i
    have e : i ≠ j := fun e => h1 (e ▸ hi)
    simp [upd, e]
  · show (g 1).toInt ≤ (upd g j x 1).toInt ∧ (g 5).toInt ≤ (upd g j x 5).toInt
    simp [upd, (h2 h).1, (h2 h).2]
theorem iv_rel.putr {cd : Nat} {g : Nat → Int32} {r : Nat → Nat} {j b : Nat} (h1 : cd = 5 ∧ (j = 13 ∨ j = 14)) : iv_rel (cd, g, r) (cd, g, iv_ur r j b) := by
  refine ⟨fun i hi => ?_, fun _ _ => rfl, fun _ => ⟨Int.le_refl _, Int.le_refl _⟩⟩
  have h2 := hi h1.1
  show iv_ur r j b i = r i
  have e : i ≠ j := by rcases h1.2 with h | h <;> omega
  simp [iv_ur, e]
abbrev iv_Md (S : List Nat) (G G' : iv_G) : Prop := iv_mod iv_rel S G G'
theorem iv_Md.rf {S : List Nat} {G : iv_G} : iv_Md S G G := iv_mod.rf iv_rel.rf
theorem iv_Md.tr {S S1 S2 : List Nat} {G G1 G2 : iv_G} (h1 : iv_Md S1 G G1) (h2 : iv_Md S2 G1 G2) (s1 : ∀ x, x ∈ S1 → x ∈ S) (s2 : ∀ x, x ∈ S2 → x ∈ S) : iv_Md S G G2 := iv_mod.tr iv_rel.tr h1 h2 s1 s2
theorem iv_Md.stp {S S2 : List Nat} {G G1 G2 : iv_G} (h1 : iv_Md S G G1) (h2 : iv_Md S2 G1 G2) (s2 : ∀ x, x ∈ S2 → x ∈ S) : iv_Md S G G2 := iv_mod.tr iv_rel.tr h1 h2 (fun _ h => h) s2
theorem iv_Md.put {G : iv_G} {a cd : Nat} {g : Nat → Int32} {r : Nat → Nat} {j : Nat} {x : Int32} (ha : G a = some (cd, g, r)) (h1 : j ∉ iv_stab cd) (h2 : cd = 7 → 1 ≠ j ∧ 5 ≠ j) : iv_Md [cd] G (iv_up G a (cd, upd g j x, r)) := iv_mod.up iv_rel.rf ha rfl List.mem_cons_self (iv_rel.put h1 h2)
theorem iv_Md.putr {G : iv_G} {a cd : Nat} {g : Nat → Int32} {r : Nat → Nat} {j b : Nat} (ha : G a = some (cd, g, r)) (h1 : cd = 5 ∧ (j = 13 ∨ j = 14)) : iv_Md [cd] G (iv_up G a (cd, g, iv_ur r j b)) := iv_mod.up iv_rel.rf ha rfl List.mem_cons_self (iv_rel.putr h1)
def iv_rel0 (k k' : iv_K) : Prop := (∀ j, (k.1 = 5 → j ≠ 13 ∧ j ≠ 14) → k'.2.2 j = k.2.2 j) ∧ (k.1 ≠ 7 → ∀ j, j ∈ iv_stab k.1 → k'.2.1 j = k.2.1 j) ∧ True
theorem iv_rel0.rf (k : iv_K) : iv_rel0 k k := ⟨fun _ _ => rfl, fun _ _ _ => rfl, trivial⟩
theorem iv_rel0.tr (a b c : iv_K) (e : b.1 = a.1) (h1 : iv_rel0 a b) (h2 : iv_rel0 b c) : iv_rel0 a c := ⟨fun j hj => (h2.1 j (by rw [e]; exact hj)).trans (h1.1 j hj), fun h7 j hj => (h2.2.1 (by rw [e]; exact h7) j (by rw [e]; exact hj)).trans (h1.2.1 h7 j hj), trivial⟩
abbrev iv_Md0 (S : List Nat) (G G' : iv_G) : Prop := iv_mod iv_rel0 S G G'
theorem iv_Md0.rf {S : List Nat} {G : iv_G} : iv_Md0 S G G := iv_mod.rf iv_rel0.rf
theorem iv_Md0.stp {S S2 : List Nat} {G G1 G2 : iv_G} (h1 : iv_Md0 S G G1) (h2 : iv_Md0 S2 G1 G2) (s2 : ∀ x, x ∈ S2 → x ∈ S) : iv_Md0 S G G2 := iv_mod.tr iv_rel0.tr h1 h2 (fun _ h => h) s2
theorem iv_Md.weak {S : List Nat} {G G' : iv_G} (h : iv_Md S G G') : iv_Md0 S G G' := fun a k hk => by
  obtain ⟨k', h1, h2, h3, h4⟩ := h a k hk
  exact ⟨k', h1, h2, h3, h4.1, fun _ => h4.2.1, trivial⟩
theorem iv_Md0.put {G : iv_G} {a cd : Nat} {g : Nat → Int32} {r : Nat → Nat} {j : Nat} {x : Int32} (ha : G a = some (cd, g, r)) (h1 : cd ≠ 7 → j ∉ iv_stab cd) : iv_Md0 [cd] G (iv_up G a (cd, upd g j x, r)) := by
  refine iv_mod.up iv_rel0.rf ha rfl List.mem_cons_self ⟨fun _ _ => rfl, fun h7 i hi => ?_, trivial⟩
  show upd g j x i = g i
  have e : i ≠ j := fun e => h1 h7 (e ▸ hi)
  simp [upd, e]
theorem iv_Md.put7 {G : iv_G} {a : Nat} {g : Nat → Int32} {r : Nat → Nat} {x : Int32} (ha : G a = some (7, g, r)) (h2 : (g 1).toInt ≤ x.toInt) : iv_Md [7] G (iv_up G a (7, upd g 1 x, r)) := by
  refine iv_mod.up iv_rel.rf ha rfl List.mem_cons_self ⟨fun _ _ => rfl, fun i hi => ?_, fun _ => ?_⟩
  · show upd g 1 x i = g i
    have hi : i ∈ [4, 8] := hi
    have e : i ≠ 1 := fun e => absurd (e ▸ hi) (by decide)
    simp [upd, e]
  · show (g 1).toInt ≤ (upd g 1 x 1).toInt ∧ (g 5).toInt ≤ (upd g 1 x 5).toInt
    simpa [upd] using h2
theorem iv_Md.put75 {G : iv_G} {a : Nat} {g : Nat → Int32} {r : Nat → Nat} {x : Int32} (ha : G a = some (7, g, r)) (h2 : (g 5).toInt ≤ x.toInt) : iv_Md [7] G (iv_up G a (7, upd g 5 x, r)) := by
  refine iv_mod.up iv_rel.rf ha rfl List.mem_cons_self ⟨fun _ _ => rfl, fun i hi => ?_, fun _ => ?_⟩
  · show upd g 5 x i = g i
    have hi : i ∈ [4, 8] := hi
    have e : i ≠ 5 := fun e => absurd (e ▸ hi) (by decide)
    simp [upd, e]
  · show (g 1).toInt ≤ (upd g 5 x 1).toInt ∧ (g 5).toInt ≤ (upd g 5 x 5).toInt
    simpa [upd] using h2
theorem iv_Md.ast {G : iv_G} {a cd : Nat} {g : Nat → Int32} {r : Nat → Nat} {j : Nat} {x : Int32} (ha : G a = some (cd, g, r)) (h1 : iv_stab cd = []) (h2 : cd ≠ 7) : iv_Md [cd] G (iv_up G a (cd, upd g j x, r)) := iv_mod.up iv_rel.rf ha rfl List.mem_cons_self (iv_rel.put (by rw [h1]; exact List.not_mem_nil) (fun h => absurd h h2))
/-! literals -/
theorem q_n2 : iv_R (-2) (-2) (-2) := iv_lit (by decide)
theorem q_n1 : iv_R (-1) (-1) (-1) := iv_lit (by decide)
theorem q_0 : iv_R 0 0 0 := iv_lit (by decide)
theorem q_1 : iv_R 1 1 1 := iv_lit (by decide)
theorem q_2 : iv_R 2 2 2 := iv_lit (by decide)
theorem q_3 : iv_R 3 3 3 := iv_lit (by decide)
theorem q_4 : iv_R 4 4 4 := iv_lit (by decide)
theorem q_5 : iv_R 5 5 5 := iv_lit (by decide)
theorem q_6 : iv_R 6 6 6 := iv_lit (by decide)
theorem q_7 : iv_R 7 7 7 := iv_lit (by decide)
theorem q_8 : iv_R 8 8 8 := iv_lit (by decide)
theorem q_9 : iv_R 9 9 9 := iv_lit (by decide)
theorem q_10 : iv_R 10 10 10 := iv_lit (by decide)
theorem q_11 : iv_R 11 11 11 := iv_lit (by decide)
theorem q_12 : iv_R 12 12 12 := iv_lit (by decide)
theorem q_13 : iv_R 13 13 13 := iv_lit (by decide)
theorem q_14 : iv_R 14 14 14 := iv_lit (by decide)
theorem q_15 : iv_R 15 15 15 := iv_lit (by decide)
theorem q_16 : iv_R 16 16 16 := iv_lit (by decide)
theorem q_17 : iv_R 17 17 17 := iv_lit (by decide)
theorem q_18 : iv_R 18 18 18 := iv_lit (by decide)
theorem q_19 : iv_R 19 19 19 := iv_lit (by decide)
theorem q_20 : iv_R 20 20 20 := iv_lit (by decide)
theorem q_21 : iv_R 21 21 21 := iv_lit (by decide)
theorem q_22 : iv_R 22 22 22 := iv_lit (by decide)
theorem q_23 : iv_R 23 23 23 := iv_lit (by decide)
theorem q_24 : iv_R 24 24 24 := iv_lit (by decide)
theorem q_25 : iv_R 25 25 25 := iv_lit (by decide)
theorem q_26 : iv_R 26 26 26 := iv_lit (by decide)
theorem q_27 : iv_R 27 27 27 := iv_lit (by decide)
theorem q_28 : iv_R 28 28 28 := iv_lit (by decide)
theorem q_29 : iv_R 29 29 29 := iv_lit (by decide)
theorem q_30 : iv_R 30 30 30 := iv_lit (by decide)
theorem q_31 : iv_R 31 31 31 := iv_lit (by decide)
theorem q_32 : iv_R 32 32 32 := iv_lit (by decide)
theorem q_35 : iv_R 35 35 35 := iv_lit (by decide)
theorem q_36 : iv_R 36 36 36 := iv_lit (by decide)
theorem q_40 : iv_R 40 40 40 := iv_lit (by decide)
theorem q_41 : iv_R 41 41 41 := iv_lit (by decide)
theorem q_42 : iv_R 42 42 42 := iv_lit (by decide)
theorem q_43 : iv_R 43 43 43 := iv_lit (by decide)
theorem q_44 : iv_R 44 44 44 := iv_lit (by decide)
theorem q_45 : iv_R 45 45 45 := iv_lit (by decide)
theorem q_46 : iv_R 46 46 46 := iv_lit (by decide)
theorem q_47 : iv_R 47 47 47 := iv_lit (by decide)
theorem q_48 : iv_R 48 48 48 := iv_lit (by decide)
theorem q_49 : iv_R 49 49 49 := iv_lit (by decide)
theorem q_50 : iv_R 50 50 50 := iv_lit (by decide)
theorem q_51 : iv_R 51 51 51 := iv_lit (by decide)
theorem q_57 : iv_R 57 57 57 := iv_lit (by decide)
theorem q_59 : iv_R 59 59 59 := iv_lit (by decide)
theorem q_60 : iv_R 60 60 60 := iv_lit (by decide)
theorem q_61 : iv_R 61 61 61 := iv_lit (by decide)
theorem q_62 : iv_R 62 62 62 := iv_lit (by decide)
theorem q_63 : iv_R 63 63 63 := iv_lit (by decide)
theorem q_64 : iv_R 64 64 64 := iv_lit (by decide)
theorem q_65 : iv_R 65 65 65 := iv_lit (by decide)
theorem q_66 : iv_R 66 66 66 := iv_lit (by decide)
theorem q_90 : iv_R 90 90 90 := iv_lit (by decide)
theorem q_97 : iv_R 97 97 97 := iv_lit (by decide)
theorem q_99 : iv_R 99 99 99 := iv_lit (by decide)
theorem q_100 : iv_R 100 100 100 := iv_lit (by decide)
theorem q_120 : iv_R 120 120 120 := iv_lit (by decide)
theorem q_122 : iv_R 122 122 122 := iv_lit (by decide)
theorem q_128 : iv_R 128 128 128 := iv_lit (by decide)
theorem q_129 : iv_R 129 129 129 := iv_lit (by decide)
theorem q_130 : iv_R 130 130 130 := iv_lit (by decide)
theorem q_131 : iv_R 131 131 131 := iv_lit (by decide)
theorem q_132 : iv_R 132 132 132 := iv_lit (by decide)
theorem q_133 : iv_R 133 133 133 := iv_lit (by decide)
theorem q_134 : iv_R 134 134 134 := iv_lit (by decide)
theorem q_135 : iv_R 135 135 135 := iv_lit (by decide)
theorem q_136 : iv_R 136 136 136 := iv_lit (by decide)
theorem q_137 : iv_R 137 137 137 := iv_lit (by decide)
theorem q_138 : iv_R 138 138 138 := iv_lit (by decide)
theorem q_140 : iv_R 140 140 140 := iv_lit (by decide)
theorem q_141 : iv_R 141 141 141 := iv_lit (by decide)
theorem q_142 : iv_R 142 142 142 := iv_lit (by decide)
theorem q_143 : iv_R 143 143 143 := iv_lit (by decide)
theorem q_145 : iv_R 145 145 145 := iv_lit (by decide)
theorem q_146 : iv_R 146 146 146 := iv_lit (by decide)
theorem q_147 : iv_R 147 147 147 := iv_lit (by decide)
theorem q_148 : iv_R 148 148 148 := iv_lit (by decide)
theorem q_149 : iv_R 149 149 149 := iv_lit (by decide)
theorem q_150 : iv_R 150 150 150 := iv_lit (by decide)
theorem q_151 : iv_R 151 151 151 := iv_lit (by decide)
theorem q_152 : iv_R 152 152 152 := iv_lit (by decide)
theorem q_153 : iv_R 153 153 153 := iv_lit (by decide)
theorem q_159 : iv_R 159 159 159 := iv_lit (by decide)
theorem q_160 : iv_R 160 160 160 := iv_lit (by decide)
theorem q_161 : iv_R 161 161 161 := iv_lit (by decide)
theorem q_162 : iv_R 162 162 162 := iv_lit (by decide)
theorem q_190 : iv_R 190 190 190 := iv_lit (by decide)
theorem q_206 : iv_R 206 206 206 := iv_lit (by decide)
theorem q_255 : iv_R 255 255 255 := iv_lit (by decide)
theorem q_266 : iv_R 266 266 266 := iv_lit (by decide)
theorem q_400 : iv_R 400 400 400 := iv_lit (by decide)
theorem q_401 : iv_R 401 401 401 := iv_lit (by decide)
theorem q_420 : iv_R 420 420 420 := iv_lit (by decide)
theorem q_480 : iv_R 480 480 480 := iv_lit (by decide)
theorem q_730 : iv_R 730 730 730 := iv_lit (by decide)
theorem q_746 : iv_R 746 746 746 := iv_lit (by decide)
theorem q_778 : iv_R 778 778 778 := iv_lit (by decide)
theorem q_810 : iv_R 810 810 810 := iv_lit (by decide)
theorem q_820 : iv_R 820 820 820 := iv_lit (by decide)
theorem q_842 : iv_R 842 842 842 := iv_lit (by decide)
theorem q_874 : iv_R 874 874 874 := iv_lit (by decide)
theorem q_876 : iv_R 876 876 876 := iv_lit (by decide)
theorem q_999 : iv_R 999 999 999 := iv_lit (by decide)
theorem q_1000 : iv_R 1000 1000 1000 := iv_lit (by decide)
theorem q_1023 : iv_R 1023 1023 1023 := iv_lit (by decide)
theorem q_2048 : iv_R 2048 2048 2048 := iv_lit (by decide)
theorem q_2304 : iv_R 2304 2304 2304 := iv_lit (by decide)
theorem q_2514 : iv_R 2514 2514 2514 := iv_lit (by decide)
theorem q_9999 : iv_R 9999 9999 9999 := iv_lit (by decide)
theorem q_55232 : iv_R 55232 55232 55232 := iv_lit (by decide)
theorem q_56320 : iv_R 56320 56320 56320 := iv_lit (by decide)
theorem q_65536 : iv_R 65536 65536 65536 := iv_lit (by decide)
theorem q_1000000 : iv_R 1000000 1000000 1000000 := iv_lit (by decide)
theorem q_1664525 : iv_R 1664525 1664525 1664525 := iv_lit (by decide)
theorem q_16777215 : iv_R 16777215 16777215 16777215 := iv_lit (by decide)
theorem q_252645135 : iv_R 252645135 252645135 252645135 := iv_lit (by decide)
theorem q_858993459 : iv_R 858993459 858993459 858993459 := iv_lit (by decide)
theorem q_1013904223 : iv_R 1013904223 1013904223 1013904223 := iv_lit (by decide)
theorem q_1431655765 : iv_R 1431655765 1431655765 1431655765 := iv_lit (by decide)
