/-! p12, p13: the signs of a tape, the tokens, and one automaton over them (no program here) -/
def tk_L (c : Int) : Prop := (97 ≤ c ∧ c ≤ 122) ∨ (65 ≤ c ∧ c ≤ 90)
def tk_D (c : Int) : Prop := 48 ≤ c ∧ c ≤ 57
def tk_B (c : Int) : Prop := c = 32 ∨ c = 10
/-- a letter or a digit that belongs to the token ahead of it -/
def tk_G (T : Nat → Int) (a : Nat) : Prop := 1 ≤ a ∧ ((tk_L (T (a - 1)) ∧ tk_L (T a)) ∨ (tk_D (T (a - 1)) ∧ tk_D (T a)))
/-- a token begins there -/
def tk_S (T : Nat → Int) (n a : Nat) : Prop := a < n ∧ ¬ tk_B (T a) ∧ ¬ tk_G T a
/-- how many begin before a -/
noncomputable def tk_c (T : Nat → Int) (n : Nat) : Nat → Nat
  | 0 => 0
  | a + 1 => @ite Nat (tk_S T n a) (Classical.propDecidable _) (tk_c T n a + 1) (tk_c T n a)
theorem tk_c.ok {T : Nat → Int} {n a : Nat} (h : tk_S T n a) : tk_c T n (a + 1) = tk_c T n a + 1 := if_pos h
theorem tk_c.no {T : Nat → Int} {n a : Nat} (h : ¬ tk_S T n a) : tk_c T n (a + 1) = tk_c T n a := if_neg h
theorem tk_c.le {T : Nat → Int} {n a : Nat} : ∀ k, tk_c T n a ≤ tk_c T n (a + k) := by
  intro k
  induction k with
  | zero => exact Nat.le_refl _
  | succ k ih =>
    by_cases h : tk_S T n (a + k)
    · have w := tk_c.ok h
      show _ ≤ tk_c T n (a + k + 1)
      omega
    · have w := tk_c.no h
      show _ ≤ tk_c T n (a + k + 1)
      omega
theorem tk_c.mono {T : Nat → Int} {n a b : Nat} (h : a ≤ b) : tk_c T n a ≤ tk_c T n b := by
  have w := tk_c.le (T := T) (n := n) (a := a) (b - a)
  rw [show a + (b - a) = b by omega] at w
  exact w
theorem tk_c.top {T : Nat → Int} {n : Nat} : ∀ a, tk_c T n a ≤ a := by
  intro a
  induction a with
  | zero => exact Nat.le_refl _
  | succ a ih =>
    by_cases h : tk_S T n a
    · have w := tk_c.ok h
      omega
    · have w := tk_c.no h
      omega
theorem tk_c.flat {T : Nat → Int} {n a : Nat} : ∀ k, (∀ x, a ≤ x → x < a + k → ¬ tk_S T n x) → tk_c T n (a + k) = tk_c T n a := by
  intro k
  induction k with
  | zero => intro _; rfl
  | succ k ih =>
    intro h
    have w := tk_c.no (h (a + k) (by omega) (by omega))
    show tk_c T n (a + k + 1) = _
    rw [w]
    exact ih (fun x h1 h2 => h x h1 (by omega))
/-- token i stands at p: it begins there, or it is the end -/
def tk_P (T : Nat → Int) (n i p : Nat) : Prop := tk_c T n p = i ∧ (tk_S T n p ∨ p = n)
theorem tk_P.one {T : Nat → Int} {n i p q : Nat} (h1 : tk_P T n i p) (h2 : tk_P T n i q) : p = q := by
  have key : ∀ {p q : Nat}, tk_P T n i p → tk_P T n i q → ¬ p < q := fun {p q} h1 h2 hlt => by
    have hp : tk_S T n p := h1.2.resolve_right (fun e => by
      rcases h2.2 with w | w
      · have := w.1
        omega
      · omega)
    have w1 := tk_c.ok hp
    have w2 := tk_c.mono (T := T) (n := n) (show p + 1 ≤ q by omega)
    have w3 := h1.1
    have w4 := h2.1
    omega
  have k1 := key h1 h2
  have k2 := key h2 h1
  omega
/-- a token that begins at p ends at e -/
def tk_E (T : Nat → Int) (n p e : Nat) : Prop := p < e ∧ e ≤ n ∧ (∀ x, p < x → x < e → tk_G T x) ∧ (e = n ∨ ¬ tk_G T e)
theorem tk_E.one {T : Nat → Int} {n p e f : Nat} (h1 : tk_E T n p e) (h2 : tk_E T n p f) : e = f := by
  have key : ∀ {e f : Nat}, tk_E T n p e → tk_E T n p f → ¬ e < f := fun {e f} h1 h2 hlt => by
    have w1 := h2.2.2.1 e h1.1 hlt
    rcases h1.2.2.2 with q | q
    · have := h2.2.1
      omega
    · exact q w1
  have k1 := key h1 h2
  have k2 := key h2 h1
  omega
theorem tk_E.cnt {T : Nat → Int} {n p e : Nat} (hp : tk_S T n p) (h : tk_E T n p e) : tk_c T n e = tk_c T n p + 1 := by
  have w := tk_c.flat (T := T) (n := n) (a := p + 1) (e - (p + 1)) (fun x h1 h2 hS => hS.2.2 (h.2.2.1 x (by omega) (by omega)))
  rw [show p + 1 + (e - (p + 1)) = e by have := h.1; omega] at w
  rw [w, tk_c.ok hp]
/-- behind a token: from its end over blanks to the next one -/
theorem tk_next {T : Nat → Int} {n e p : Nat} (he : e = n ∨ ¬ tk_G T e) (h1 : e ≤ p) (h2 : p ≤ n) (hb : ∀ x, e ≤ x → x < p → tk_B (T x)) (hp : p = n ∨ ¬ tk_B (T p)) : tk_P T n (tk_c T n e) p := by
  have w := tk_c.flat (T := T) (n := n) (a := e) (p - e) (fun x q1 q2 hS => hS.2.1 (hb x q1 (by omega)))
  rw [show e + (p - e) = p by omega] at w
  refine ⟨w, ?_⟩
  rcases hp with q | q
  · exact Or.inr q
  · by_cases hn : p = n
    · exact Or.inr hn
    · refine Or.inl ⟨by omega, q, ?_⟩
      by_cases hpe : p = e
      · rw [hpe]
        rcases he with w2 | w2
        · omega
        · exact w2
      · intro g
        have wb := hb (p - 1) (by omega) (by omega)
        have g := g.2
        unfold tk_L tk_D at g
        unfold tk_B at wb
        omega
/-- what awaits: the configuration before a token of a law; c: which sum (0 a line's, 1 left, 2 right of a comparison), d: how deep, st: the bases of the open brackets -/
abbrev tk_Q : Type := Sum Nat (Sum (Nat × Nat × Nat × List Nat) (Sum (Nat × Nat × Nat × List Nat) (Sum (Nat × Nat × Nat × List Nat) (Sum (Nat × Nat × List Nat) (Sum (Nat × List Nat) (Sum (Nat × Nat) (Sum Nat (Nat × Nat))))))))
abbrev tk_Q.head (l : Nat) : tk_Q := Sum.inl l
abbrev tk_Q.unit (l c d : Nat) (st : List Nat) : tk_Q := Sum.inr (Sum.inl (l, c, d, st))
abbrev tk_Q.part (l c d : Nat) (st : List Nat) : tk_Q := Sum.inr (Sum.inr (Sum.inl (l, c, d, st)))
abbrev tk_Q.aft (l c d : Nat) (st : List Nat) : tk_Q := Sum.inr (Sum.inr (Sum.inr (Sum.inl (l, c, d, st))))
abbrev tk_Q.claim (l d : Nat) (st : List Nat) : tk_Q := Sum.inr (Sum.inr (Sum.inr (Sum.inr (Sum.inl (l, d, st)))))
abbrev tk_Q.done (l : Nat) (st : List Nat) : tk_Q := Sum.inr (Sum.inr (Sum.inr (Sum.inr (Sum.inr (Sum.inl (l, st))))))
abbrev tk_Q.ring (l k : Nat) : tk_Q := Sum.inr (Sum.inr (Sum.inr (Sum.inr (Sum.inr (Sum.inr (Sum.inl (l, k)))))))
abbrev tk_Q.fin (l : Nat) : tk_Q := Sum.inr (Sum.inr (Sum.inr (Sum.inr (Sum.inr (Sum.inr (Sum.inr (Sum.inl l)))))))
abbrev tk_Q.bad (k i : Nat) : tk_Q := Sum.inr (Sum.inr (Sum.inr (Sum.inr (Sum.inr (Sum.inr (Sum.inr (Sum.inr (k, i))))))))
def tk_base : List Nat → Nat
  | [] => 0
  | b :: _ => b
/-- which kinds are of a reading (0 HOURS, 1 loud, 2 come and slack); those of another one can't stand -/
def tk_N (r : Nat) (k : Int) : Int := if k < 128 then k else if r = 0 then (if k ≤ 130 then k else 1) else if 134 ≤ k ∧ k ≤ 142 then k else if r = 1 then (if k = 131 ∨ (143 ≤ k ∧ k ≤ 145) then k else 1) else if k = 132 ∨ k = 133 ∨ (146 ≤ k ∧ k ≤ 148) then k else 1
/-- behind a claim that is whole -/
def tk_close (i l : Nat) (t : Int) : List Nat → tk_Q
  | [] => .bad 1 i
  | [b] => if t = 135 ∨ t = 136 then .claim l b [b] else if t = 59 then .head (l + 1) else .bad 1 i
  | b :: c :: st => if t = 135 ∨ t = 136 then .claim l b (b :: c :: st) else if t = 41 then .done l (c :: st) else .bad 1 i
def tk_unit (i l c d : Nat) (st : List Nat) (t : Int) : tk_Q := if t = 2 ∨ (138 ≤ t ∧ t ≤ 148) then .aft l c d st else .bad 1 i
/-- one token (its kind t in the reading, its value v) on; r: the reading, n: how many bells -/
def tk_stp (r n i : Nat) (t v : Int) : tk_Q → tk_Q
  | Sum.inl l => if t = 0 then .fin l else if ¬ (if r = 1 then t = 131 else t = 132 ∨ t = 133) then .bad 1 i else if 16 ≤ l then .bad 3 i else .unit l 0 0 []
  | Sum.inr (Sum.inl (l, c, d, st)) => tk_unit i l c d st t
  | Sum.inr (Sum.inr (Sum.inl (l, c, d, st))) => if ¬ t = 2 then .bad 1 i else if v < 1 ∨ 9999 < v then .bad 2 i else .aft l c d st
  | Sum.inr (Sum.inr (Sum.inr (Sum.inl (l, c, d, st)))) => if t = 43 ∨ t = 45 ∨ t = 42 then .unit l c d st else if t = 47 then .part l c d st else if c = 0 then (if t = 134 then .claim l 0 [0] else if t = 59 then .head (l + 1) else .bad 1 i) else if c = 1 then (if t = 60 ∨ t = 61 ∨ t = 62 then .unit l 2 d st else .bad 1 i) else tk_close i l t st
  | Sum.inr (Sum.inr (Sum.inr (Sum.inr (Sum.inl (l, d, st))))) => if t = 137 then (if 8 ≤ d then .bad 3 i else .claim l (d + 1) st) else if t = 40 then (if 8 ≤ d then .bad 3 i else .claim l (d + 1) ((d + 1) :: st)) else tk_unit i l 1 d st t
  | Sum.inr (Sum.inr (Sum.inr (Sum.inr (Sum.inr (Sum.inl (l, st)))))) => tk_close i l t st
  | Sum.inr (Sum.inr (Sum.inr (Sum.inr (Sum.inr (Sum.inr (Sum.inl (l, k))))))) => if k = 0 then (if t = 0 then .fin l else if ¬ t = 128 then .bad 1 i else if 20 ≤ l then .bad 3 i else .ring l 1)
      else if k = 1 ∨ k = 3 ∨ k = 5 then (if ¬ t = 2 then .bad 1 i else if (k = 1 ∧ (n : Int) ≤ v) ∨ (k = 3 ∧ 23 < v) ∨ (k = 5 ∧ (v < 1 ∨ 24 < v)) then .bad 2 i else .ring l (k + 1))
      else if k = 2 then (if t = 129 then .ring l 3 else .bad 1 i) else if k = 4 then (if t = 130 then .ring l 5 else .bad 1 i) else if t = 59 then .ring (l + 1) 0 else .bad 1 i
  | Sum.inr (Sum.inr (Sum.inr (Sum.inr (Sum.inr (Sum.inr (Sum.inr (Sum.inl l))))))) => .fin l
  | Sum.inr (Sum.inr (Sum.inr (Sum.inr (Sum.inr (Sum.inr (Sum.inr (Sum.inr ((k, j))))))))) => .bad k j
/-- the configuration before token i -/
def tk_cf (r n : Nat) (K V : Nat → Int) : Nat → tk_Q
  | 0 => if r = 0 then .ring 0 0 else .head 0
  | i + 1 => tk_stp r n i (tk_N r (K i)) (V i) (tk_cf r n K V i)
theorem tk_cf.fin {r n : Nat} {K V : Nat → Int} {i l : Nat} (h : tk_cf r n K V i = .fin l) : ∀ k, tk_cf r n K V (i + k) = .fin l := by
  intro k
  induction k with
  | zero => exact h
  | succ k ih =>
    show tk_stp r n (i + k) _ _ (tk_cf r n K V (i + k)) = _
    rw [ih]
    rfl
theorem tk_cf.bad {r n : Nat} {K V : Nat → Int} {i k j : Nat} (h : tk_cf r n K V i = .bad k j) : ∀ m, tk_cf r n K V (i + m) = .bad k j := by
  intro m
  induction m with
  | zero => exact h
  | succ m ih =>
    show tk_stp r n (i + m) _ _ (tk_cf r n K V (i + m)) = _
    rw [ih]
    rfl
/-- how a reading ends: well with l lines, or with fault k at token j -/
def tk_end (r n : Nat) (K V : Nat → Int) (o : tk_Q) : Prop := ((∃ l, o = .fin l) ∨ ∃ k j, o = .bad k j) ∧ ∃ i, tk_cf r n K V i = o
theorem tk_end.one {r n : Nat} {K V : Nat → Int} {o o' : tk_Q} (h1 : tk_end r n K V o) (h2 : tk_end r n K V o') : o = o' := by
  have key : ∀ {o : tk_Q}, tk_end r n K V o → ∃ i, ∀ m, tk_cf r n K V (i + m) = o := fun {o} h => by
    obtain ⟨h1, i, hi⟩ := h
    rcases h1 with ⟨l, e⟩ | ⟨k, j, e⟩
    · subst e
      exact ⟨i, tk_cf.fin hi⟩
    · subst e
      exact ⟨i, tk_cf.bad hi⟩
  obtain ⟨i, hi⟩ := key h1
  obtain ⟨j, hj⟩ := key h2
  have e1 := hi j
  have e2 := hj i
  rw [Nat.add_comm] at e2
  exact e1.symm.trans e2
/-- a tape of n bytes as both sides see it: behind its end there is nothing -/
def tk_T (g : Nat → Int32) (n : Nat) : Nat → Int := fun i => if i < n then (g i).toInt else -1
theorem tk_T.at {g : Nat → Int32} {n i : Nat} (h : i < n) : tk_T g n i = (g i).toInt := if_pos h
theorem tk_T.off {g : Nat → Int32} {n i : Nat} (h : n ≤ i) : tk_T g n i = -1 := if_neg (by omega)
theorem tk_T.eq {g h : Nat → Int32} {n : Nat} (e : ∀ i, i < n → h i = g i) : tk_T h n = tk_T g n := funext fun i => by
  by_cases q : i < n
  · rw [tk_T.at q, tk_T.at q, e i q]
  · rw [tk_T.off (by omega), tk_T.off (by omega)]
/-- the words, in the order of their kinds 128 and on -/
def tk_W : List (List Int) := [[114,105,110,103],[97,116],[102,111,114],[108,111,117,100],[99,111,109,101],[115,108,97,99,107],[119,104,101,110],[111,114],[97,110,100],[110,111,116],[119,101,105,103,104,116],[112,105,116,99,104],[104,111,112,101],[99,114,97,99,107,101,100],[102,114,111,115,116],[102,97,114],[104,111,117,114],[109,117,102,102,108,101,100],[99,108,101,97,114],[100,97,121,115],[100,97,121]]
def tk_w (i : Nat) : List Int := tk_W.getD i []
/-- the bytes from p to e are the word w -/
def tk_eq (T : Nat → Int) (p e : Nat) (w : List Int) : Prop := e = p + w.length ∧ ∀ k, k < w.length → T (p + k) = w.getD k 0
theorem tk_Wd : ∀ i : Fin 21, ∀ j : Fin 21, (tk_w i.val).length = (tk_w j.val).length → (∀ k, k < (tk_w i.val).length → (tk_w i.val).getD k 0 = (tk_w j.val).getD k 0) → i = j := by decide +kernel
theorem tk_eq.one {T : Nat → Int} {p e i j : Nat} (hi : i < 21) (hj : j < 21) (h1 : tk_eq T p e (tk_w i)) (h2 : tk_eq T p e (tk_w j)) : i = j := by
  have w := tk_Wd ⟨i, hi⟩ ⟨j, hj⟩ (show (tk_w i).length = (tk_w j).length by have a := h1.1; have b := h2.1; omega) (fun k hk => by
    have hk : k < (tk_w i).length := hk
    have a := h1.2 k hk
    have b := h2.2 k (by have a := h1.1; have b := h2.1; omega)
    exact a.symm.trans b)
  exact congrArg Fin.val w
def tk_sg (c : Int) : Prop := c = 59 ∨ (40 ≤ c ∧ c ≤ 43) ∨ c = 45 ∨ c = 47 ∨ (60 ≤ c ∧ c ≤ 62)
/-- the number that the digits from p to p + k tell -/
def tk_nu (T : Nat → Int) (p : Nat) : Nat → Int
  | 0 => 0
  | k + 1 => tk_nu T p k * 10 + (T (p + k) - 48)
/-- kind and value of the token from p to e -/
def tk_KV (T : Nat → Int) (p e : Nat) (k v : Int) : Prop := (tk_L (T p) → (∃ i, i < 21 ∧ tk_eq T p e (tk_w i) ∧ k = 128 + (i : Int)) ∨ ((∀ i, i < 21 → ¬ tk_eq T p e (tk_w i)) ∧ k = 1)) ∧ (tk_D (T p) → (e ≤ p + 4 → k = 2 ∧ v = tk_nu T p (e - p)) ∧ (p + 4 < e → k = 1)) ∧ (¬ tk_L (T p) → ¬ tk_D (T p) → (tk_sg (T p) → k = T p) ∧ (¬ tk_sg (T p) → k = 1))
/-- the tape's tokens: kinds K, values V, places P -/
def tk_R (T : Nat → Int) (n : Nat) (K V P : Nat → Int) : Prop := (∀ p e, tk_S T n p → tk_E T n p e → tk_KV T p e (K (tk_c T n p)) (V (tk_c T n p)) ∧ P (tk_c T n p) = (p : Int)) ∧ K (tk_c T n n) = 0 ∧ P (tk_c T n n) = (n : Int)
/-- the reference's code of a kind -/
def tk_M (r : Nat) (k : Int) : Int := if tk_N r k = 0 then 0 else if tk_N r k = 1 then 1 else if tk_N r k = 2 then 2 else if tk_N r k = 134 then 3 else if tk_N r k = 135 then 4 else if tk_N r k = 136 then 5 else if tk_N r k = 137 then 6 else if 128 ≤ tk_N r k ∧ tk_N r k ≤ 130 then tk_N r k - 121 else if 131 ≤ tk_N r k ∧ tk_N r k ≤ 133 then tk_N r k - 111 else if 138 ≤ tk_N r k then tk_N r k - 97 else tk_N r k + 100
/-- a reading stands at token i and takes what q takes -/
def tk_at (r n : Nat) (K V : Nat → Int) (i : Nat) (q : tk_Q) : Prop := tk_cf r n K V (i + 1) = tk_stp r n i (tk_N r (K i)) (V i) q
theorem tk_at.of {r n : Nat} {K V : Nat → Int} {i : Nat} {q : tk_Q} (h : tk_cf r n K V i = q) : tk_at r n K V i q := by
  unfold tk_at
  rw [← h]
  rfl
theorem tk_at.go {r n : Nat} {K V : Nat → Int} {i : Nat} {q q' : tk_Q} (h : tk_at r n K V i q) (e : tk_stp r n i (tk_N r (K i)) (V i) q = q') : tk_at r n K V (i + 1) q' := tk_at.of (h.trans e)
theorem tk_at.as {r n : Nat} {K V : Nat → Int} {i : Nat} {q q' : tk_Q} (h : tk_at r n K V i q) (e : tk_stp r n i (tk_N r (K i)) (V i) q = tk_stp r n i (tk_N r (K i)) (V i) q') : tk_at r n K V i q' := h.trans e
/-- a fault of kind k at token i -/
def tk_F (r n : Nat) (K V : Nat → Int) (i : Nat) (k : Nat) : Prop := tk_cf r n K V (i + 1) = .bad k i
theorem tk_at.no {r n : Nat} {K V : Nat → Int} {i k : Nat} {q : tk_Q} (h : tk_at r n K V i q) (e : tk_stp r n i (tk_N r (K i)) (V i) q = .bad k i) : tk_F r n K V i k := h.trans e
