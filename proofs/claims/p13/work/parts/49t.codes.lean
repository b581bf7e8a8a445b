/-! the reference's tokens: codes of kinds, words, places (no program here) -/
def tk_kd (k : Int) : Prop := k = 0 ∨ k = 1 ∨ k = 2 ∨ tk_sg k ∨ (128 ≤ k ∧ k ≤ 148)
theorem tk_KV.kd {T : Nat → Int} {p e : Nat} {k v : Int} (h : tk_KV T p e k v) : tk_kd k := by
  by_cases hl : tk_L (T p)
  · rcases h.1 hl with ⟨i, h1, _, h3⟩ | ⟨_, h3⟩
    · exact Or.inr (Or.inr (Or.inr (Or.inr ⟨by omega, by omega⟩)))
    · exact Or.inr (Or.inl h3)
  · by_cases hd : tk_D (T p)
    · by_cases he : e ≤ p + 4
      · exact Or.inr (Or.inr (Or.inl ((h.2.1 hd).1 he).1))
      · exact Or.inr (Or.inl ((h.2.1 hd).2 (by omega)))
    · by_cases hs : tk_sg (T p)
      · exact Or.inr (Or.inr (Or.inr (Or.inl (by rw [(h.2.2 hl hd).1 hs]; exact hs))))
      · exact Or.inr (Or.inl ((h.2.2 hl hd).2 hs))
theorem tk_R.at {T : Nat → Int} {n : Nat} {K V P : Nat → Int} (h : tk_R T n K V P) {j : Nat} (hj : j < tk_c T n n) : ∃ p e, tk_S T n p ∧ tk_E T n p e ∧ tk_c T n p = j ∧ tk_KV T p e (K j) (V j) ∧ P j = (p : Int) := by
  obtain ⟨p, h1, h2, h3⟩ := tk_c.sur n j hj
  obtain ⟨e, he⟩ := tk_E.ex (T := T) (n := n) (p := p) h1
  have w := h.1 p e h2 he
  rw [h3] at w
  exact ⟨p, e, h2, he, h3, w.1, w.2⟩
theorem tk_R.kd {T : Nat → Int} {n : Nat} {K V P : Nat → Int} (h : tk_R T n K V P) {j : Nat} (hj : j ≤ tk_c T n n) : tk_kd (K j) := by
  rcases Nat.lt_or_eq_of_le hj with q | q
  · obtain ⟨p, e, _, _, _, w, _⟩ := h.at q
    exact w.kd
  · rw [q, h.2.1]
    exact Or.inl rfl
theorem tk_R.nb {T : Nat → Int} {n : Nat} {K V P : Nat → Int} (h : tk_R T n K V P) {j : Nat} (hj : j ≤ tk_c T n n) (hk : K j = 2) : 0 ≤ V j ∧ V j ≤ 9999 := by
  rcases Nat.lt_or_eq_of_le hj with q | q
  · obtain ⟨p, e, _, he, _, w, _⟩ := h.at q
    obtain ⟨d, e4⟩ := tk_KV.two w hk
    have v := ((w.2.1 d).1 e4).2
    rw [v]
    exact tk_nub (T := T) (p := p) (e - p) (by omega) (fun k hk2 => tk_run he d k (by omega))
  · rw [q, h.2.1] at hk
    exact absurd hk (by decide)
theorem tk_N.kd {r : Nat} {k : Int} (h : tk_kd k) : tk_kd (tk_N r k) := by
  have one : tk_kd 1 := Or.inr (Or.inl rfl)
  unfold tk_N
  split
  · exact h
  · split
    · split
      · exact h
      · exact one
    · split
      · exact h
      · split
        · split
          · exact h
          · exact one
        · split
          · exact h
          · exact one
def tk_m (t : Int) : Int := if t = 0 then 0 else if t = 1 then 1 else if t = 2 then 2 else if t = 134 then 3 else if t = 135 then 4 else if t = 136 then 5 else if t = 137 then 6 else if 128 ≤ t ∧ t ≤ 130 then t - 121 else if 131 ≤ t ∧ t ≤ 133 then t - 111 else if 138 ≤ t then t - 97 else t + 100
theorem tk_M.m {r : Nat} {k : Int} : tk_M r k = tk_m (tk_N r k) := rfl
def tk_mt (t m : Int) : Prop := (t = 0 ∧ m = 0) ∨ (t = 1 ∧ m = 1) ∨ (t = 2 ∧ m = 2) ∨ (t = 134 ∧ m = 3) ∨ (t = 135 ∧ m = 4) ∨ (t = 136 ∧ m = 5) ∨ (t = 137 ∧ m = 6) ∨ (128 ≤ t ∧ t ≤ 130 ∧ m = t - 121) ∨ (131 ≤ t ∧ t ≤ 133 ∧ m = t - 111) ∨ (138 ≤ t ∧ t ≤ 148 ∧ m = t - 97) ∨ ((t = 59 ∨ (40 ≤ t ∧ t ≤ 43) ∨ t = 45 ∨ t = 47 ∨ (60 ≤ t ∧ t ≤ 62)) ∧ m = t + 100)
theorem tk_M.tab {r : Nat} {k : Int} (h : tk_kd k) : tk_mt (tk_N r k) (tk_M r k) := by
  have hN := tk_N.kd (r := r) h
  rw [tk_M.m]
  generalize tk_N r k = t at hN
  unfold tk_kd tk_sg at hN
  have all : t = 0 ∨ t = 1 ∨ t = 2 ∨ t = 59 ∨ t = 40 ∨ t = 41 ∨ t = 42 ∨ t = 43 ∨ t = 45 ∨ t = 47 ∨ t = 60 ∨ t = 61 ∨ t = 62 ∨ t = 128 ∨ t = 129 ∨ t = 130 ∨ t = 131 ∨ t = 132 ∨ t = 133 ∨ t = 134 ∨ t = 135 ∨ t = 136 ∨ t = 137 ∨ (138 ≤ t ∧ t ≤ 148) := by omega
  unfold tk_mt
  rcases all with q | q | q | q | q | q | q | q | q | q | q | q | q | q | q | q | q | q | q | q | q | q | q | q
  all_goals first | (subst q; decide) | skip
  refine Or.inr (Or.inr (Or.inr (Or.inr (Or.inr (Or.inr (Or.inr (Or.inr (Or.inr (Or.inl ⟨q.1, q.2, ?_⟩)))))))))
  unfold tk_m
  rw [if_neg (by omega), if_neg (by omega), if_neg (by omega), if_neg (by omega), if_neg (by omega), if_neg (by omega), if_neg (by omega), if_neg (by omega), if_neg (by omega), if_pos (by omega)]
/-- of a reading of laws: loud stands in one, come and slack in the other -/
theorem tk_N.r1 {k : Int} : ¬ tk_N 1 k = 132 ∧ ¬ tk_N 1 k = 133 := by
  unfold tk_N
  rw [if_neg (show ¬ (1 : Nat) = 0 by decide), if_pos (show (1 : Nat) = 1 from rfl)]
  split
  · omega
  · split
    · omega
    · split
      · omega
      · omega
theorem tk_N.r2 {k : Int} : ¬ tk_N 2 k = 131 := by
  unfold tk_N
  rw [if_neg (show ¬ (2 : Nat) = 0 by decide), if_neg (show ¬ (2 : Nat) = 1 by decide)]
  split
  · omega
  · split
    · omega
    · split
      · omega
      · omega
/-- kind 2 is a number in every reading -/
theorem tk_N.two {r : Nat} {k : Int} (h : tk_N r k = 2) : k = 2 := by
  unfold tk_N at h
  split at h
  · exact h
  · split at h
    · split at h
      · exact h
      · omega
    · split at h
      · exact h
      · split at h
        · split at h
          · exact h
          · omega
        · split at h
          · exact h
          · omega
theorem tk_N.ofTwo {r : Nat} {k : Int} (h : k = 2) : tk_N r k = 2 := by
  rw [h]
  exact if_pos (by decide)
theorem tk_N.zero {r : Nat} {k : Int} (h : tk_N r k = 0) : k = 0 := by
  unfold tk_N at h
  split at h
  · exact h
  · split at h
    · split at h
      · exact h
      · omega
    · split at h
      · exact h
      · split at h
        · split at h
          · exact h
          · omega
        · split at h
          · exact h
          · omega
/-! words -/
def tm_s (s : Nat) : Nat := [0, 0, 0, 1, 2, 6, 7, 8, 9, 3, 15, 16, 17, 10, 11, 12, 13, 14, 4, 5, 18, 19, 20].getD s 0
/-- the bytes from p to e are the string s -/
def tm_is (g : Nat → Int32) (p e s : Nat) : Prop := e = p + iv_len.getD s 0 ∧ ∀ k, k < iv_len.getD s 0 → g (p + k) = (iv_byt.getD s []).getD k 0 &&& 255
theorem tm_sN : ∀ s : Fin 23, 2 ≤ s.val → tm_s s.val < 21 ∧ iv_len.getD s.val 0 = (tk_w (tm_s s.val)).length ∧ ∀ k, k < (tk_w (tm_s s.val)).length → ((iv_byt.getD s.val []).getD k 0 &&& 255).toInt = (tk_w (tm_s s.val)).getD k 0 := by decide +kernel
theorem tm_is.iff {g : Nat → Int32} {n p e s : Nat} (he : e ≤ n) (hs : s < 23) (h2 : 2 ≤ s) : tm_is g p e s ↔ tk_eq (tk_T g n) p e (tk_w (tm_s s)) := by
  obtain ⟨_, w1, w2⟩ := tm_sN ⟨s, hs⟩ h2
  have w1 : iv_len.getD s 0 = (tk_w (tm_s s)).length := w1
  have w2 : ∀ k, k < (tk_w (tm_s s)).length → ((iv_byt.getD s []).getD k 0 &&& 255).toInt = (tk_w (tm_s s)).getD k 0 := w2
  unfold tm_is tk_eq
  rw [w1]
  constructor
  · rintro ⟨h1, h2⟩
    refine ⟨h1, fun k hk => ?_⟩
    rw [tk_T.at (show p + k < n by omega), h2 k hk]
    exact w2 k hk
  · rintro ⟨h1, h2⟩
    refine ⟨h1, fun k hk => Int32.toInt_inj.mp ?_⟩
    have w := h2 k hk
    rw [tk_T.at (show p + k < n by omega)] at w
    rw [w, w2 k hk]
/-- what a chain of tests on words answers: S pairs words and answers -/
def tk_ws (T : Nat → Int) (p e : Nat) (S : List (Nat × Int)) (v : Int) : Prop := (∀ x, x ∈ S → tk_eq T p e (tk_w x.1) → v = x.2) ∧ ((∀ x, x ∈ S → ¬ tk_eq T p e (tk_w x.1)) → v = 1)
theorem tk_ws.nil {T : Nat → Int} {p e : Nat} : tk_ws T p e [] 1 := ⟨fun x h => absurd h List.not_mem_nil, fun _ => rfl⟩
theorem tk_ws.cons {T : Nat → Int} {p e j : Nat} {c v : Int} {S : List (Nat × Int)} (h : ¬ tk_eq T p e (tk_w j)) (w : tk_ws T p e S v) : tk_ws T p e ((j, c) :: S) v := by
  refine ⟨fun x hx q => ?_, fun q => w.2 (fun x hx => q x (List.mem_cons_of_mem _ hx))⟩
  rcases List.mem_cons.mp hx with e | e
  · subst e
    exact absurd q h
  · exact w.1 x e q
theorem tk_ws.hit {T : Nat → Int} {p e j : Nat} {c : Int} {S : List (Nat × Int)} (h : tk_eq T p e (tk_w j)) (hj : j < 21) (hS : ∀ x ∈ S, x.1 < 21 ∧ x.1 ≠ j) : tk_ws T p e ((j, c) :: S) c := by
  refine ⟨fun x hx q => ?_, fun q => absurd h (q (j, c) List.mem_cons_self)⟩
  rcases List.mem_cons.mp hx with e | e
  · rw [e]
  · exact absurd (tk_eq.one (hS x e).1 hj q h) (hS x e).2
def tm_A : List (Nat × Int) := [(10, 41), (11, 42), (12, 43), (13, 44), (14, 45)]
def tm_S1 : List (Nat × Int) := (3, 20) :: (15, 46) :: (16, 47) :: (17, 48) :: tm_A
def tm_S2 : List (Nat × Int) := (4, 21) :: (5, 22) :: (18, 49) :: (19, 50) :: (20, 51) :: tm_A
def tm_S (r : Nat) : List (Nat × Int) := if r = 0 then [(0, 7), (1, 8), (2, 9)] else (6, 3) :: (7, 4) :: (8, 5) :: (9, 6) :: (if r = 1 then tm_S1 else tm_S2)
theorem tm_SN : ∀ r : Fin 3, (∀ x ∈ tm_S r.val, x.1 < 21 ∧ tk_M r.val (128 + (x.1 : Int)) = x.2) ∧ ∀ j : Fin 21, (∃ x ∈ tm_S r.val, x.1 = j.val) ∨ tk_M r.val (128 + (j.val : Int)) = 1 := by decide +kernel
/-- a word's code is that of its kind -/
theorem tk_ws.M {T : Nat → Int} {p e r : Nat} {k v w : Int} (hr : r < 3) (h : tk_ws T p e (tm_S r) w) (hl : tk_L (T p)) (hk : tk_KV T p e k v) : w = tk_M r k := by
  obtain ⟨s1, s2⟩ := tm_SN ⟨r, hr⟩
  have s1 : ∀ x ∈ tm_S r, x.1 < 21 ∧ tk_M r (128 + (x.1 : Int)) = x.2 := s1
  have s2 : ∀ j : Fin 21, (∃ x ∈ tm_S r, x.1 = j.val) ∨ tk_M r (128 + (j.val : Int)) = 1 := s2
  have m1 : tk_M r 1 = 1 := by
    have e : tk_N r 1 = 1 := if_pos (by decide)
    rw [tk_M.m, e]
    rfl
  rcases hk.1 hl with ⟨i, h1, h2, h3⟩ | ⟨h2, h3⟩
  · rw [h3]
    by_cases q : ∃ x ∈ tm_S r, x.1 = i
    · obtain ⟨x, hx, e⟩ := q
      have w1 := h.1 x hx (by rw [e]; exact h2)
      rw [w1, ← (s1 x hx).2, e]
    · have w2 := (s2 ⟨i, h1⟩).resolve_left q
      have w2 : tk_M r (128 + (i : Int)) = 1 := w2
      rw [w2]
      refine h.2 (fun x hx he => q ⟨x, hx, ?_⟩)
      exact tk_eq.one (s1 x hx).1 h1 he h2
  · rw [h3, m1]
    exact h.2 (fun x hx => h2 x.1 (s1 x hx).1)
/-! places -/
theorem iv_svT {n : Nat} {x k : Int32} {gt : Nat → Int32} (hx : x.toInt = (n : Int)) (hk : 0 ≤ k.toInt) : (iv_sv x gt k).toInt = tk_T gt n k.toInt.toNat := by
  unfold iv_sv
  by_cases q : k < x
  · have w := Int32.lt_iff_toInt_lt.mp q
    rw [if_pos q, tk_T.at (show k.toInt.toNat < n by omega)]
    rfl
  · have w := mt Int32.lt_iff_toInt_lt.mpr q
    rw [if_neg q, tk_T.off (show n ≤ k.toInt.toNat by omega)]
    rfl
theorem tk_T.in {g : Nat → Int32} {n i : Nat} (h : ¬ tk_T g n i = -1) : i < n := by
  rcases Nat.lt_or_ge i n with q | q
  · exact q
  · exact absurd (tk_T.off q) h
theorem tk_M.sign {T : Nat → Int} {p e r : Nat} {k v : Int} (hl : ¬ tk_L (T p)) (hd : ¬ tk_D (T p)) (hk : tk_KV T p e k v) : (tk_sg (T p) → tk_M r k = T p + 100) ∧ (¬ tk_sg (T p) → tk_M r k = 1) ∧ ¬ k = 2 := by
  have w := hk.2.2 hl hd
  refine ⟨fun q => ?_, fun q => ?_, ?_⟩
  · have e := w.1 q
    rw [e]
    have t := tk_M.tab (r := r) (hk.kd)
    rw [e] at t
    unfold tk_sg at q
    have e2 : tk_N r (T p) = T p := if_pos (by omega)
    rw [e2] at t
    unfold tk_mt at t
    omega
  · rw [w.2 q, tk_M.m, show tk_N r 1 = 1 from if_pos (by decide)]
    rfl
  · intro e
    by_cases q : tk_sg (T p)
    · rw [w.1 q] at e
      rw [e] at q
      unfold tk_sg at q
      omega
    · rw [w.2 q] at e
      exact absurd e (by decide)
theorem tk_M.two {r : Nat} : tk_M r 2 = 2 ∧ tk_M r 1 = 1 ∧ tk_M r 0 = 0 := by
  refine ⟨?_, ?_, ?_⟩
  · rw [tk_M.m, show tk_N r 2 = 2 from if_pos (by decide)]; rfl
  · rw [tk_M.m, show tk_N r 1 = 1 from if_pos (by decide)]; rfl
  · rw [tk_M.m, show tk_N r 0 = 0 from if_pos (by decide)]; rfl
theorem tk_E.dig {T : Nat → Int} {n p e : Nat} (h1 : p < e) (h2 : e ≤ n) (hd : ∀ x, p ≤ x → x < e → tk_D (T x)) (he : ¬ tk_D (T e)) : tk_E T n p e := by
  refine ⟨h1, h2, fun x q1 q2 => ⟨by omega, Or.inr ⟨hd _ (by omega) (by omega), hd _ (by omega) (by omega)⟩⟩, Or.inr (fun g => ?_)⟩
  have w := hd (e - 1) (by omega) (by omega)
  rcases g.2 with g | g
  · have g := g.1
    unfold tk_L at g
    unfold tk_D at w
    omega
  · exact he g.2
theorem tk_E.let {T : Nat → Int} {n p e : Nat} (h1 : p < e) (h2 : e ≤ n) (hd : ∀ x, p ≤ x → x < e → tk_L (T x)) (he : ¬ tk_L (T e)) : tk_E T n p e := by
  refine ⟨h1, h2, fun x q1 q2 => ⟨by omega, Or.inl ⟨hd _ (by omega) (by omega), hd _ (by omega) (by omega)⟩⟩, Or.inr (fun g => ?_)⟩
  have w := hd (e - 1) (by omega) (by omega)
  rcases g.2 with g | g
  · exact he g.2
  · have g := g.1
    unfold tk_D at g
    unfold tk_L at w
    omega
theorem tk_E.sgn {T : Nat → Int} {n p : Nat} (h2 : p + 1 ≤ n) (hl : ¬ tk_L (T p)) (hd : ¬ tk_D (T p)) : tk_E T n p (p + 1) := by
  refine ⟨Nat.lt_succ_self _, h2, fun x q1 q2 => absurd q2 (by omega), Or.inr (fun g => ?_)⟩
  rcases g.2 with g | g
  · exact hl g.1
  · exact hd g.1
/-! the reference's states: before a reading of token i, at token i, behind a fault -/
def me (h : Nat) (T : Nat → Int) (n r i : Nat) (G : iv_G) : Prop := ∃ (g : Nat → Int32) (rr : Nat → Nat) (gt : Nat → Int32) (rt : Nat → Nat), G h = some (12, g, rr) ∧ G (rr 8) = some (66, gt, rt) ∧ T = tk_T gt n ∧ (g 15).toInt = (n : Int) ∧ (g 11).toInt = (r : Int) ∧ (g 16).toInt ≤ (n : Int) ∧ ((g 16).toInt = (n : Int) ∨ ¬ tk_G T (g 16).toInt.toNat) ∧ tk_c T n (g 16).toInt.toNat = i
def ms (h : Nat) (T : Nat → Int) (n : Nat) (K V P : Nat → Int) (r i : Nat) (G : iv_G) : Prop := i ≤ tk_c T n n ∧ ∃ (g : Nat → Int32) (rr : Nat → Nat) (gt : Nat → Int32) (rt : Nat → Nat), G h = some (12, g, rr) ∧ G (rr 8) = some (66, gt, rt) ∧ T = tk_T gt n ∧ (g 15).toInt = (n : Int) ∧ (g 11).toInt = (r : Int) ∧ (g 17).toInt = tk_M r (K i) ∧ (g 18).toInt = P i ∧ (K i = 2 → (g 19).toInt = V i) ∧ (i < tk_c T n n → (g 16).toInt ≤ (n : Int) ∧ ((g 16).toInt = (n : Int) ∨ ¬ tk_G T (g 16).toInt.toNat) ∧ tk_c T n (g 16).toInt.toNat = i + 1)
def mt_ (h : Nat) (P : Nat → Int) (k i : Nat) (G : iv_G) : Prop := ∃ (g : Nat → Int32) (rr : Nat → Nat), G h = some (12, g, rr) ∧ (g 20).toInt = (k : Int) ∧ (g 21).toInt = P i
theorem ms.me {h : Nat} {T : Nat → Int} {n : Nat} {K V P : Nat → Int} {r i : Nat} {G : iv_G} (s : ms h T n K V P r i G) (hi : i < tk_c T n n) : me h T n r (i + 1) G := by
  obtain ⟨_, g, rr, gt, rt, a, b, c, d, e, _, _, _, w⟩ := s
  exact ⟨g, rr, gt, rt, a, b, c, d, e, w hi⟩
theorem ms.got {h : Nat} {T : Nat → Int} {n : Nat} {K V P : Nat → Int} {r i : Nat} {G : iv_G} {g : Nat → Int32} {rr : Nat → Nat} (s : ms h T n K V P r i G) (ha : G h = some (12, g, rr)) : (g 11).toInt = (r : Int) ∧ (g 17).toInt = tk_M r (K i) ∧ (g 18).toInt = P i ∧ (K i = 2 → (g 19).toInt = V i) := by
  obtain ⟨_, g', rr', gt, rt, a, b, c, d, e, f1, f2, f3, w⟩ := s
  cases a.symm.trans ha
  exact ⟨e, f1, f2, f3⟩
/-- a number of the object is put that the tokens don't ask for -/
theorem ms.put {h : Nat} {T : Nat → Int} {n : Nat} {K V P : Nat → Int} {r i : Nat} {G : iv_G} {g : Nat → Int32} {rr : Nat → Nat} {j : Nat} {x : Int32} (s : ms h T n K V P r i G) (ha : G h = some (12, g, rr)) (hj : j ≠ 11 ∧ j ≠ 15 ∧ j ≠ 16 ∧ j ≠ 17 ∧ j ≠ 18 ∧ j ≠ 19) : ms h T n K V P r i (iv_up G h (12, upd g j x, rr)) := by
  obtain ⟨w0, g', rr', gt, rt, a, b, c, d, e, f1, f2, f3, w⟩ := s
  cases a.symm.trans ha
  have q : ∀ m : Nat, j ≠ m → upd g j x m = g m := fun m hm => if_neg (fun e => hm e.symm)
  refine ⟨w0, upd g j x, rr, gt, rt, iv_up_eq, ?_, c, ?_⟩
  · by_cases e8 : rr 8 = h
    · rw [e8] at b
      cases ha.symm.trans b
    · rw [iv_up_ne e8]
      exact b
  · rw [q 11 hj.1, q 15 hj.2.1, q 16 hj.2.2.1, q 17 hj.2.2.2.1, q 18 hj.2.2.2.2.1, q 19 hj.2.2.2.2.2]
    exact ⟨d, e, f1, f2, f3, w⟩
theorem ms.oth {h b : Nat} {T : Nat → Int} {n : Nat} {K V P : Nat → Int} {r i : Nat} {G : iv_G} {cb : Nat} {gb : Nat → Int32} {rb : Nat → Nat} {k : iv_K} (s : ms h T n K V P r i G) (hb : G b = some (cb, gb, rb)) (hc : cb ≠ 12 ∧ cb ≠ 66) : ms h T n K V P r i (iv_up G b k) := by
  obtain ⟨w0, g', rr', gt, rt, a, b', c⟩ := s
  refine ⟨w0, g', rr', gt, rt, ?_, ?_, c⟩
  · by_cases e : h = b
    · rw [← e, a] at hb
      cases hb
      exact absurd rfl hc.1
    · rw [iv_up_ne e]
      exact a
  · by_cases e : rr' 8 = b
    · rw [← e, b'] at hb
      cases hb
      exact absurd rfl hc.2
    · rw [iv_up_ne e]
      exact b'
theorem ms.lay {h : Nat} {T : Nat → Int} {n : Nat} {K V P : Nat → Int} {r i : Nat} {G G' : iv_G} {k v : Int32} {R : iv_K → iv_K → Prop} {S : List Nat} (s : ms h T n K V P r i G) (ly : iv_ly h k v G G') (hm : iv_mod R S G G') (hS : 66 ∉ S) (hx : ∀ (g : Nat → Int32) (rr : Nat → Nat), G h = some (12, g, rr) → ∃ (f : Nat → Int32) (q : Nat → Nat), G (rr 6) = some (64, f, q)) : ms h T n K V P r i G' := by
  obtain ⟨w0, g, rr, gt, rt, a, b, c, d, e, f1, f2, f3, w⟩ := s
  obtain ⟨f, q, hf⟩ := hx g rr a
  obtain ⟨x, f', ex, c2, _⟩ := ly g rr f q a hf
  have u : ∀ m : Nat, m ≠ 13 → upd g 13 x m = g m := fun m hm => if_neg hm
  refine ⟨w0, _, rr, gt, rt, c2, hm.at b hS, c, ?_⟩
  rw [u 11 (by decide), u 15 (by decide), u 16 (by decide), u 17 (by decide), u 18 (by decide), u 19 (by decide)]
  exact ⟨d, e, f1, f2, f3, w⟩
theorem mt_.put {h : Nat} {P : Nat → Int} {k i : Nat} {G : iv_G} {g : Nat → Int32} {rr : Nat → Nat} {j : Nat} {x : Int32} (s : mt_ h P k i G) (ha : G h = some (12, g, rr)) (hj : j ≠ 20 ∧ j ≠ 21) : mt_ h P k i (iv_up G h (12, upd g j x, rr)) := by
  obtain ⟨g', rr', a, b, c⟩ := s
  cases a.symm.trans ha
  have q : ∀ m : Nat, j ≠ m → upd g j x m = g m := fun m hm => if_neg (fun e => hm e.symm)
  refine ⟨upd g j x, rr, iv_up_eq, ?_⟩
  rw [q 20 hj.1, q 21 hj.2]
  exact ⟨b, c⟩
/-- a token that begins at p and ends at e is read -/
theorem ms.mk {h : Nat} {T : Nat → Int} {n : Nat} {K V P : Nat → Int} {r i : Nat} {G : iv_G} {g : Nat → Int32} {rr : Nat → Nat} {gt : Nat → Int32} {rt : Nat → Nat} {p e : Nat} (hR : tk_R T n K V P) (a : G h = some (12, g, rr)) (b : G (rr 8) = some (66, gt, rt)) (c : T = tk_T gt n) (d : (g 15).toInt = (n : Int)) (f : (g 11).toInt = (r : Int)) (hP : tk_P T n i p) (hn : p < n) (hE : tk_E T n p e) (e18 : (g 18).toInt = (p : Int)) (e16 : (g 16).toInt = (e : Int)) (hk : ∀ k v, tk_KV T p e k v → (g 17).toInt = tk_M r k ∧ (k = 2 → (g 19).toInt = v)) : ms h T n K V P r i G := by
  have hS : tk_S T n p := hP.2.resolve_right (by omega)
  have hc := hP.1
  have w := hR.1 p e hS hE
  rw [hc] at w
  have k9 := hk _ _ w.1
  have m := tk_c.mono (T := T) (n := n) (show p + 1 ≤ n by omega)
  rw [tk_c.ok hS] at m
  have n16 : (g 16).toInt.toNat = e := by omega
  refine ⟨by omega, g, rr, gt, rt, a, b, c, d, f, k9.1, e18.trans w.2.symm, k9.2, fun _ => ⟨by rw [e16]; have := hE.2.1; omega, ?_, ?_⟩⟩
  · rw [n16, e16]
    rcases hE.2.2.2 with q | q
    · exact Or.inl (by omega)
    · exact Or.inr q
  · rw [n16, tk_E.cnt hS hE, hc]
theorem ms.end {h : Nat} {T : Nat → Int} {n : Nat} {K V P : Nat → Int} {r i : Nat} {G : iv_G} {g : Nat → Int32} {rr : Nat → Nat} {gt : Nat → Int32} {rt : Nat → Nat} (hR : tk_R T n K V P) (a : G h = some (12, g, rr)) (b : G (rr 8) = some (66, gt, rt)) (c : T = tk_T gt n) (d : (g 15).toInt = (n : Int)) (f : (g 11).toInt = (r : Int)) (hP : tk_P T n i n) (e18 : (g 18).toInt = (n : Int)) (e17 : (g 17).toInt = 0) : ms h T n K V P r i G := by
  have hi : tk_c T n n = i := hP.1
  have k0 : K i = 0 := by rw [← hi]; exact hR.2.1
  refine ⟨by omega, g, rr, gt, rt, a, b, c, d, f, ?_, ?_, fun q => ?_, fun q => absurd q (by omega)⟩
  · rw [k0, e17, tk_M.two.2.2]
  · rw [e18, ← hi]
    exact hR.2.2.symm
  · rw [k0] at q
    exact absurd q (by decide)
