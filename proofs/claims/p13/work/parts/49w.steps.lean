/-! the automaton's steps as the reference's codes tell them -/
def tm_SG (m : Int) : Prop := m = 142 ∨ m = 143 ∨ m = 145 ∨ m = 147
section
variable {r n : Nat} {K V : Nat → Int} {i l c d b : Nat} {st : List Nat}
theorem mu_ok (hk : tk_kd (K i)) (h : tk_at r n K V i (.unit l c d st)) (u : tk_M r (K i) = 2 ∨ (41 ≤ tk_M r (K i) ∧ tk_M r (K i) ≤ 51)) : tk_cf r n K V (i + 1) = .aft l c d st := by
  have w := tk_M.tab (r := r) hk
  unfold tk_mt at w
  exact h.trans (if_pos (by omega))
theorem mu_no (hk : tk_kd (K i)) (h : tk_at r n K V i (.unit l c d st)) (u : ¬ (tk_M r (K i) = 2 ∨ (41 ≤ tk_M r (K i) ∧ tk_M r (K i) ≤ 51))) : tk_F r n K V i 1 := by
  have w := tk_M.tab (r := r) hk
  unfold tk_mt at w
  exact h.trans (if_neg (by omega))
theorem ma_sum (hk : tk_kd (K i)) (h : tk_cf r n K V i = .aft l c d st) (u : tk_M r (K i) = 143 ∨ tk_M r (K i) = 145 ∨ tk_M r (K i) = 142) : tk_cf r n K V (i + 1) = .unit l c d st := by
  have w := tk_M.tab (r := r) hk
  unfold tk_mt at w
  exact (tk_at.of h).trans (if_pos (by omega))
theorem ma_part (hk : tk_kd (K i)) (h : tk_cf r n K V i = .aft l c d st) (u : tk_M r (K i) = 147) : tk_cf r n K V (i + 1) = .part l c d st := by
  have w := tk_M.tab (r := r) hk
  unfold tk_mt at w
  exact (tk_at.of h).trans ((if_neg (by omega)).trans (if_pos (by omega)))
theorem mp_ok (hk : tk_kd (K i)) (h : tk_cf r n K V i = .part l c d st) (u : tk_M r (K i) = 2) (v1 : 1 ≤ V i) (v2 : V i ≤ 9999) : tk_cf r n K V (i + 1) = .aft l c d st := by
  have w := tk_M.tab (r := r) hk
  unfold tk_mt at w
  exact (tk_at.of h).trans ((if_neg (by omega)).trans (if_neg (by omega)))
theorem mp_no (hk : tk_kd (K i)) (h : tk_cf r n K V i = .part l c d st) (u : ¬ tk_M r (K i) = 2) : tk_F r n K V i 1 := by
  have w := tk_M.tab (r := r) hk
  unfold tk_mt at w
  exact (tk_at.of h).trans (if_pos (by omega))
theorem mp_out (hk : tk_kd (K i)) (h : tk_cf r n K V i = .part l c d st) (u : tk_M r (K i) = 2) (v : V i < 1 ∨ 9999 < V i) : tk_F r n K V i 2 := by
  have w := tk_M.tab (r := r) hk
  unfold tk_mt at w
  exact (tk_at.of h).trans ((if_neg (by omega)).trans (if_pos v))
theorem ml_cmp (hk : tk_kd (K i)) (h : tk_cf r n K V i = .aft l 1 d st) (u : tk_M r (K i) = 160 ∨ tk_M r (K i) = 161 ∨ tk_M r (K i) = 162) : tk_cf r n K V (i + 1) = .unit l 2 d st := by
  have w := tk_M.tab (r := r) hk
  unfold tk_mt at w
  exact (tk_at.of h).trans ((if_neg (show ¬ (tk_N r (K i) = 43 ∨ tk_N r (K i) = 45 ∨ tk_N r (K i) = 42) by omega)).trans ((if_neg (show ¬ tk_N r (K i) = 47 by omega)).trans ((if_neg (by decide)).trans ((if_pos rfl).trans (if_pos (by omega))))))
theorem ml_no (hk : tk_kd (K i)) (h : tk_cf r n K V i = .aft l 1 d st) (u : ¬ tm_SG (tk_M r (K i))) (w9 : ¬ (tk_M r (K i) = 160 ∨ tk_M r (K i) = 161 ∨ tk_M r (K i) = 162)) : tk_F r n K V i 1 := by
  have w := tk_M.tab (r := r) hk
  unfold tk_mt at w
  unfold tm_SG at u
  exact (tk_at.of h).trans ((if_neg (show ¬ (tk_N r (K i) = 43 ∨ tk_N r (K i) = 45 ∨ tk_N r (K i) = 42) by omega)).trans ((if_neg (show ¬ tk_N r (K i) = 47 by omega)).trans ((if_neg (by decide)).trans ((if_pos rfl).trans (if_neg (by omega))))))
theorem ml_end (hk : tk_kd (K i)) (h : tk_cf r n K V i = .aft l 2 d st) (u : ¬ tm_SG (tk_M r (K i))) : tk_cl r n K V i l st := by
  have w := tk_M.tab (r := r) hk
  unfold tk_mt at w
  unfold tm_SG at u
  exact (tk_at.of h).trans ((if_neg (show ¬ (tk_N r (K i) = 43 ∨ tk_N r (K i) = 45 ∨ tk_N r (K i) = 42) by omega)).trans ((if_neg (show ¬ tk_N r (K i) = 47 by omega)).trans ((if_neg (show ¬ (2 : Nat) = 0 by decide)).trans (if_neg (show ¬ (2 : Nat) = 1 by decide)))))
theorem mn_on (hk : tk_kd (K i)) (h : tk_at r n K V i (.claim l d st)) (u : tk_M r (K i) = 6) (hd : d < 8) : tk_cf r n K V (i + 1) = .claim l (d + 1) st := by
  have w := tk_M.tab (r := r) hk
  unfold tk_mt at w
  exact h.trans ((if_pos (by omega)).trans (if_neg (by omega)))
theorem mn_par (hk : tk_kd (K i)) (h : tk_at r n K V i (.claim l d st)) (u : tk_M r (K i) = 140) (hd : d < 8) : tk_cf r n K V (i + 1) = .claim l (d + 1) ((d + 1) :: st) := by
  have w := tk_M.tab (r := r) hk
  unfold tk_mt at w
  exact h.trans ((if_neg (by omega)).trans ((if_pos (by omega)).trans (if_neg (by omega))))
theorem mn_deep (hk : tk_kd (K i)) (h : tk_at r n K V i (.claim l d st)) (u : tk_M r (K i) = 6 ∨ tk_M r (K i) = 140) (hd : 8 ≤ d) : tk_F r n K V i 3 := by
  have w := tk_M.tab (r := r) hk
  unfold tk_mt at w
  rcases u with u | u
  · exact h.trans ((if_pos (by omega)).trans (if_pos hd))
  · exact h.trans ((if_neg (by omega)).trans ((if_pos (by omega)).trans (if_pos hd)))
theorem mn_sum (hk : tk_kd (K i)) (h : tk_at r n K V i (.claim l d st)) (u : ¬ tk_M r (K i) = 6) (w9 : ¬ tk_M r (K i) = 140) : tk_at r n K V i (.unit l 1 d st) := by
  have w := tk_M.tab (r := r) hk
  unfold tk_mt at w
  exact h.trans ((if_neg (by omega)).trans (if_neg (by omega)))
theorem mj_on (hk : tk_kd (K i)) (h : tk_cl r n K V i l (b :: st)) (u : tk_M r (K i) = 4 ∨ tk_M r (K i) = 5) : tk_cf r n K V (i + 1) = .claim l b (b :: st) := by
  have w := tk_M.tab (r := r) hk
  unfold tk_mt at w
  cases st with
  | nil => exact h.trans (if_pos (by omega))
  | cons c st => exact h.trans (if_pos (by omega))
theorem mj_par (hk : tk_kd (K i)) (h : tk_cl r n K V i l (b :: c :: st)) (u : tk_M r (K i) = 141) : tk_cl r n K V (i + 1) l (c :: st) := by
  have w := tk_M.tab (r := r) hk
  unfold tk_mt at w
  have h2 : tk_cf r n K V (i + 1) = .done l (c :: st) := h.trans ((if_neg (by omega)).trans (if_pos (by omega)))
  exact tk_at.of h2
theorem mj_no (hk : tk_kd (K i)) (h : tk_cl r n K V i l (b :: c :: st)) (u : ¬ (tk_M r (K i) = 4 ∨ tk_M r (K i) = 5)) (w9 : ¬ tk_M r (K i) = 141) : tk_F r n K V i 1 := by
  have w := tk_M.tab (r := r) hk
  unfold tk_mt at w
  exact h.trans ((if_neg (by omega)).trans (if_neg (by omega)))
theorem mj_semi (hk : tk_kd (K i)) (h : tk_cl r n K V i l ([b])) (u : tk_M r (K i) = 159) : tk_cf r n K V (i + 1) = .head (l + 1) := by
  have w := tk_M.tab (r := r) hk
  unfold tk_mt at w
  exact h.trans ((if_neg (by omega)).trans (if_pos (by omega)))
theorem mj_none (hk : tk_kd (K i)) (h : tk_cl r n K V i l ([b])) (u : ¬ (tk_M r (K i) = 4 ∨ tk_M r (K i) = 5)) (w9 : ¬ tk_M r (K i) = 159) : tk_F r n K V i 1 := by
  have w := tk_M.tab (r := r) hk
  unfold tk_mt at w
  exact h.trans ((if_neg (by omega)).trans (if_neg (by omega)))
theorem mh_t (hr : r = 1 ∨ r = 2) {k : Int} (u : 131 ≤ tk_N r k ∧ tk_N r k ≤ 133) : (if r = 1 then tk_N r k = 131 else tk_N r k = 132 ∨ tk_N r k = 133) := by
  rcases hr with q | q
  · subst q
    have w := tk_N.r1 (k := k)
    exact (if_pos rfl).mpr (by omega)
  · subst q
    have w := tk_N.r2 (k := k)
    exact (if_neg (show ¬ (2 : Nat) = 1 by decide)).mpr (by omega)
theorem mh_n {k : Int} (u : ¬ (131 ≤ tk_N r k ∧ tk_N r k ≤ 133)) : ¬ (if r = 1 then tk_N r k = 131 else tk_N r k = 132 ∨ tk_N r k = 133) := by
  by_cases q : r = 1
  · rw [if_pos q]
    omega
  · rw [if_neg q]
    omega
theorem mh_ok (hk : tk_kd (K i)) (hr : r = 1 ∨ r = 2) (h : tk_cf r n K V i = .head l) (u : 20 ≤ tk_M r (K i) ∧ tk_M r (K i) ≤ 22) (hl : l < 16) : tk_cf r n K V (i + 1) = .unit l 0 0 [] := by
  have w := tk_M.tab (r := r) hk
  unfold tk_mt at w
  exact (tk_at.of h).trans ((if_neg (by omega)).trans ((if_neg (fun q => q (mh_t hr (by omega)))).trans (if_neg (by omega))))
theorem mh_many (hk : tk_kd (K i)) (hr : r = 1 ∨ r = 2) (h : tk_cf r n K V i = .head l) (u : 20 ≤ tk_M r (K i) ∧ tk_M r (K i) ≤ 22) (hl : 16 ≤ l) : tk_F r n K V i 3 := by
  have w := tk_M.tab (r := r) hk
  unfold tk_mt at w
  exact (tk_at.of h).trans ((if_neg (by omega)).trans ((if_neg (fun q => q (mh_t hr (by omega)))).trans (if_pos hl)))
theorem mh_no (hk : tk_kd (K i)) (h : tk_cf r n K V i = .head l) (z : ¬ tk_M r (K i) = 0) (u : ¬ (20 ≤ tk_M r (K i) ∧ tk_M r (K i) ≤ 22)) : tk_F r n K V i 1 := by
  have w := tk_M.tab (r := r) hk
  unfold tk_mt at w
  exact (tk_at.of h).trans ((if_neg (by omega)).trans (if_pos (mh_n (by omega))))
theorem mh_fin (hk : tk_kd (K i)) (h : tk_cf r n K V i = .head l) (z : tk_M r (K i) = 0) : tk_cf r n K V (i + 1) = .fin l := by
  have w := tk_M.tab (r := r) hk
  unfold tk_mt at w
  exact (tk_at.of h).trans (if_pos (by omega))
theorem mz_when (hk : tk_kd (K i)) (h : tk_cf r n K V i = .aft l 0 d st) (u : ¬ tm_SG (tk_M r (K i))) (w9 : tk_M r (K i) = 3) : tk_cf r n K V (i + 1) = .claim l 0 [0] := by
  have w := tk_M.tab (r := r) hk
  unfold tk_mt at w
  unfold tm_SG at u
  exact (tk_at.of h).trans ((if_neg (show ¬ (tk_N r (K i) = 43 ∨ tk_N r (K i) = 45 ∨ tk_N r (K i) = 42) by omega)).trans ((if_neg (show ¬ tk_N r (K i) = 47 by omega)).trans ((if_pos rfl).trans (if_pos (by omega)))))
theorem mz_semi (hk : tk_kd (K i)) (h : tk_cf r n K V i = .aft l 0 d st) (u : ¬ tm_SG (tk_M r (K i))) (w9 : tk_M r (K i) = 159) : tk_cf r n K V (i + 1) = .head (l + 1) := by
  have w := tk_M.tab (r := r) hk
  unfold tk_mt at w
  unfold tm_SG at u
  exact (tk_at.of h).trans ((if_neg (show ¬ (tk_N r (K i) = 43 ∨ tk_N r (K i) = 45 ∨ tk_N r (K i) = 42) by omega)).trans ((if_neg (show ¬ tk_N r (K i) = 47 by omega)).trans ((if_pos rfl).trans ((if_neg (by omega)).trans (if_pos (by omega))))))
theorem mz_no (hk : tk_kd (K i)) (h : tk_cf r n K V i = .aft l 0 d st) (u : ¬ tm_SG (tk_M r (K i))) (w8 : ¬ tk_M r (K i) = 3) (w9 : ¬ tk_M r (K i) = 159) : tk_F r n K V i 1 := by
  have w := tk_M.tab (r := r) hk
  unfold tk_mt at w
  unfold tm_SG at u
  exact (tk_at.of h).trans ((if_neg (show ¬ (tk_N r (K i) = 43 ∨ tk_N r (K i) = 45 ∨ tk_N r (K i) = 42) by omega)).trans ((if_neg (show ¬ tk_N r (K i) = 47 by omega)).trans ((if_pos rfl).trans ((if_neg (by omega)).trans (if_neg (by omega))))))
theorem mq_fin (hk : tk_kd (K i)) (h : tk_cf r n K V i = .ring l 0) (z : tk_M r (K i) = 0) : tk_cf r n K V (i + 1) = .fin l := by
  have w := tk_M.tab (r := r) hk
  unfold tk_mt at w
  have e : tk_N r (K i) = 0 := by omega
  refine (tk_at.of h).trans ?_
  rw [e]
  rfl
theorem mq_no (hk : tk_kd (K i)) (h : tk_cf r n K V i = .ring l 0) (z : ¬ tk_M r (K i) = 0) (u : ¬ tk_M r (K i) = 7) : tk_F r n K V i 1 := by
  have w := tk_M.tab (r := r) hk
  unfold tk_mt at w
  exact (tk_at.of h).trans ((if_neg (by omega)).trans (if_pos (by omega)))
theorem mq_many (hk : tk_kd (K i)) (h : tk_cf r n K V i = .ring l 0) (u : tk_M r (K i) = 7) (hl : 20 ≤ l) : tk_F r n K V i 3 := by
  have w := tk_M.tab (r := r) hk
  unfold tk_mt at w
  have e : tk_N r (K i) = 128 := by omega
  refine (tk_at.of h).trans ?_
  rw [e]
  exact if_pos hl
theorem mq_ring (hk : tk_kd (K i)) (h : tk_cf r n K V i = .ring l 0) (u : tk_M r (K i) = 7) (hl : l < 20) : tk_cf r n K V (i + 1) = .ring l 1 := by
  have w := tk_M.tab (r := r) hk
  unfold tk_mt at w
  have e : tk_N r (K i) = 128 := by omega
  refine (tk_at.of h).trans ?_
  rw [e]
  exact if_neg (by omega)
theorem mq_n1 (hk : tk_kd (K i)) (h : tk_cf r n K V i = .ring l 1) (u : tk_M r (K i) = 2) (w9 : ¬ ((n : Int) ≤ V i)) : tk_cf r n K V (i + 1) = .ring l 2 := by
  have w := tk_M.tab (r := r) hk
  unfold tk_mt at w
  have e : tk_N r (K i) = 2 := by omega
  refine (tk_at.of h).trans ?_
  rw [e]
  exact if_neg (fun q => w9 (by rcases q with q | q | q <;> first | exact q.2 | exact absurd q.1 (by decide)))
theorem mq_b1 (hk : tk_kd (K i)) (h : tk_cf r n K V i = .ring l 1) (u : tk_M r (K i) = 2) (w9 : (n : Int) ≤ V i) : tk_F r n K V i 2 := by
  have w := tk_M.tab (r := r) hk
  unfold tk_mt at w
  have e : tk_N r (K i) = 2 := by omega
  refine (tk_at.of h).trans ?_
  rw [e]
  exact if_pos (by first | exact Or.inl ⟨rfl, w9⟩ | exact Or.inr (Or.inl ⟨rfl, w9⟩) | exact Or.inr (Or.inr ⟨rfl, w9⟩))
theorem mq_x1 (hk : tk_kd (K i)) (h : tk_cf r n K V i = .ring l 1) (u : ¬ tk_M r (K i) = 2) : tk_F r n K V i 1 := by
  have w := tk_M.tab (r := r) hk
  unfold tk_mt at w
  exact (tk_at.of h).trans (if_pos (by omega))
theorem mq_n3 (hk : tk_kd (K i)) (h : tk_cf r n K V i = .ring l 3) (u : tk_M r (K i) = 2) (w9 : ¬ (23 < V i)) : tk_cf r n K V (i + 1) = .ring l 4 := by
  have w := tk_M.tab (r := r) hk
  unfold tk_mt at w
  have e : tk_N r (K i) = 2 := by omega
  refine (tk_at.of h).trans ?_
  rw [e]
  exact if_neg (fun q => w9 (by rcases q with q | q | q <;> first | exact q.2 | exact absurd q.1 (by decide)))
theorem mq_b3 (hk : tk_kd (K i)) (h : tk_cf r n K V i = .ring l 3) (u : tk_M r (K i) = 2) (w9 : 23 < V i) : tk_F r n K V i 2 := by
  have w := tk_M.tab (r := r) hk
  unfold tk_mt at w
  have e : tk_N r (K i) = 2 := by omega
  refine (tk_at.of h).trans ?_
  rw [e]
  exact if_pos (by first | exact Or.inl ⟨rfl, w9⟩ | exact Or.inr (Or.inl ⟨rfl, w9⟩) | exact Or.inr (Or.inr ⟨rfl, w9⟩))
theorem mq_x3 (hk : tk_kd (K i)) (h : tk_cf r n K V i = .ring l 3) (u : ¬ tk_M r (K i) = 2) : tk_F r n K V i 1 := by
  have w := tk_M.tab (r := r) hk
  unfold tk_mt at w
  exact (tk_at.of h).trans (if_pos (by omega))
theorem mq_n5 (hk : tk_kd (K i)) (h : tk_cf r n K V i = .ring l 5) (u : tk_M r (K i) = 2) (w9 : ¬ ((V i < 1 ∨ 24 < V i))) : tk_cf r n K V (i + 1) = .ring l 6 := by
  have w := tk_M.tab (r := r) hk
  unfold tk_mt at w
  have e : tk_N r (K i) = 2 := by omega
  refine (tk_at.of h).trans ?_
  rw [e]
  exact if_neg (fun q => w9 (by rcases q with q | q | q <;> first | exact q.2 | exact absurd q.1 (by decide)))
theorem mq_b5 (hk : tk_kd (K i)) (h : tk_cf r n K V i = .ring l 5) (u : tk_M r (K i) = 2) (w9 : (V i < 1 ∨ 24 < V i)) : tk_F r n K V i 2 := by
  have w := tk_M.tab (r := r) hk
  unfold tk_mt at w
  have e : tk_N r (K i) = 2 := by omega
  refine (tk_at.of h).trans ?_
  rw [e]
  exact if_pos (by first | exact Or.inl ⟨rfl, w9⟩ | exact Or.inr (Or.inl ⟨rfl, w9⟩) | exact Or.inr (Or.inr ⟨rfl, w9⟩))
theorem mq_x5 (hk : tk_kd (K i)) (h : tk_cf r n K V i = .ring l 5) (u : ¬ tk_M r (K i) = 2) : tk_F r n K V i 1 := by
  have w := tk_M.tab (r := r) hk
  unfold tk_mt at w
  exact (tk_at.of h).trans (if_pos (by omega))
theorem mq_w2 (hk : tk_kd (K i)) (h : tk_cf r n K V i = .ring l 2) (u : tk_M r (K i) = 8) : tk_cf r n K V (i + 1) = .ring l 3 := by
  have w := tk_M.tab (r := r) hk
  unfold tk_mt at w
  have e : tk_N r (K i) = 129 := by omega
  refine (tk_at.of h).trans ?_
  rw [e]
  rfl
theorem mq_y2 (hk : tk_kd (K i)) (h : tk_cf r n K V i = .ring l 2) (u : ¬ tk_M r (K i) = 8) : tk_F r n K V i 1 := by
  have w := tk_M.tab (r := r) hk
  unfold tk_mt at w
  exact (tk_at.of h).trans (if_neg (by omega))
theorem mq_w4 (hk : tk_kd (K i)) (h : tk_cf r n K V i = .ring l 4) (u : tk_M r (K i) = 9) : tk_cf r n K V (i + 1) = .ring l 5 := by
  have w := tk_M.tab (r := r) hk
  unfold tk_mt at w
  have e : tk_N r (K i) = 130 := by omega
  refine (tk_at.of h).trans ?_
  rw [e]
  rfl
theorem mq_y4 (hk : tk_kd (K i)) (h : tk_cf r n K V i = .ring l 4) (u : ¬ tk_M r (K i) = 9) : tk_F r n K V i 1 := by
  have w := tk_M.tab (r := r) hk
  unfold tk_mt at w
  exact (tk_at.of h).trans (if_neg (by omega))
theorem mq_w6 (hk : tk_kd (K i)) (h : tk_cf r n K V i = .ring l 6) (u : tk_M r (K i) = 159) : tk_cf r n K V (i + 1) = .ring (l + 1) 0 := by
  have w := tk_M.tab (r := r) hk
  unfold tk_mt at w
  have e : tk_N r (K i) = 59 := by omega
  refine (tk_at.of h).trans ?_
  rw [e]
  rfl
theorem mq_y6 (hk : tk_kd (K i)) (h : tk_cf r n K V i = .ring l 6) (u : ¬ tk_M r (K i) = 159) : tk_F r n K V i 1 := by
  have w := tk_M.tab (r := r) hk
  unfold tk_mt at w
  exact (tk_at.of h).trans (if_neg (by omega))
end
/-- a state of the reference's reading with its depth -/
def md (h : Nat) (dp : Nat) (G : iv_G) : Prop := ∃ (g : Nat → Int32) (rr : Nat → Nat), G h = some (12, g, rr) ∧ (dp ≤ 8 → (g 23).toInt = (dp : Int)) ∧ g 22 = 0 ∧ g 24 = -1
def mw (h : Nat) (T : Nat → Int) (n : Nat) (K V P : Nat → Int) (r dp i : Nat) (G : iv_G) : Prop := ms h T n K V P r i G ∧ md h dp G
theorem md.keep {h dp : Nat} {G G' : iv_G} {S : List Nat} (s : md h dp G) (hm : iv_Md S G G') : md h dp G' := by
  obtain ⟨g, rr, a, b⟩ := s
  obtain ⟨g', r', a', f⟩ := hm.ex a
  exact ⟨g', r', a', fun q => by rw [show g' 23 = g 23 from f.2.1 23 (show (23 : Nat) ∈ iv_stab 12 from by decide)]; exact b.1 q, (f.2.1 22 (show (22 : Nat) ∈ iv_stab 12 from by decide)).trans b.2.1, (f.2.1 24 (show (24 : Nat) ∈ iv_stab 12 from by decide)).trans b.2.2⟩
theorem md.val {h dp : Nat} {G : iv_G} {g : Nat → Int32} {rr : Nat → Nat} (s : md h dp G) (ha : G h = some (12, g, rr)) (hd : dp ≤ 8) : (g 23).toInt = (dp : Int) := by
  obtain ⟨g', r', a, b⟩ := s
  cases a.symm.trans ha
  exact b.1 hd
theorem md.flt {h dp : Nat} {G : iv_G} {g : Nat → Int32} {rr : Nat → Nat} (s : md h dp G) (ha : G h = some (12, g, rr)) : g 22 = 0 ∧ g 24 = -1 := by
  obtain ⟨g', r', a, b⟩ := s
  cases a.symm.trans ha
  exact b.2
theorem md.put {h dp : Nat} {G : iv_G} {g : Nat → Int32} {rr : Nat → Nat} {j : Nat} {x : Int32} (s : md h dp G) (ha : G h = some (12, g, rr)) (hj : j ≠ 23 ∧ j ≠ 22 ∧ j ≠ 24) : md h dp (iv_up G h (12, upd g j x, rr)) := by
  obtain ⟨g', r', a, b⟩ := s
  cases a.symm.trans ha
  exact ⟨_, _, iv_up_eq, fun q => by rw [show upd g j x 23 = g 23 from if_neg (fun e => hj.1 e.symm)]; exact b.1 q, (show upd g j x 22 = g 22 from if_neg (fun e => hj.2.1 e.symm)).trans b.2.1, (show upd g j x 24 = g 24 from if_neg (fun e => hj.2.2 e.symm)).trans b.2.2⟩
theorem md.oth {h b dp : Nat} {G : iv_G} {cb : Nat} {gb : Nat → Int32} {rb : Nat → Nat} {k : iv_K} (s : md h dp G) (hb : G b = some (cb, gb, rb)) (hc : cb ≠ 12) : md h dp (iv_up G b k) := by
  obtain ⟨g', r', a, c⟩ := s
  by_cases e : h = b
  · rw [← e, a] at hb
    cases hb
    exact absurd rfl hc
  · exact ⟨g', r', by rw [iv_up_ne e]; exact a, c⟩
section
variable {h : Nat} {T : Nat → Int} {n : Nat} {K V P : Nat → Int} {r dp i : Nat} {G G' : iv_G}
theorem mw.put {g : Nat → Int32} {rr : Nat → Nat} {j : Nat} {x : Int32} (s : mw h T n K V P r dp i G) (ha : G h = some (12, g, rr)) (hj : j ≠ 11 ∧ j ≠ 15 ∧ j ≠ 16 ∧ j ≠ 17 ∧ j ≠ 18 ∧ j ≠ 19 ∧ j ≠ 23 ∧ j ≠ 22 ∧ j ≠ 24) : mw h T n K V P r dp i (iv_up G h (12, upd g j x, rr)) := ⟨s.1.put ha ⟨hj.1, hj.2.1, hj.2.2.1, hj.2.2.2.1, hj.2.2.2.2.1, hj.2.2.2.2.2.1⟩, s.2.put ha hj.2.2.2.2.2.2⟩
theorem mw.oth {b cb : Nat} {gb : Nat → Int32} {rb : Nat → Nat} {k : iv_K} (s : mw h T n K V P r dp i G) (hb : G b = some (cb, gb, rb)) (hc : cb ≠ 12 ∧ cb ≠ 66) : mw h T n K V P r dp i (iv_up G b k) := ⟨s.1.oth hb hc, s.2.oth hb hc.1⟩
theorem mw.dep {g : Nat → Int32} {rr : Nat → Nat} {x : Int32} {dq : Nat} (s : mw h T n K V P r dp i G) (ha : G h = some (12, g, rr)) (hx : x.toInt = (dq : Int)) : mw h T n K V P r dq i (iv_up G h (12, upd g 23 x, rr)) := ⟨s.1.put ha (by decide), _, _, iv_up_eq, fun _ => by rw [show upd g 23 x 23 = x from if_pos rfl]; exact hx, (show upd g 23 x 22 = g 22 from if_neg (by decide)).trans (s.2.flt ha).1, (show upd g 23 x 24 = g 24 from if_neg (by decide)).trans (s.2.flt ha).2⟩
theorem mw.lay {k v : Int32} {R : iv_K → iv_K → Prop} {S : List Nat} (s : mw h T n K V P r dp i G) (ly : iv_ly h k v G G') (hm : iv_mod R S G G') (hS : 66 ∉ S) {g : Nat → Int32} {rr : Nat → Nat} (ha : G h = some (12, g, rr)) (hx : ∃ (f : Nat → Int32) (q : Nat → Nat), G (rr 6) = some (64, f, q)) : mw h T n K V P r dp i G' := by
  refine ⟨s.1.lay ly hm hS (fun g8 r8 a8 => by cases ha.symm.trans a8; exact hx), ?_⟩
  obtain ⟨f, q, hf⟩ := hx
  obtain ⟨x, f', ex, c2, _⟩ := ly _ _ f q ha hf
  exact ⟨_, _, c2, fun q => by rw [show upd g 13 x 23 = g 23 from if_neg (by decide)]; exact s.2.val ha q, (show upd g 13 x 22 = g 22 from if_neg (by decide)).trans (s.2.flt ha).1, (show upd g 13 x 24 = g 24 from if_neg (by decide)).trans (s.2.flt ha).2⟩
theorem mw.next {S : List Nat} (s : mw h T n K V P r dp i G) (hm : iv_Md S G G') {j : Nat} (x : ms h T n K V P r j G') : mw h T n K V P r dp j G' := ⟨x, s.2.keep hm⟩
theorem mw.lt (s : mw h T n K V P r dp i G) (hR : tk_R T n K V P) (q : ¬ tk_M r (K i) = 0) : i < tk_c T n n := by
  rcases Nat.lt_or_eq_of_le s.1.1 with w | w
  · exact w
  · rw [w, hR.2.1, tk_M.two.2.2] at q
    exact absurd rfl q
theorem mw.kd (s : mw h T n K V P r dp i G) (hR : tk_R T n K V P) : tk_kd (K i) := hR.kd s.1.1
theorem mw.tok (s : mw h T n K V P r dp i G) {g : Nat → Int32} {rr : Nat → Nat} (ha : G h = some (12, g, rr)) : (g 17).toInt = tk_M r (K i) := (s.1.got ha).2.1
theorem mw.val (s : mw h T n K V P r dp i G) (hR : tk_R T n K V P) {g : Nat → Int32} {rr : Nat → Nat} (ha : G h = some (12, g, rr)) (q : tk_M r (K i) = 2) : (g 19).toInt = V i ∧ 0 ≤ V i ∧ V i ≤ 9999 := by
  have w := tk_M.tab (r := r) (s.kd hR)
  unfold tk_mt at w
  have k2 := tk_N.two (r := r) (show tk_N r (K i) = 2 by omega)
  exact ⟨(s.1.got ha).2.2.2 k2, hR.nb s.1.1 k2⟩
end
/-- how a reading method of the reference ends: v tells whether well -/
def qm (h : Nat) (T : Nat → Int) (n : Nat) (K V P : Nat → Int) (r nb dp j : Nat) (Q : Nat → Prop) (v : Int32) (G : iv_G) : Prop := (¬ v = 0 → ∃ i : Nat, j ≤ i ∧ mw h T n K V P r dp i G ∧ Q i) ∧ (v = 0 → ∃ i k : Nat, tk_F r nb K V i k ∧ mt_ h P k i G)
