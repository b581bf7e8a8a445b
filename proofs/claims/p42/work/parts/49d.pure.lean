/-! the peals of the class and of the reference are the same: tables, paths, answers (no program here) -/
theorem pe_b1 : ∀ s : Fin 9, ∀ R : Fin 256, ∀ i : Fin 8, i.val < s.val → R.val < 2 ^ s.val → (((2 ^ s.val - 1) ^^^ R.val) / 2 ^ i.val % 2 = 0 ↔ R.val / 2 ^ i.val % 2 = 1) := by decide +kernel
theorem pe_b2 : ∀ s : Fin 9, ∀ R : Fin 256, R.val < 2 ^ s.val → (2 ^ s.val - 1) ^^^ R.val < 2 ^ s.val ∧ ((2 ^ s.val - 1) ^^^ R.val = 2 ^ s.val - 1 → R.val = 0) := by decide +kernel
theorem pe_b3 : ∀ s : Fin 9, ∀ R : Fin 256, ∀ i : Fin 8, i.val < s.val → R.val < 2 ^ s.val → R.val / 2 ^ i.val % 2 = 1 → (2 ^ s.val - 1) ^^^ (R.val ^^^ 2 ^ i.val) = ((2 ^ s.val - 1) ^^^ R.val) ||| 2 ^ i.val := by decide +kernel
theorem pe_b4 : ∀ R : Fin 256, ∀ i : Fin 8, R.val / 2 ^ i.val % 2 = 1 → iv_pcb (R.val ^^^ 2 ^ i.val) + 1 = iv_pcb R.val := by decide +kernel
theorem pe_b5 : ∀ R : Fin 256, iv_pcb R.val ≤ 8 := by decide +kernel
theorem pe_b6 : ∀ R : Fin 256, iv_pcb R.val = 0 → R.val = 0 := by decide +kernel
def pe_li (K : Nat) : Int := if K = 8 then -1 else (K : Int)
theorem pe_li.of {K : Nat} (h : K < 8) : pe_li K = (K : Int) := if_neg (by omega)
def pe_FC (gp u : Nat → Int32) (m : Int32) (gy : Nat → Int32) (s : Nat) : Prop := ∀ R L : Nat, R < 2 ^ s → L < s → gy (R * 8 + L) = cp_val gp u m gy s R (L : Int)
def pe_FR (gp gw : Nat → Int32) (s : Nat) (go : Nat → Int32) : Prop := ∀ S L : Nat, S < 2 ^ s → L ≤ 8 → iv_PX gp gw s go S L
def pe_U (gp u gq gw : Nat → Int32) (s : Nat) : Prop := ∀ i, i < s → u (gp i).toInt.toNat = gw (66 + 8 * (gq i).toInt.toNat + 1)
theorem pe_p2 {s : Nat} (hs : s ≤ 8) : 2 ^ s ≤ 256 := Nat.pow_le_pow_right (n := 2) (by decide) hs
section
variable {gp u gq gw gy go : Nat → Int32} {m : Int32} {s : Nat}
theorem pe_CF (hs : s ≤ 8) (hU : pe_U gp u gq gw s) (hm : m = gw 147) {R i K : Nat} (hR : R < 2 ^ s) (hi : i < s) (hK : K = 8 ∨ K < s) : cp_CF gp u m i (pe_li K) R ↔ iv_CF gq gw i K ((2 ^ s - 1) ^^^ R) := by
  have hp := pe_p2 hs
  have b : (((2 ^ s - 1) ^^^ R) / 2 ^ i % 2 = 0 ↔ R / 2 ^ i % 2 = 1) := pe_b1 ⟨s, by omega⟩ ⟨R, by omega⟩ ⟨i, by omega⟩ hi hR
  refine and_congr b.symm ?_
  by_cases h : K = 8
  · exact ⟨fun _ => Or.inl h, fun _ => Or.inl (if_pos h)⟩
  · have hKs : K < s := hK.resolve_left h
    have hl : pe_li K = (K : Int) := pe_li.of (by omega)
    rw [hl, show ((K : Int)).toNat = K from rfl, hU K hKs, hU i hi, cp_sym, hm]
    exact ⟨fun q => Or.inr (q.resolve_left (by omega)), fun q => Or.inr (q.resolve_left h)⟩
theorem pe_sm (hs : s ≤ 8) (hU : pe_U gp u gq gw s) (hm : m = gw 147) {R K : Nat} (hR : R < 2 ^ s) (hK : K = 8 ∨ K < s) (h0 : ¬ R = 0) (hE : ∀ i, i < s → cp_CF gp u m i (pe_li K) R → gy ((R ^^^ 2 ^ i) * 8 + i) = go (9 * (((2 ^ s - 1) ^^^ R) ||| 2 ^ i) + i)) : ∀ k, k ≤ s → cp_sm gp u m gy R (pe_li K) k = iv_sm gq gw s go ((2 ^ s - 1) ^^^ R) K k := by
  intro k
  induction k with
  | zero =>
    intro _
    have hp := pe_p2 hs
    have b := (pe_b2 ⟨s, by omega⟩ ⟨R, by omega⟩ hR).2
    exact (if_neg (fun q => h0 (b q))).symm
  | succ k ih =>
    intro hk
    have ih := ih (by omega)
    by_cases hc : cp_CF gp u m k (pe_li K) R
    · rw [cp_sm.ok hc, iv_sm.ok ((pe_CF hs hU hm hR (by omega) hK).mp hc), ih, hE k (by omega) hc]
    · rw [cp_sm.no hc, iv_sm.no (fun q => hc ((pe_CF hs hU hm hR (by omega) hK).mpr q)), ih]
theorem pe_one (hs : s ≤ 8) {K : Nat} : ∀ k, k ≤ s → iv_sm gq gw s go ((2 ^ s - 1) ^^^ 0) K k = 1 := by
  intro k
  induction k with
  | zero => intro _; exact if_pos (Nat.xor_zero _)
  | succ k ih =>
    intro hk
    have hp := pe_p2 hs
    have hp1 := Nat.one_le_two_pow (n := s)
    have b : (((2 ^ s - 1) ^^^ 0) / 2 ^ k % 2 = 0 ↔ 0 / 2 ^ k % 2 = 1) := pe_b1 ⟨s, by omega⟩ ⟨0, by omega⟩ ⟨k, by omega⟩ (show k < s by omega) (show 0 < 2 ^ s by omega)
    rw [iv_sm.no (fun q => by have w := b.mp q.1; rw [Nat.zero_div] at w; exact absurd w (by decide))]
    exact ih (by omega)
theorem pe_val (hs : s ≤ 8) (hU : pe_U gp u gq gw s) (hm : m = gw 147) (hC : pe_FC gp u m gy s) (hF : pe_FR gq gw s go) : ∀ n R : Nat, R < n → R < 2 ^ s → ∀ K, (K = 8 ∨ K < s) → cp_val gp u m gy s R (pe_li K) = iv_sm gq gw s go ((2 ^ s - 1) ^^^ R) K s := by
  intro n
  induction n with
  | zero => intro R h; exact absurd h (Nat.not_lt_zero _)
  | succ n ih =>
    intro R hn hR K hK
    have hp := pe_p2 hs
    by_cases h0 : R = 0
    · subst h0
      exact (if_pos rfl).trans (pe_one hs s (Nat.le_refl _)).symm
    · refine (if_neg h0).trans (pe_sm hs hU hm hR hK h0 (fun i hi hc => ?_) s (Nat.le_refl _))
      have b3 : (2 ^ s - 1) ^^^ (R ^^^ 2 ^ i) = ((2 ^ s - 1) ^^^ R) ||| 2 ^ i := pe_b3 ⟨s, by omega⟩ ⟨R, by omega⟩ ⟨i, by omega⟩ hi hR hc.1
      have hlt := hc.dec (by omega) (by omega)
      have hR' : R ^^^ 2 ^ i < 2 ^ s := by omega
      have e := ih (R ^^^ 2 ^ i) (by omega) hR' i (Or.inr hi)
      rw [pe_li.of (by omega)] at e
      have b2 : (2 ^ s - 1) ^^^ (R ^^^ 2 ^ i) < 2 ^ s := (pe_b2 ⟨s, by omega⟩ ⟨R ^^^ 2 ^ i, by omega⟩ hR').1
      rw [hC (R ^^^ 2 ^ i) i hR' hi, ← b3, e]
      exact ((hF _ i b2 (by omega)).1 (Or.inr hi)).symm
theorem pe_go (hs : s ≤ 8) (hU : pe_U gp u gq gw s) (hm : m = gw 147) (hC : pe_FC gp u m gy s) (hF : pe_FR gq gw s go) {R L : Nat} (hR : R < 2 ^ s) (hL : L < s) : gy (R * 8 + L) = go (9 * ((2 ^ s - 1) ^^^ R) + L) := by
  have hp := pe_p2 hs
  have e := pe_val hs hU hm hC hF (R + 1) R (Nat.lt_succ_self _) hR L (Or.inr hL)
  rw [pe_li.of (by omega)] at e
  have b2 : (2 ^ s - 1) ^^^ R < 2 ^ s := (pe_b2 ⟨s, by omega⟩ ⟨R, by omega⟩ hR).1
  rw [hC R L hR hL, e]
  exact ((hF _ L b2 (by omega)).1 (Or.inr hL)).symm
theorem pe_top (hs : s ≤ 8) (hU : pe_U gp u gq gw s) (hm : m = gw 147) (hC : pe_FC gp u m gy s) (hF : pe_FR gq gw s go) : cp_val gp u m gy s (2 ^ s - 1) (-1) = go 8 := by
  have hp1 := Nat.one_le_two_pow (n := s)
  have e := pe_val hs hU hm hC hF (2 ^ s) (2 ^ s - 1) (by omega) (by omega) 8 (Or.inl rfl)
  rw [show pe_li 8 = -1 from rfl, Nat.xor_self] at e
  exact e.trans ((hF 0 8 (by omega) (by omega)).1 (Or.inl rfl)).symm
theorem pe_pos (hs : s ≤ 8) (hC : pe_FC gp u m gy s) : ∀ n R : Nat, R < n → R < 2 ^ s → ∀ L : Int, 0 ≤ (cp_val gp u m gy s R L).toInt ∧ (cp_val gp u m gy s R L).toInt ≤ ((8 ^ iv_pcb R : Nat) : Int) := by
  intro n
  induction n with
  | zero => intro R h; exact absurd h (Nat.not_lt_zero _)
  | succ n ih =>
    intro R hn hR L
    have hp := pe_p2 hs
    by_cases h0 : R = 0
    · have e : cp_val gp u m gy s R L = 1 := if_pos h0
      have e1 : (1 : Int32).toInt = 1 := rfl
      have hq := Nat.one_le_pow (iv_pcb R) 8 (by decide)
      rw [e, e1]
      omega
    · have e : cp_val gp u m gy s R L = cp_sm gp u m gy R L s := if_neg h0
      rw [e]
      have key : ∀ k, k ≤ s → 0 ≤ (cp_sm gp u m gy R L k).toInt ∧ (cp_sm gp u m gy R L k).toInt ≤ ((k * 8 ^ (iv_pcb R - 1) : Nat) : Int) := by
        intro k
        induction k with
        | zero =>
          intro _
          have e0 : (cp_sm gp u m gy R L 0).toInt = 0 := rfl
          rw [e0, Nat.zero_mul]
          omega
        | succ k ik =>
          intro hk
          have ik := ik (by omega)
          rw [Nat.succ_mul]
          by_cases hc : cp_CF gp u m k L R
          · have hlt := hc.dec (by omega) (by omega)
            have hR' : R ^^^ 2 ^ k < 2 ^ s := by omega
            have b4 : iv_pcb (R ^^^ 2 ^ k) + 1 = iv_pcb R := pe_b4 ⟨R, by omega⟩ ⟨k, by omega⟩ hc.1
            have b5 : iv_pcb R ≤ 8 := pe_b5 ⟨R, by omega⟩
            have i1 := ih (R ^^^ 2 ^ k) (by omega) hR' (k : Int)
            rw [← hC (R ^^^ 2 ^ k) k hR' (by omega), show iv_pcb (R ^^^ 2 ^ k) = iv_pcb R - 1 by omega] at i1
            have h7 : 8 ^ (iv_pcb R - 1) ≤ 8 ^ 7 := Nat.pow_le_pow_right (by decide) (by omega)
            have h8 : (k + 1) * 8 ^ (iv_pcb R - 1) ≤ 8 * 8 ^ 7 := Nat.mul_le_mul (by omega) h7
            rw [Nat.succ_mul] at h8
            have h9 : 8 * 8 ^ 7 = 16777216 := by decide
            rw [cp_sm.ok hc, iv_ti_add (by omega) (by omega)]
            omega
          · have hz := Nat.one_le_pow (iv_pcb R - 1) 8 (by decide)
            rw [cp_sm.no hc]
            omega
      have k1 := key s (Nat.le_refl _)
      refine ⟨k1.1, Int.le_trans k1.2 ?_⟩
      have hpos : 1 ≤ iv_pcb R := by
        rcases Nat.eq_zero_or_pos (iv_pcb R) with q | q
        · exact absurd (show R = 0 from by have b := pe_b6 ⟨R, by omega⟩ q; exact b) h0
        · exact q
      have e8 : 8 ^ iv_pcb R = 8 * 8 ^ (iv_pcb R - 1) := by
        rw [Nat.mul_comm, ← Nat.pow_succ]
        congr 1
        omega
      rw [e8]
      exact Int.ofNat_le.mpr (Nat.mul_le_mul_right _ hs)
/-- the class's next bell of the first order; the reference's -/
def pe_C (gp u : Nat → Int32) (m : Int32) (gy : Nat → Int32) (i : Nat) (L : Int) (R : Nat) : Prop := cp_CF gp u m i L R ∧ 0 < (gy ((R ^^^ 2 ^ i) * 8 + i)).toInt
def pe_D (gq gw go : Nat → Int32) (i L S : Nat) : Prop := iv_CF gq gw i L S ∧ ¬ go (9 * (S ||| 2 ^ i) + i) = 0
def pe_cp (gp u : Nat → Int32) (m : Int32) (gy : Nat → Int32) (s : Nat) : Nat → Nat → Int → Prop
  | 0, R, L => R = 2 ^ s - 1 ∧ L = -1
  | k + 1, R, L => ∃ R0 L0 i, pe_cp gp u m gy s k R0 L0 ∧ i < s ∧ L = (i : Nat) ∧ R = R0 ^^^ 2 ^ i ∧ pe_C gp u m gy i L0 R0 ∧ ∀ j, j < i → ¬ pe_C gp u m gy j L0 R0
def pe_rp (gq gw go : Nat → Int32) (s : Nat) : Nat → Nat → Nat → Prop
  | 0, S, L => S = 0 ∧ L = 8
  | k + 1, S, L => ∃ S0 L0, pe_rp gq gw go s k S0 L0 ∧ L < s ∧ S = S0 ||| 2 ^ L ∧ pe_D gq gw go L L0 S0 ∧ ∀ j, j < L → ¬ pe_D gq gw go j L0 S0
theorem pe_CD (hs : s ≤ 8) (hU : pe_U gp u gq gw s) (hm : m = gw 147) (hC : pe_FC gp u m gy s) (hF : pe_FR gq gw s go) {R i K : Nat} (hR : R < 2 ^ s) (hi : i < s) (hK : K = 8 ∨ K < s) : pe_C gp u m gy i (pe_li K) R ↔ pe_D gq gw go i K ((2 ^ s - 1) ^^^ R) := by
  have hp := pe_p2 hs
  have cf := pe_CF hs hU hm hR hi hK
  have key : cp_CF gp u m i (pe_li K) R → (0 < (gy ((R ^^^ 2 ^ i) * 8 + i)).toInt ↔ ¬ go (9 * (((2 ^ s - 1) ^^^ R) ||| 2 ^ i) + i) = 0) := fun hc => by
    have b3 : (2 ^ s - 1) ^^^ (R ^^^ 2 ^ i) = ((2 ^ s - 1) ^^^ R) ||| 2 ^ i := pe_b3 ⟨s, by omega⟩ ⟨R, by omega⟩ ⟨i, by omega⟩ hi hR hc.1
    have hlt := hc.dec (by omega) (by omega)
    have hR' : R ^^^ 2 ^ i < 2 ^ s := by omega
    have e := pe_go hs hU hm hC hF hR' hi
    rw [b3] at e
    have hq := (pe_pos hs hC ((R ^^^ 2 ^ i) + 1) (R ^^^ 2 ^ i) (Nat.lt_succ_self _) hR' (i : Int)).1
    rw [← hC (R ^^^ 2 ^ i) i hR' hi] at hq
    rw [← e]
    have e0 : (0 : Int32).toInt = 0 := rfl
    constructor
    · intro h q
      rw [q, e0] at h
      omega
    · intro h
      have w : ¬ (gy ((R ^^^ 2 ^ i) * 8 + i)).toInt = 0 := fun q => h (Int32.toInt_inj.mp (q.trans e0.symm))
      omega
  exact ⟨fun h => ⟨cf.mp h.1, (key h.1).mp h.2⟩, fun h => ⟨cf.mpr h.1, (key (cf.mpr h.1)).mpr h.2⟩⟩
theorem pe_path (hs : s ≤ 8) (hU : pe_U gp u gq gw s) (hm : m = gw 147) (hC : pe_FC gp u m gy s) (hF : pe_FR gq gw s go) : ∀ k R L S K, pe_cp gp u m gy s k R L → pe_rp gq gw go s k S K → R < 2 ^ s ∧ S = (2 ^ s - 1) ^^^ R ∧ L = pe_li K ∧ (K = 8 ∨ K < s) := by
  intro k
  have hp := pe_p2 hs
  have hp1 := Nat.one_le_two_pow (n := s)
  induction k with
  | zero =>
    intro R L S K hc hr
    refine ⟨by have w := hc.1; omega, ?_, ?_, Or.inl hr.2⟩
    · rw [hc.1, Nat.xor_self]
      exact hr.1
    · rw [hc.2, hr.2]
      rfl
  | succ k ih =>
    intro R L S K hc hr
    obtain ⟨R0, L0, i, hc0, hi, hL, hR, hCi, hCn⟩ := hc
    obtain ⟨S0, K0, hr0, hK, hS, hDi, hDn⟩ := hr
    obtain ⟨w1, w2, w3, w4⟩ := ih R0 L0 S0 K0 hc0 hr0
    subst w2
    subst w3
    have hik : i = K := by
      rcases Nat.lt_trichotomy i K with q | q | q
      · exact absurd ((pe_CD hs hU hm hC hF w1 hi w4).mp hCi) (hDn i q)
      · exact q
      · exact absurd ((pe_CD hs hU hm hC hF w1 hK w4).mpr hDi) (hCn K q)
    subst hik
    have b3 : (2 ^ s - 1) ^^^ (R0 ^^^ 2 ^ i) = ((2 ^ s - 1) ^^^ R0) ||| 2 ^ i := pe_b3 ⟨s, by omega⟩ ⟨R0, by omega⟩ ⟨i, by omega⟩ hi w1 hCi.1.1
    have hlt := hCi.1.dec (by omega) (by omega)
    exact ⟨by omega, by rw [hS, hR, b3], by rw [hL, pe_li.of (by omega)], Or.inr hi⟩
theorem pe_pre : ∀ n S L, pe_rp gq gw go s n S L → ∀ k, k < n → ∃ S0 L0 L1, pe_rp gq gw go s k S0 L0 ∧ L1 < s ∧ pe_D gq gw go L1 L0 S0 := by
  intro n
  induction n with
  | zero => intro S L h k hk; exact absurd hk (Nat.not_lt_zero _)
  | succ n ih =>
    intro S L h k hk
    obtain ⟨S0, L0, h0, h1, h2, h3, h4⟩ := h
    by_cases q : k = n
    · subst q
      exact ⟨S0, L0, L, h0, h1, h3⟩
    · exact ih S0 L0 h0 k (by omega)
theorem pe_end (hs : s ≤ 8) (hU : pe_U gp u gq gw s) (hm : m = gw 147) (hC : pe_FC gp u m gy s) (hF : pe_FR gq gw s go) (hg : ∀ i, i < s → gp i = gq i) {n : Nat} (hn : 1 ≤ n) {v w : Int32} (h1 : (∃ R L, pe_cp gp u m gy s n R L ∧ v = gp L.toNat) ∨ (∃ k R L, k < n ∧ pe_cp gp u m gy s k R L ∧ ∀ j, j < s → ¬ pe_C gp u m gy j L R)) (h2 : ∃ S K, pe_rp gq gw go s n S K ∧ w = gq K) : v = w := by
  obtain ⟨S, K, hr, hw⟩ := h2
  rcases h1 with ⟨R, L, hc, hv⟩ | ⟨k, R, L, hk, hc, hno⟩
  · obtain ⟨w1, w2, w3, w4⟩ := pe_path hs hU hm hC hF n R L S K hc hr
    obtain ⟨k, rfl⟩ : ∃ k, n = k + 1 := ⟨n - 1, by omega⟩
    obtain ⟨S0, L0, h0, hK, _⟩ := hr
    rw [hv, hw, w3, pe_li.of (by omega)]
    exact hg K hK
  · obtain ⟨S0, L0, L1, h0, h3, h4⟩ := pe_pre n S K hr k hk
    obtain ⟨w1, w2, w3, w4⟩ := pe_path hs hU hm hC hF k R L S0 L0 hc h0
    subst w2
    subst w3
    exact absurd ((pe_CD hs hU hm hC hF w1 h3 w4).mpr h4) (hno L1 h3)
end
/-- the bells of the set, in their order -/
def pe_mem (gp : Nat → Int32) (S n : Nat) : Prop := ∀ b, b < n → S / 2 ^ b % 2 = 1 → (gp (iv_pcn S b)).toInt = (b : Int)
theorem pe_sur (S : Nat) : ∀ n i, i < iv_pcn S n → ∃ b, b < n ∧ S / 2 ^ b % 2 = 1 ∧ iv_pcn S b = i := by
  intro n
  induction n with
  | zero => intro i h; exact absurd h (Nat.not_lt_zero _)
  | succ n ih =>
    intro i h
    have h : i < iv_pcn S n + S / 2 ^ n % 2 := h
    by_cases q : i < iv_pcn S n
    · obtain ⟨b, h1, h2, h3⟩ := ih i q
      exact ⟨b, by omega, h2, h3⟩
    · exact ⟨n, by omega, by omega, by omega⟩
theorem pe_two {gp u gq gw : Nat → Int32} {S n : Nat} (h1 : pe_mem gp S n) (h2 : pe_mem gq S n) (hu : ∀ b, b < n → u b = gw (66 + 8 * b + 1)) : (∀ i, i < iv_pcn S n → gp i = gq i) ∧ pe_U gp u gq gw (iv_pcn S n) := by
  have key : ∀ i, i < iv_pcn S n → ∃ b, b < n ∧ (gp i).toInt = (b : Int) ∧ (gq i).toInt = (b : Int) := fun i hi => by
    obtain ⟨b, q1, q2, q3⟩ := pe_sur S n i hi
    rw [← q3]
    exact ⟨b, q1, h1 b q1 q2, h2 b q1 q2⟩
  refine ⟨fun i hi => ?_, fun i hi => ?_⟩
  · obtain ⟨b, _, q1, q2⟩ := key i hi
    exact Int32.toInt_inj.mp (q1.trans q2.symm)
  · obtain ⟨b, q0, q1, q2⟩ := key i hi
    rw [q1, q2]
    exact hu b q0
/-- what peals answers: p tells that the set is one of 8 at most, s its size -/
def pe_ask (x n : Int32) : Prop := 0 ≤ x.toInt ∧ x.toInt < ((2 ^ n.toInt.toNat : Nat) : Int) ∧ iv_pcn x.toInt.toNat 24 ≤ 8
def pe_at (x w : Int32) : Prop := 10 ≤ w.toInt ∧ w.toInt ≤ 9 + ((iv_pcn x.toInt.toNat 24 : Nat) : Int)
def pe_PC (u : Nat → Int32) (m n x w v : Int32) : Prop := (¬ pe_ask x n → v = -1) ∧ (¬ w = 0 → ¬ pe_at x w → v = -1) ∧ (pe_ask x n → (w = 0 ∨ pe_at x w) → ∃ gp gy, pe_mem gp x.toInt.toNat n.toInt.toNat ∧ pe_FC gp u m gy (iv_pcn x.toInt.toNat n.toInt.toNat) ∧ (w = 0 → v = cp_val gp u m gy (iv_pcn x.toInt.toNat n.toInt.toNat) (2 ^ iv_pcn x.toInt.toNat n.toInt.toNat - 1) (-1)) ∧ (pe_at x w → cp_val gp u m gy (iv_pcn x.toInt.toNat n.toInt.toNat) (2 ^ iv_pcn x.toInt.toNat n.toInt.toNat - 1) (-1) = 0 → v = -1) ∧ (pe_at x w → ¬ cp_val gp u m gy (iv_pcn x.toInt.toNat n.toInt.toNat) (2 ^ iv_pcn x.toInt.toNat n.toInt.toNat - 1) (-1) = 0 → (∃ R L, pe_cp gp u m gy (iv_pcn x.toInt.toNat n.toInt.toNat) (w.toInt.toNat - 9) R L ∧ v = gp L.toNat) ∨ (∃ k R L, k < w.toInt.toNat - 9 ∧ pe_cp gp u m gy (iv_pcn x.toInt.toNat n.toInt.toNat) k R L ∧ ∀ j, j < iv_pcn x.toInt.toNat n.toInt.toNat → ¬ pe_C gp u m gy j L R)))
def pe_PR (gw : Nat → Int32) (x w v : Int32) : Prop := (¬ pe_ask x (gw 146) → v = -1) ∧ (¬ w = 0 → ¬ pe_at x w → v = -1) ∧ (pe_ask x (gw 146) → (w = 0 ∨ pe_at x w) → ∃ gq go, pe_mem gq x.toInt.toNat (gw 146).toInt.toNat ∧ pe_FR gq gw (iv_pcn x.toInt.toNat (gw 146).toInt.toNat) go ∧ (w = 0 → v = go 8) ∧ (pe_at x w → go 8 = 0 → v = -1) ∧ (pe_at x w → ¬ go 8 = 0 → ∃ S K, pe_rp gq gw go (iv_pcn x.toInt.toNat (gw 146).toInt.toNat) (w.toInt.toNat - 9) S K ∧ v = gq K))
theorem pe_fin {u gw : Nat → Int32} {m n x w v v' : Int32} (h1 : pe_PC u m n x w v) (h2 : pe_PR gw x w v') (hn : n = gw 146) (hm : m = gw 147) (hu : ∀ b, b < n.toInt.toNat → u b = gw (66 + 8 * b + 1)) (hk : n.toInt ≤ 24) : v = v' := by
  subst hn
  by_cases ha : pe_ask x (gw 146)
  · by_cases hw : w = 0 ∨ pe_at x w
    · obtain ⟨gp, gy, hg, hC, p1, p2, p3⟩ := h1.2.2 ha hw
      obtain ⟨gq, go, hq, hF, q1, q2, q3⟩ := h2.2.2 ha hw
      have hs : iv_pcn x.toInt.toNat (gw 146).toInt.toNat ≤ 8 := by
        have w1 := iv_pcn.mono x.toInt.toNat (n := (gw 146).toInt.toNat) (24 - (gw 146).toInt.toNat)
        rw [show (gw 146).toInt.toNat + (24 - (gw 146).toInt.toNat) = 24 by omega] at w1
        exact Nat.le_trans w1 ha.2.2
      obtain ⟨hgg, hU⟩ := pe_two hg hq hu
      have et := pe_top hs hU hm hC hF
      rcases hw with hw | hw
      · rw [p1 hw, q1 hw, et]
      · by_cases hz : go 8 = 0
        · rw [p2 hw (et.trans hz), q2 hw hz]
        · exact pe_end hs hU hm hC hF hgg (by have w1 := hw.1; omega) (p3 hw (fun q => hz (et.symm.trans q))) (q3 hw hz)
    · have w0 : ¬ w = 0 := fun q => hw (Or.inl q)
      have w1 : ¬ pe_at x w := fun q => hw (Or.inr q)
      rw [h1.2.1 w0 w1, h2.2.1 w0 w1]
  · rw [h1.1 ha, h2.1 ha]
