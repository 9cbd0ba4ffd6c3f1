/-! pure numbers for Worth: the row of a number, its lengths, rounding by digits -/
theorem ln_high {lo hi a : Nat} (hlo : lo < 10 ^ a) (hhi : 0 < hi) : ln (lo + hi * 10 ^ a) = a + ln hi := by
  have h1 := ln_le hhi
  have h2 := ln_lt hi
  have h3 : ln hi = (ln hi - 1) + 1 := by rw [ln_pos hhi]; omega
  have h4 : ln (lo + hi * 10 ^ a) = (ln hi - 1 + a) + 1 := by
    apply ln_eq
    · have : 10 ^ (ln hi - 1) * 10 ^ a ≤ hi * 10 ^ a := Nat.mul_le_mul_right _ h1
      rw [Nat.pow_add]; omega
    · have e : ln hi - 1 + a + 1 = ln hi + a := by omega
      rw [e, Nat.pow_add]
      have : (hi + 1) * 10 ^ a ≤ 10 ^ ln hi * 10 ^ a := Nat.mul_le_mul_right _ h2
      rw [Nat.add_mul, Nat.one_mul] at this
      omega
  omega
theorem dg_succ (n j : Nat) : dg n (j + 1) = dg (n / 10) j := by
  rw [Nat.add_comm, dg_add, Nat.pow_one]
theorem dg_zero (n : Nat) : dg n 0 = n % 10 := by unfold dg; rw [Nat.pow_zero, Nat.div_one]
/-- one more: the nines at the end become zeros, the first other digit grows -/
theorem inc_dg : ∀ (s q : Nat), (∀ t, t < s → dg q t = 9) → dg q s ≠ 9 → (∀ t, t < s → dg (q + 1) t = 0) ∧ dg (q + 1) s = dg q s + 1 ∧ (∀ t, s < t → dg (q + 1) t = dg q t) ∧ ln (q + 1) = max (ln q) (s + 1)
  | 0, q, _, h => by
    rw [dg_zero] at h
    have e1 : (q + 1) / 10 = q / 10 := by omega
    refine ⟨fun t ht => by omega, ?_, ?_, ?_⟩
    · rw [dg_zero, dg_zero]; omega
    · intro t ht
      obtain ⟨k, rfl⟩ : ∃ k, t = k + 1 := ⟨t - 1, by omega⟩
      rw [dg_succ, dg_succ, e1]
    · rw [ln_pos (by omega), e1]
      rcases Nat.eq_zero_or_pos q with rfl | h0
      · rw [ln_0]; decide
      · rw [ln_pos h0]; omega
  | s + 1, q, h, h2 => by
    have h0 := h 0 (by omega)
    rw [dg_zero] at h0
    have e1 : (q + 1) / 10 = q / 10 + 1 := by omega
    obtain ⟨a1, a2, a3, a4⟩ := inc_dg s (q / 10) (fun t ht => by rw [← dg_succ]; exact h (t + 1) (by omega)) (by rw [← dg_succ]; exact h2)
    refine ⟨?_, ?_, ?_, ?_⟩
    · intro t ht
      rcases Nat.eq_zero_or_pos t with rfl | ht0
      · rw [dg_zero]; omega
      · obtain ⟨k, rfl⟩ : ∃ k, t = k + 1 := ⟨t - 1, by omega⟩
        rw [dg_succ, e1]; exact a1 k (by omega)
    · rw [dg_succ, e1, a2, dg_succ]
    · intro t ht
      obtain ⟨k, rfl⟩ : ∃ k, t = k + 1 := ⟨t - 1, by omega⟩
      rw [dg_succ, e1, dg_succ]; exact a3 k (by omega)
    · rw [ln_pos (by omega), e1, a4, ln_pos (n := q) (by omega)]; omega
theorem mod_succ (n m : Nat) : n % 10 ^ (m + 1) = n % 10 ^ m + 10 ^ m * dg n m := by
  unfold dg; exact Nat.mod_pow_succ
theorem mod_zero_iff (n : Nat) : ∀ m, n % 10 ^ m = 0 ↔ ∀ j, j < m → dg n j = 0
  | 0 => by rw [Nat.pow_zero, Nat.mod_one]; exact ⟨fun _ j h => by omega, fun _ => rfl⟩
  | m + 1 => by
    rw [mod_succ]
    have ih := mod_zero_iff n m
    have hp := p10_pos m
    constructor
    · intro h j hj
      have h1 : n % 10 ^ m = 0 := by omega
      have h2 : 10 ^ m * dg n m = 0 := by omega
      rcases Nat.lt_succ_iff_lt_or_eq.mp hj with h3 | rfl
      · exact ih.mp h1 j h3
      · rcases Nat.mul_eq_zero.mp h2 with h4 | h4
        · omega
        · exact h4
    · intro h
      rw [ih.mpr (fun j hj => h j (by omega)), h m (by omega), Nat.mul_zero]
/-- rounding by the digits -/
theorem up_iff (n m : Nat) : (10 ^ (m + 1) < 2 * (n % 10 ^ (m + 1)) ∨ (2 * (n % 10 ^ (m + 1)) = 10 ^ (m + 1) ∧ n / 10 ^ (m + 1) % 2 = 1)) ↔ (5 < dg n m ∨ (dg n m = 5 ∧ ((∃ j, j < m ∧ dg n j ≠ 0) ∨ dg n (m + 1) % 2 = 1))) := by
  have hp := p10_pos m
  have hl : n % 10 ^ m < 10 ^ m := Nat.mod_lt _ hp
  have hd := dg_lt n m
  have e2 : dg n (m + 1) % 2 = n / 10 ^ (m + 1) % 2 := by unfold dg; omega
  have e3 : (∃ j, j < m ∧ dg n j ≠ 0) ↔ n % 10 ^ m ≠ 0 := by
    rw [Ne, mod_zero_iff]
    constructor
    · rintro ⟨j, h1, h2⟩ h3; exact h2 (h3 j h1)
    · intro h
      apply Classical.byContradiction
      intro h1
      exact h (fun j hj => Classical.byContradiction (fun h2 => h1 ⟨j, hj, h2⟩))
  rw [e2, e3, mod_succ, Nat.pow_succ]
  generalize n % 10 ^ m = low at hl
  generalize n / (10 ^ m * 10) % 2 = par
  generalize 10 ^ m = q at hp hl
  generalize dg n m = d at hd
  have hdq : d = 0 ∨ d = 1 ∨ d = 2 ∨ d = 3 ∨ d = 4 ∨ d = 5 ∨ d = 6 ∨ d = 7 ∨ d = 8 ∨ d = 9 := by omega
  rcases hdq with rfl | rfl | rfl | rfl | rfl | rfl | rfl | rfl | rfl | rfl <;> omega
theorem rq_up (n m : Nat) : rq n (10 ^ (m + 1)) = if (5 < dg n m ∨ (dg n m = 5 ∧ ((∃ j, j < m ∧ dg n j ≠ 0) ∨ dg n (m + 1) % 2 = 1))) then n / 10 ^ (m + 1) + 1 else n / 10 ^ (m + 1) := by
  unfold rq
  have h := up_iff n m
  by_cases k : (10 ^ (m + 1) < 2 * (n % 10 ^ (m + 1)) ∨ (2 * (n % 10 ^ (m + 1)) = 10 ^ (m + 1) ∧ n / 10 ^ (m + 1) % 2 = 1))
  · rw [if_pos k, if_pos (h.mp k)]
  · rw [if_neg k, if_neg (fun q => k (h.mpr q))]
/-- the parts of a double by its bits as a signed number -/
def xE (z : Int) : Int := z / 4503599627370496 % 2048
def xM (z : Int) : Int := z % 4503599627370496 + (if xE z = 0 then 0 else 4503599627370496)
def xP (z : Int) : Int := if xE z = 0 then -1074 else xE z - 1075
/-- its worth without sign, times 10 ^ 1200: a whole number -/
def xX (z : Int) : Nat := (xM z).toNat * 2 ^ (xP z + 1200).toNat * 5 ^ 1200
