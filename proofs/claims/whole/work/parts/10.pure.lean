/-! pure numbers: digits, lengths, rounding, limbs -/
def dg (n j : Nat) : Nat := n / 10 ^ j % 10
theorem dg_lt (n j : Nat) : dg n j < 10 := Nat.mod_lt _ (by decide)
theorem p10_pos (j : Nat) : 0 < 10 ^ j := Nat.pow_pos (by decide)
theorem dg_big {n j : Nat} (h : n < 10 ^ j) : dg n j = 0 := by
  unfold dg
  rw [Nat.div_eq_of_lt h]
theorem dg_add (n a j : Nat) : dg n (a + j) = dg (n / 10 ^ a) j := by
  unfold dg
  rw [Nat.pow_add, Nat.div_div_eq_div_mul]
theorem dg_mul (n a j : Nat) : dg (n * 10 ^ a) (a + j) = dg n j := by
  rw [dg_add, Nat.mul_div_cancel _ (p10_pos a)]
theorem dg_mul_lt (n : Nat) {a j : Nat} (h : j < a) : dg (n * 10 ^ a) j = 0 := by
  unfold dg
  obtain ⟨k, rfl⟩ : ∃ k, a = j + (k + 1) := ⟨a - j - 1, by omega⟩
  have e : n * 10 ^ (j + (k + 1)) = (n * 10 ^ k * 10) * 10 ^ j := by
    rw [Nat.pow_add, Nat.pow_succ]; grind
  rw [e, Nat.mul_div_cancel _ (p10_pos j), Nat.mul_mod_left]
theorem dg_low {lo a j : Nat} (hi : Nat) (h : j < a) : dg (lo + hi * 10 ^ a) j = dg lo j := by
  unfold dg
  obtain ⟨k, rfl⟩ : ∃ k, a = j + (k + 1) := ⟨a - j - 1, by omega⟩
  have e : lo + hi * 10 ^ (j + (k + 1)) = lo + (hi * 10 ^ k * 10) * 10 ^ j := by
    rw [Nat.pow_add, Nat.pow_succ]; grind
  rw [e, Nat.add_mul_div_right _ _ (p10_pos j), Nat.add_mul_mod_self_right]
theorem dg_high {lo hi a : Nat} (hlo : lo < 10 ^ a) (j : Nat) : dg (lo + hi * 10 ^ a) (a + j) = dg hi j := by
  rw [dg_add, Nat.add_mul_div_right _ _ (p10_pos a), Nat.div_eq_of_lt hlo, Nat.zero_add]
/-- the number of decimal digits; 0 has none -/
def ln (n : Nat) : Nat := if h : n = 0 then 0 else ln (n / 10) + 1
termination_by n
decreasing_by exact Nat.div_lt_self (Nat.pos_of_ne_zero h) (by decide)
theorem ln_0 : ln 0 = 0 := by unfold ln; rfl
theorem ln_pos {n : Nat} (h : 0 < n) : ln n = ln (n / 10) + 1 := by
  rw [ln, dif_neg (by omega)]
theorem ln_lt (n : Nat) : n < 10 ^ ln n := by
  induction n using Nat.strongRecOn with
  | _ n ih =>
    rcases Nat.eq_zero_or_pos n with rfl | h
    · rw [ln_0]; decide
    · rw [ln_pos h, Nat.pow_succ]
      have := ih (n / 10) (Nat.div_lt_self h (by decide))
      omega
theorem ln_le {n : Nat} (h : 0 < n) : 10 ^ (ln n - 1) ≤ n := by
  induction n using Nat.strongRecOn with
  | _ n ih =>
    rw [ln_pos h, Nat.add_sub_cancel]
    rcases Nat.eq_zero_or_pos (n / 10) with h0 | h0
    · rw [h0, ln_0]; omega
    · have h1 := ih (n / 10) (Nat.div_lt_self h (by decide)) h0
      have h2 : ln (n / 10) = (ln (n / 10) - 1) + 1 := by rw [ln_pos h0]; omega
      rw [h2, Nat.pow_succ]
      omega
theorem ln_le_of {n c : Nat} (h : n < 10 ^ c) : ln n ≤ c := by
  rcases Nat.eq_zero_or_pos n with rfl | h0
  · rw [ln_0]; exact Nat.zero_le _
  · apply Nat.le_of_not_lt
    intro h1
    have h2 := ln_le h0
    have h3 : 10 ^ c ≤ 10 ^ (ln n - 1) := Nat.pow_le_pow_right (by decide) (by omega)
    omega
theorem ln_gt_of {n c : Nat} (h : 10 ^ c ≤ n) : c < ln n := by
  apply Nat.lt_of_not_le
  intro h1
  have h2 := ln_lt n
  have h3 : 10 ^ ln n ≤ 10 ^ c := Nat.pow_le_pow_right (by decide) h1
  omega
theorem ln_eq {n c : Nat} (h1 : 10 ^ c ≤ n) (h2 : n < 10 ^ (c + 1)) : ln n = c + 1 := by
  have a := ln_le_of h2
  have b := ln_gt_of h1
  omega
theorem ln_mul {n : Nat} (h : 0 < n) (a : Nat) : ln (n * 10 ^ a) = ln n + a := by
  have h1 := ln_le h
  have h2 := ln_lt n
  have h3 : ln n = (ln n - 1) + 1 := by rw [ln_pos h]; omega
  have h4 : ln (n * 10 ^ a) = (ln n - 1 + a) + 1 := by
    apply ln_eq
    · rw [Nat.pow_add]; exact Nat.mul_le_mul_right _ h1
    · have e : ln n - 1 + a + 1 = ln n + a := by omega
      rw [e, Nat.pow_add]; exact Nat.mul_lt_mul_of_pos_right h2 (p10_pos a)
  omega
theorem ln_top {n : Nat} (h : 0 < n) : dg n (ln n - 1) ≠ 0 := by
  have h1 := ln_le h
  have h2 := ln_lt n
  have h3 : ln n = (ln n - 1) + 1 := by rw [ln_pos h]; omega
  unfold dg
  have h4 : n / 10 ^ (ln n - 1) < 10 := by
    apply Nat.div_lt_of_lt_mul
    rw [← Nat.pow_succ, Nat.succ_eq_add_one, ← h3]; exact h2
  have h5 : 1 ≤ n / 10 ^ (ln n - 1) := (Nat.le_div_iff_mul_le (p10_pos _)).mpr (by omega)
  rw [Nat.mod_eq_of_lt h4]; omega
/-- to the nearest of a / b, ties to even -/
def rq (a b : Nat) : Nat := if b < 2 * (a % b) ∨ (2 * (a % b) = b ∧ a / b % 2 = 1) then a / b + 1 else a / b
theorem rq_mul (a b c : Nat) (hc : 0 < c) : rq (a * c) (b * c) = rq a b := by
  unfold rq
  rw [Nat.mul_div_mul_right _ _ hc, Nat.mul_mod_mul_right]
  have e1 : (b * c < 2 * (a % b * c)) ↔ b < 2 * (a % b) := by
    rw [← Nat.mul_assoc]; exact Nat.mul_lt_mul_right hc
  have e2 : (2 * (a % b * c) = b * c) ↔ 2 * (a % b) = b := by
    rw [← Nat.mul_assoc]; exact Nat.mul_left_inj (by omega)
  simp only [e1, e2]
/-- rounded to a multiple of 10 ^ c -/
def rX (n c : Nat) : Nat := rq n (10 ^ c) * 10 ^ c
theorem rX_mul (n c a : Nat) : rX (n * 10 ^ a) (c + a) = rX n c * 10 ^ a := by
  unfold rX
  rw [Nat.pow_add, rq_mul _ _ _ (p10_pos a), Nat.mul_assoc]
theorem rq_1 (a : Nat) : rq a 1 = a := by
  unfold rq
  rw [Nat.mod_one, Nat.div_one, if_neg (by omega)]
theorem rX_0 (n : Nat) : rX n 0 = n := by unfold rX; rw [Nat.pow_zero, rq_1, Nat.mul_one]
/-- limbs of nine digits, the lowest first -/
def vL (L : Nat → Int) : Nat → Int
  | 0 => 0
  | n + 1 => vL L n + L n * 1000000000 ^ n
theorem vL_congr {L M : Nat → Int} : ∀ {n : Nat}, (∀ j, j < n → L j = M j) → vL L n = vL M n
  | 0, _ => rfl
  | n + 1, h => by rw [vL, vL, vL_congr (n := n) (fun j q => h j (by omega)), h n (by omega)]
theorem b9_pos (n : Nat) : (0 : Int) < 1000000000 ^ n := Int.pow_pos (by decide)
theorem vL_nonneg {L : Nat → Int} : ∀ {n : Nat}, (∀ j, j < n → 0 ≤ L j) → 0 ≤ vL L n
  | 0, _ => Int.le_refl 0
  | n + 1, h => by
    rw [vL]
    have h1 := vL_nonneg (n := n) (fun j q => h j (by omega))
    have h2 := Int.mul_nonneg (h n (by omega)) (Int.le_of_lt (b9_pos n))
    omega
theorem vL_lt {L : Nat → Int} : ∀ {n : Nat}, (∀ j, j < n → 0 ≤ L j ∧ L j < 1000000000) → vL L n < 1000000000 ^ n
  | 0, _ => by rw [vL, Int.pow_zero]; decide
  | n + 1, h => by
    rw [vL, Int.pow_succ]
    have h1 := vL_lt (n := n) (fun j q => h j (by omega))
    have h2 := h n (by omega)
    have h3 : L n * 1000000000 ^ n ≤ 999999999 * 1000000000 ^ n := Int.mul_le_mul_of_nonneg_right (by omega) (Int.le_of_lt (b9_pos n))
    omega
theorem mul_step {v1 cr v f b nw c2 x : Int} (h1 : v1 + cr * b = v * f) (h2 : nw + c2 * 1000000000 = x * f + cr) : v1 + nw * b + c2 * (b * 1000000000) = (v + x * b) * f := by
  have h3 : (nw + c2 * 1000000000) * b = (x * f + cr) * b := by rw [h2]
  grind
