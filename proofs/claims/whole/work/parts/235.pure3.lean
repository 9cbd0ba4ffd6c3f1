/-! the class's row and the number times 10 ^ 1200 -/
theorem rq_le (a b : Nat) : a / b ≤ rq a b ∧ rq a b ≤ a / b + 1 := by
  unfold rq
  by_cases h : b < 2 * (a % b) ∨ (2 * (a % b) = b ∧ a / b % 2 = 1)
  · rw [if_pos h]; exact ⟨Nat.le_succ _, Nat.le_refl _⟩
  · rw [if_neg h]; exact ⟨Nat.le_refl _, Nat.le_succ _⟩
theorem rX_le (n c : Nat) : rX n c ≤ n + 10 ^ c := by
  unfold rX
  have h1 := (rq_le n (10 ^ c)).2
  have h2 : rq n (10 ^ c) * 10 ^ c ≤ (n / 10 ^ c + 1) * 10 ^ c := Nat.mul_le_mul_right _ h1
  have h3 := Nat.div_mul_le_self n (10 ^ c)
  rw [Nat.add_mul, Nat.one_mul] at h2
  omega
theorem rX_z (c : Nat) : rX 0 c = 0 := by
  unfold rX rq
  rw [Nat.zero_mod, Nat.zero_div, if_neg (by have := p10_pos c; omega), Nat.zero_mul]
theorem rX_ge {n c : Nat} (hn : 0 < n) (hc : c + 1 ≤ ln n) : ln n ≤ ln (rX n c) := by
  have h1 := ln_le hn
  have h2 : 10 ^ (ln n - 1 - c) ≤ n / 10 ^ c := by
    apply (Nat.le_div_iff_mul_le (p10_pos c)).mpr
    rw [← Nat.pow_add]
    have e : ln n - 1 - c + c = ln n - 1 := by omega
    rw [e]; exact h1
  have h3 := (rq_le n (10 ^ c)).1
  have h4 : 10 ^ (ln n - 1) ≤ rX n c := by
    unfold rX
    have e : 10 ^ (ln n - 1) = 10 ^ (ln n - 1 - c) * 10 ^ c := by rw [← Nat.pow_add]; congr 1; omega
    rw [e]; exact Nat.mul_le_mul_right _ (Nat.le_trans h2 h3)
  have := ln_gt_of h4
  omega
theorem rX_scale {N X a c' : Nat} {ci : Int} (hX : N * 10 ^ a = X) (hc : (c' : Int) = ci + (a : Int)) : rX X c' = rX N ci.toNat * 10 ^ a := by
  rw [← hX]
  by_cases h : 0 ≤ ci
  · have e : c' = ci.toNat + a := by omega
    rw [e, rX_mul]
  · have e1 : ci.toNat = 0 := by omega
    obtain ⟨b, rfl⟩ : ∃ b, a = b + c' := ⟨a - c', by omega⟩
    rw [e1, rX_0, Nat.pow_add, ← Nat.mul_assoc]
    have := rX_mul (N * 10 ^ b) 0 c'
    rw [Nat.zero_add, rX_0] at this
    exact this
theorem row_gX {r : Nat → Int} {dec q : Int} {M Y c : Nat} (hY : Y = M * 10 ^ (1200 - dec).toNat) (hdec : 0 ≤ dec ∧ dec ≤ 1074) (hrow : ∀ j : Nat, c ≤ j → j < 774 → r j = (dg M j : Int)) (hM : M < 10 ^ 774) (hq : (c : Int) ≤ q + dec ∨ q + dec < 0) : dI r (q + dec) = gX Y q := by
  unfold dI gX
  rw [hY]
  by_cases k : q + dec < 0
  · rw [if_neg (by omega), dg_mul_lt _ (by omega)]; rfl
  · have e : (q + 1200).toNat = (1200 - dec).toNat + (q + dec).toNat := by omega
    rw [e, dg_mul]
    by_cases k2 : q + dec < 774
    · rw [if_pos (by omega), hrow _ (by omega) (by omega)]
    · rw [if_neg (by omega), dg_big (Nat.lt_of_lt_of_le hM (Nat.pow_le_pow_right (by decide) (by omega)))]; rfl
theorem hi_gX {dec cn : Int} {M Y : Nat} (hY : Y = M * 10 ^ (1200 - dec).toNat) (hdec : 0 ≤ dec ∧ dec ≤ 1074) (hM : 0 < M) (hc : cn = (ln M : Int)) : (if cn = 0 then 0 else cn - 1 - dec) = hiX Y := by
  unfold hiX
  have h1 : 0 < Y := by rw [hY]; exact Nat.mul_pos hM (p10_pos _)
  have h2 : 0 < ln M := by rw [ln_pos hM]; omega
  rw [if_neg (by omega), if_neg (by omega), hY, ln_mul hM]
  omega
theorem ln_bnd {Y : Nat} (h : Y < 10 ^ 1509) : hiX Y ≤ 308 := by
  unfold hiX
  by_cases k : Y = 0
  · rw [if_pos k]; omega
  · rw [if_neg k]
    have := ln_le_of h
    omega
theorem pl_bnd {X c : Nat} (hX : X ≤ 2 * 10 ^ 1508) (hc : c ≤ 1200) : rX X c < 10 ^ 1509 := by
  have h1 := rX_le X c
  have h2 : 10 ^ c ≤ 10 ^ 1200 := Nat.pow_le_pow_right (by decide) hc
  have h3 : 2 * 10 ^ 1508 + 10 ^ 1200 < 10 ^ 1509 := by decide +kernel
  omega
theorem xX_bnd {z : Int} (h : xE z ≠ 2047) : xX z ≤ 2 * 10 ^ 1508 := by
  have hE : 0 ≤ xE z ∧ xE z < 2048 := by unfold xE; omega
  unfold xX
  have h1 : (xM z).toNat ≤ 2 ^ 53 := by
    unfold xM
    by_cases k : xE z = 0
    · rw [if_pos k]; omega
    · rw [if_neg k]; omega
  have h2 : (xP z + 1200).toNat ≤ 2171 := by
    unfold xP
    by_cases k : xE z = 0
    · rw [if_pos k]; omega
    · rw [if_neg k]; omega
  have h3 : 2 ^ (xP z + 1200).toNat ≤ 2 ^ 2171 := Nat.pow_le_pow_right (by decide) h2
  have h4 : (xM z).toNat * 2 ^ (xP z + 1200).toNat ≤ 2 ^ 53 * 2 ^ 2171 := Nat.mul_le_mul h1 h3
  have h5 : (xM z).toNat * 2 ^ (xP z + 1200).toNat * 5 ^ 1200 ≤ 2 ^ 53 * 2 ^ 2171 * 5 ^ 1200 := Nat.mul_le_mul_right _ h4
  have h6 : 2 ^ 53 * 2 ^ 2171 * 5 ^ 1200 ≤ 2 * 10 ^ 1508 := by decide +kernel
  omega
/-- how many digits from the first to the last that is not 0 -/
def sgX (X : Nat) (z : Int) : Prop := (X = 0 ∧ z = 0) ∨ (0 < X ∧ ∃ t : Nat, z = (ln X : Int) - (t : Int) ∧ (∀ j, j < t → dg X j = 0) ∧ dg X t ≠ 0)
theorem sgX_uniq {X : Nat} {z z' : Int} (h : sgX X z) (h' : sgX X z') : z = z' := by
  rcases h with ⟨a, b⟩ | ⟨a, t, b1, b2, b3⟩
  · rcases h' with ⟨c, d⟩ | ⟨c, _⟩
    · omega
    · omega
  · rcases h' with ⟨c, d⟩ | ⟨c, u, d1, d2, d3⟩
    · omega
    · have : t = u := by
        rcases Nat.lt_trichotomy t u with k | k | k
        · exact absurd (d2 t k) b3
        · exact k
        · exact absurd (b2 u k) d3
      omega
theorem sg_row {r : Nat → Int} {N X a : Nat} {cnt k : Int} (hX : N * 10 ^ a = X) (hrep : ∀ j : Nat, j < 774 → r j = (dg N j : Int)) (hcn : cnt = (ln N : Int)) (hN : N < 10 ^ 767) (hk : 0 ≤ k ∧ k ≤ cnt) (h0 : ∀ j : Nat, (j : Int) < k → r j = 0) (h1 : k < cnt → r k.toNat ≠ 0) : sgX X (cnt - k) := by
  have hl := ln_le_of hN
  rcases Nat.eq_zero_or_pos N with z | hp
  · left
    rw [z, Nat.zero_mul] at hX
    rw [z, ln_0] at hcn
    exact ⟨hX.symm, by omega⟩
  · right
    have hlt : k < cnt := by
      apply Int.not_le.mp
      intro q
      have hl1 : 0 < ln N := by rw [ln_pos hp]; omega
      have := h0 (ln N - 1) (by omega)
      rw [hrep _ (by omega)] at this
      exact ln_top hp (by omega)
    refine ⟨by rw [← hX]; exact Nat.mul_pos hp (p10_pos a), a + k.toNat, ?_, ?_, ?_⟩
    · rw [← hX, ln_mul hp]; omega
    · intro j hj
      rw [← hX]
      by_cases q : j < a
      · exact dg_mul_lt _ q
      · obtain ⟨t, rfl⟩ : ∃ t, j = a + t := ⟨j - a, by omega⟩
        rw [dg_mul]
        have := h0 t (by omega)
        rw [hrep t (by omega)] at this
        omega
    · rw [← hX, dg_mul]
      have := h1 hlt
      rw [hrep _ (by omega)] at this
      omega
