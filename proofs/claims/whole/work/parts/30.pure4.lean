/-! the reference's row: the highest digit first -/
def hv (r : Nat → Int) : Nat → Nat
  | 0 => 0
  | k + 1 => 10 * hv r k + (r k).toNat
theorem hv_congr {r t : Nat → Int} : ∀ {k : Nat}, (∀ j, j < k → r j = t j) → hv r k = hv t k
  | 0, _ => rfl
  | k + 1, h => by rw [hv, hv, hv_congr (k := k) (fun j q => h j (by omega)), h k (by omega)]
theorem hv_lt {r : Nat → Int} : ∀ {k : Nat}, (∀ j, j < k → 0 ≤ r j ∧ r j ≤ 9) → hv r k < 10 ^ k
  | 0, _ => by rw [hv]; decide
  | k + 1, h => by
    rw [hv, Nat.pow_succ]
    have h1 := hv_lt (k := k) (fun j q => h j (by omega))
    have h2 := h k (by omega)
    omega
theorem hv_add (r : Nat → Int) (a : Nat) : ∀ b, hv r (a + b) = hv r a * 10 ^ b + hv (fun j => r (a + j)) b
  | 0 => by rw [Nat.add_zero, Nat.pow_zero, Nat.mul_one, hv, Nat.add_zero]
  | b + 1 => by
    rw [← Nat.add_assoc, hv, hv_add r a b, hv, Nat.pow_succ]
    grind
theorem hv_zero {r : Nat → Int} : ∀ {k : Nat}, (∀ j, j < k → r j = 0) → hv r k = 0
  | 0, _ => rfl
  | k + 1, h => by rw [hv, hv_zero (k := k) (fun j q => h j (by omega)), h k (by omega)]; rfl
theorem hv_shift {r t : Nat → Int} {z m : Nat} (h0 : ∀ j, j < z → r j = 0) (h : ∀ j, j < m → t j = r (j + z)) : hv r (z + m) = hv t m := by
  rw [hv_add, hv_zero h0, Nat.zero_mul, Nat.zero_add]
  exact hv_congr (fun j q => by rw [h j q, Nat.add_comm])
theorem hv_cons {r t : Nat → Int} {m : Nat} (h : ∀ j, j < m → t (j + 1) = r j) : hv t (m + 1) = (t 0).toNat * 10 ^ m + hv r m := by
  rw [Nat.add_comm m 1, hv_add, hv, hv]
  have e : hv (fun j => t (1 + j)) m = hv r m := hv_congr (fun j q => by rw [Nat.add_comm 1 j]; exact h j q)
  have e0 : 10 * 0 + (t 0).toNat = (t 0).toNat := by omega
  rw [e, e0]
theorem hv_div {r : Nat → Int} {a b : Nat} (h : ∀ j, a ≤ j → j < a + b → 0 ≤ r j ∧ r j ≤ 9) : hv r (a + b) / 10 ^ b = hv r a := by
  rw [hv_add]
  have h1 : hv (fun j => r (a + j)) b < 10 ^ b := hv_lt (fun j q => h (a + j) (by omega) (by omega))
  rw [Nat.add_comm, Nat.add_mul_div_right _ _ (p10_pos b), Nat.div_eq_of_lt h1, Nat.zero_add]
theorem hv_dg {r : Nat → Int} {n j : Nat} (hj : j < n) (h : ∀ j, j < n → 0 ≤ r j ∧ r j ≤ 9) : (dg (hv r n) (n - 1 - j) : Int) = r j := by
  unfold dg
  have e : n = (j + 1) + (n - 1 - j) := by omega
  have h1 : hv r n / 10 ^ (n - 1 - j) = hv r (j + 1) := by
    have := hv_div (r := r) (a := j + 1) (b := n - 1 - j) (fun i q1 q2 => h i (by omega))
    rw [← e] at this; exact this
  rw [h1, hv]
  have := h j hj
  omega
theorem hv_ln {r : Nat → Int} {n : Nat} (hn : 0 < n) (h : ∀ j, j < n → 0 ≤ r j ∧ r j ≤ 9) (h0 : r 0 ≠ 0) : ln (hv r n) = n := by
  obtain ⟨k, rfl⟩ : ∃ k, n = k + 1 := ⟨n - 1, by omega⟩
  apply ln_eq
  · rw [Nat.add_comm k 1, hv_add, hv, hv]
    have := h 0 (by omega)
    have h1 : 1 * 10 ^ k ≤ (10 * 0 + (r 0).toNat) * 10 ^ k := Nat.mul_le_mul_right _ (by omega)
    omega
  · exact hv_lt h
/-- a row, not yet trimmed, and the number times 10 ^ 1200 that it stands for -/
def mPre (r : Nat → Int) (n P : Int) (X : Nat) : Prop := (∀ j : Nat, (j : Int) < n → 0 ≤ r j ∧ r j ≤ 9) ∧ 0 ≤ n ∧ 0 ≤ 1200 + P - n ∧ X = hv r n.toNat * 10 ^ (1200 + P - n).toNat
def mRep (r : Nat → Int) (n P : Int) (X : Nat) : Prop := mPre r n P X ∧ (n = 0 → P = 0) ∧ (0 < n → r 0 ≠ 0 ∧ r (n - 1).toNat ≠ 0)
theorem mRep_0 {r : Nat → Int} {n P : Int} {X : Nat} (h : mRep r n P X) : n = 0 ↔ X = 0 := by
  obtain ⟨⟨h1, h2, h3, h4⟩, h5, h6⟩ := h
  constructor
  · intro k; rw [h4, k]; show hv r 0 * _ = 0; rw [hv, Nat.zero_mul]
  · intro k
    apply Classical.byContradiction
    intro q
    have q0 := (h6 (by omega)).1
    have q1 := hv_ln (r := r) (n := n.toNat) (by omega) (fun j q => h1 j (by omega)) q0
    rw [k] at h4
    rcases Nat.mul_eq_zero.mp h4.symm with q2 | q2
    · rw [q2, ln_0] at q1; omega
    · have := p10_pos (1200 + P - n).toNat; omega
theorem mRep_ln {r : Nat → Int} {n P : Int} {X : Nat} (h : mRep r n P X) (hX : 0 < X) : (ln X : Int) = 1200 + P := by
  have h0 := mRep_0 h
  obtain ⟨⟨h1, h2, h3, h4⟩, h5, h6⟩ := h
  have hn : 0 < n := by
    rcases Int.lt_or_le 0 n with q | q
    · exact q
    · have := h0.mp (by omega); omega
  have q1 := hv_ln (r := r) (n := n.toNat) (by omega) (fun j q => h1 j (by omega)) (h6 hn).1
  have q2 : 0 < hv r n.toNat := by
    rcases Nat.eq_zero_or_pos (hv r n.toNat) with q | q
    · rw [q, ln_0] at q1; omega
    · exact q
  rw [h4, ln_mul q2, q1]; omega
theorem mRep_hi {r : Nat → Int} {n P : Int} {X : Nat} (h : mRep r n P X) : hiX X = (if n = 0 then 0 else P - 1) := by
  have h0 := mRep_0 h
  unfold hiX
  by_cases q : X = 0
  · rw [if_pos q, if_pos (h0.mpr q)]
  · rw [if_neg q, if_neg (fun k => q (h0.mp k)), mRep_ln h (by omega)]; omega
/-- a digit of the row, 0 outside -/
def mD (r : Nat → Int) (n k : Int) : Int := if 0 ≤ k ∧ k < n then r k.toNat else 0
theorem mRep_dg {r : Nat → Int} {n P : Int} {X : Nat} (h : mRep r n P X) {k : Int} (hk : k ≤ 1199 + P) : mD r n k = gX X (P - 1 - k) := by
  have hl := mRep_ln h
  have h0 := mRep_0 h
  obtain ⟨⟨h1, h2, h3, h4⟩, h5, h6⟩ := h
  unfold mD gX
  by_cases q : 0 ≤ k ∧ k < n
  · rw [if_pos q]
    have e : (P - 1 - k + 1200).toNat = (1200 + P - n).toNat + (n.toNat - 1 - k.toNat) := by omega
    rw [h4, e, dg_mul]
    exact (hv_dg (by omega) (fun j q => h1 j (by omega))).symm
  · rw [if_neg q]
    by_cases q2 : k < 0
    · rcases Nat.eq_zero_or_pos X with q3 | q3
      · rw [q3, dg_big (p10_pos _)]; rfl
      · have q4 := hl q3
        rw [dg_big (Nat.lt_of_lt_of_le (ln_lt X) (Nat.pow_le_pow_right (by decide) (by omega)))]; rfl
    · rw [h4, dg_mul_lt _ (by omega)]; rfl
theorem sg_mRep {r : Nat → Int} {n P : Int} {X : Nat} (h : mRep r n P X) : sgX X n := by
  have h0 := mRep_0 h
  have hl := mRep_ln h
  have hd := @mRep_dg r n P X h
  obtain ⟨⟨h1, h2, h3, h4⟩, h5, h6⟩ := h
  rcases Nat.eq_zero_or_pos X with q | q
  · exact Or.inl ⟨q, h0.mpr q⟩
  · have hn : 0 < n := by
      rcases Int.lt_or_le 0 n with k | k
      · exact k
      · have := h0.mp (by omega); omega
    have ql := hl q
    refine Or.inr ⟨q, (1200 + P - n).toNat, by omega, ?_, ?_⟩
    · intro j hj
      rw [h4]; exact dg_mul_lt _ hj
    · have k1 := @hd (n - 1) (by omega)
      unfold mD gX at k1
      rw [if_pos (by omega)] at k1
      have e : (P - 1 - (n - 1) + 1200).toNat = (1200 + P - n).toNat := by omega
      rw [e] at k1
      have := (h6 hn).2
      omega
theorem half_step {a b x re : Nat} (h : 2 * a + re = b) (hre : re < 2) : 2 * (10 * a + (10 * re + x) / 2) + (10 * re + x) % 2 = 10 * b + x := by omega
theorem half_pre {r r1 : Nat → Int} {n P re : Int} {X : Nat} (h : mRep r n P (2 * X)) (hd : ∀ j : Nat, (j : Int) < n → 0 ≤ r1 j ∧ r1 j ≤ 9) (hre : re = 0) (hv2 : 2 * hv r1 n.toNat + re.toNat = hv r n.toNat) : mPre r1 n P X := by
  obtain ⟨⟨h1, h2, h3, h4⟩, h5, h6⟩ := h
  refine ⟨hd, h2, h3, ?_⟩
  rw [hre] at hv2
  have e : hv r n.toNat = 2 * hv r1 n.toNat := by omega
  rw [e, Nat.mul_assoc] at h4
  omega
theorem half_pre1 {r r1 r2 : Nat → Int} {n P re : Int} {X : Nat} (h : mRep r n P (2 * X)) (hp : 1 ≤ 1200 + P - n) (hd : ∀ j : Nat, (j : Int) < n → 0 ≤ r1 j ∧ r1 j ≤ 9) (hre : re = 1) (hv2 : 2 * hv r1 n.toNat + re.toNat = hv r n.toNat) (hr : r2 = zu r1 n.toNat 5) : mPre r2 (n + 1) P X := by
  obtain ⟨⟨h1, h2, h3, h4⟩, h5, h6⟩ := h
  have e0 : (n + 1).toNat = n.toNat + 1 := by omega
  refine ⟨?_, by omega, by omega, ?_⟩
  · intro j hj
    rw [hr]
    by_cases q : j = n.toNat
    · rw [q, zu_s]; omega
    · rw [zu_n _ _ q]; exact hd j (by omega)
  · rw [hre] at hv2
    rw [e0, hv, hr, zu_s, hv_congr (t := r1) (k := n.toNat) (fun j q => zu_n _ _ (by omega))]
    have e1 : (1200 + P - n).toNat = (1200 + P - (n + 1)).toNat + 1 := by omega
    rw [e1, Nat.pow_succ] at h4
    have e2 : hv r n.toNat = 2 * hv r1 n.toNat + 1 := by omega
    rw [e2] at h4
    have e3 : (5 : Int).toNat = 5 := rfl
    rw [e3]
    generalize 10 ^ (1200 + P - (n + 1)).toNat = b at h4
    generalize hv r1 n.toNat = a at h4
    have e4 : (2 * a + 1) * (b * 10) = 2 * ((10 * a + 5) * b) := by grind
    omega
/-- the lowest digits first -/
def tv (r : Nat → Int) (n : Nat) : Nat → Nat
  | 0 => 0
  | m + 1 => tv r n m + (r (n - 1 - m)).toNat * 10 ^ m
theorem tv_congr {r t : Nat → Int} {n : Nat} : ∀ {m : Nat}, (∀ j, n - m ≤ j → j < n → r j = t j) → m ≤ n → tv r n m = tv t n m
  | 0, _, _ => rfl
  | m + 1, h, hm => by rw [tv, tv, tv_congr (m := m) (fun j q1 q2 => h j (by omega) q2) (by omega), h (n - 1 - m) (by omega) (by omega)]
theorem tv_hv (r : Nat → Int) (n : Nat) : ∀ m, m ≤ n → hv r n = hv r (n - m) * 10 ^ m + tv r n m
  | 0, _ => by rw [Nat.sub_zero, Nat.pow_zero, Nat.mul_one, tv, Nat.add_zero]
  | m + 1, h => by
    have e : n - m = (n - (m + 1)) + 1 := by omega
    have e2 : n - 1 - m = n - (m + 1) := by omega
    rw [tv_hv r n m (by omega), e, hv, tv, e2, Nat.pow_succ]
    grind
theorem tw_step {v1 cr v b nw c2 x : Nat} (h1 : v1 + cr * b = 2 * v) (h2 : nw + c2 * 10 = 2 * x + cr) : v1 + nw * b + c2 * (b * 10) = 2 * (v + x * b) := by
  have h3 : (nw + c2 * 10) * b = (2 * x + cr) * b := by rw [h2]
  grind
