/-! the reference's cut -/
theorem hv_nines {r : Nat → Int} : ∀ {t : Nat}, (∀ j, j < t → r j = 9) → hv r t + 1 = 10 ^ t
  | 0, _ => rfl
  | t + 1, h => by
    have h1 := hv_nines (r := r) (t := t) (fun j q => h j (by omega))
    have h2 : (r t).toNat = 9 := by rw [h t (by omega)]; rfl
    rw [hv, h2, Nat.pow_succ]; omega
theorem hv_inc {r t : Nat → Int} {k m : Nat} (hk : k < m) (h0 : ∀ j, j < k → t j = r j) (h1 : t k = r k + 1) (hr : 0 ≤ r k) (h2 : ∀ j, k < j → j < m → r j = 9 ∧ t j = 0) : hv t m = hv r m + 1 := by
  obtain ⟨s, rfl⟩ : ∃ s, m = (k + 1) + s := ⟨m - (k + 1), by omega⟩
  rw [hv_add t (k + 1) s, hv_add r (k + 1) s, hv, hv, hv_congr h0, h1, hv_zero (fun j q => (h2 (k + 1 + j) (by omega) (by omega)).2)]
  have e := hv_nines (r := fun j => r (k + 1 + j)) (t := s) (fun j q => (h2 (k + 1 + j) (by omega) (by omega)).1)
  have e2 : (r k + 1).toNat = (r k).toNat + 1 := by omega
  rw [e2, ← Nat.add_assoc, Nat.add_mul, Nat.one_mul]
  omega
theorem cut_rq {r : Nat → Int} {n P c : Int} {X : Nat} (h : mRep r n P X) (hc : 0 ≤ c ∧ c < n) : rq X (10 ^ (1200 + P - c).toNat) = if (5 < r c.toNat ∨ (r c.toNat = 5 ∧ ((0 < c ∧ r (c - 1).toNat % 2 = 1) ∨ c + 1 < n))) then hv r c.toNat + 1 else hv r c.toNat := by
  have hd := @mRep_dg r n P X h
  obtain ⟨⟨h1, h2, h3, h4⟩, h5, h6⟩ := h
  obtain ⟨m, hm⟩ : ∃ m : Nat, (1200 + P - c).toNat = m + 1 := ⟨(1200 + P - c).toNat - 1, by omega⟩
  have g4 : X / 10 ^ (m + 1) = hv r c.toNat := by
    have e1 : m + 1 = (1200 + P - n).toNat + (n - c).toNat := by omega
    have e2 : n.toNat = c.toNat + (n - c).toNat := by omega
    rw [h4, e1, Nat.pow_add, ← Nat.div_div_eq_div_mul, Nat.mul_div_cancel _ (p10_pos _), e2]
    exact hv_div (fun j q1 q2 => h1 j (by omega))
  have g1 : (dg X m : Int) = r c.toNat := by
    have k1 := @hd c (by omega)
    unfold mD gX at k1
    rw [if_pos hc] at k1
    have e : (P - 1 - c + 1200).toNat = m := by omega
    rw [e] at k1; exact k1.symm
  have g2 : (dg X (m + 1) : Int) = mD r n (c - 1) := by
    have k1 := @hd (c - 1) (by omega)
    rw [k1]
    unfold gX
    have e : (P - 1 - (c - 1) + 1200).toNat = m + 1 := by omega
    rw [e]
  have g3 : (∃ j, j < m ∧ dg X j ≠ 0) ↔ c + 1 < n := by
    constructor
    · rintro ⟨j, k1, k2⟩
      apply Int.not_le.mp
      intro k3
      apply k2
      rw [h4]; exact dg_mul_lt _ (by omega)
    · intro k
      refine ⟨(1200 + P - n).toNat, by omega, ?_⟩
      have k1 := @hd (n - 1) (by omega)
      unfold mD gX at k1
      rw [if_pos (by omega)] at k1
      have e : (P - 1 - (n - 1) + 1200).toNat = (1200 + P - n).toNat := by omega
      rw [e] at k1
      have := (h6 (by omega)).2
      omega
  have g5 : dg X (m + 1) % 2 = 1 ↔ (0 < c ∧ r (c - 1).toNat % 2 = 1) := by
    unfold mD at g2
    by_cases k : 0 < c
    · rw [if_pos (by omega)] at g2
      constructor
      · intro q; exact ⟨k, by omega⟩
      · rintro ⟨-, q⟩; omega
    · rw [if_neg (by omega)] at g2
      constructor
      · intro q; omega
      · rintro ⟨q, -⟩; omega
  rw [hm, rq_up, g4]
  by_cases k : (5 < r c.toNat ∨ (r c.toNat = 5 ∧ ((0 < c ∧ r (c - 1).toNat % 2 = 1) ∨ c + 1 < n)))
  · rw [if_pos k, if_pos]
    rcases k with k | ⟨k1, k2⟩
    · exact Or.inl (by clear g3; omega)
    · refine Or.inr ⟨by clear g3; omega, ?_⟩
      rcases k2 with k2 | k2
      · exact Or.inr (g5.mpr k2)
      · exact Or.inl (g3.mpr k2)
  · rw [if_neg k, if_neg]
    rintro (q | ⟨q1, q2⟩)
    · exact k (Or.inl (by clear g3; omega))
    · refine k (Or.inr ⟨by clear g3 q2; omega, ?_⟩)
      rcases q2 with q2 | q2
      · exact Or.inr (g3.mp q2)
      · exact Or.inl (g5.mp q2)
theorem cut_id {r : Nat → Int} {n P c : Int} {X : Nat} (h : mRep r n P X) (hc : n ≤ c) (h0 : 0 ≤ 1200 + P - c) : rX X (1200 + P - c).toNat = X := by
  obtain ⟨⟨h1, h2, h3, h4⟩, h5, h6⟩ := h
  have k := rX_scale (N := hv r n.toNat) (X := X) (a := (1200 + P - n).toNat) (c' := (1200 + P - c).toNat) (ci := n - c) h4.symm (by omega)
  have e : (n - c).toNat = 0 := by omega
  rw [k, e, rX_0, ← h4]
theorem cut_neg {r : Nat → Int} {n P c : Int} {X : Nat} (h : mRep r n P X) (hc : c < 0) : rX X (1200 + P - c).toNat = 0 := by
  have hl := mRep_ln h
  obtain ⟨⟨h1, h2, h3, h4⟩, h5, h6⟩ := h
  rcases Nat.eq_zero_or_pos X with q | q
  · rw [q, rX_z]
  · have k1 := hl q
    have k2 := ln_lt X
    have e : (1200 + P - c).toNat = ln X + ((-c).toNat - 1) + 1 := by omega
    have k3 : 10 ^ ln X ≤ 10 ^ (ln X + ((-c).toNat - 1)) := Nat.pow_le_pow_right (by decide) (by omega)
    unfold rX rq
    rw [e, Nat.pow_succ]
    generalize 10 ^ (ln X + ((-c).toNat - 1)) = b at k3
    have k4 : X < b * 10 := by omega
    rw [Nat.mod_eq_of_lt k4, Nat.div_eq_of_lt k4, if_neg (by omega), Nat.zero_mul]
theorem cut_pre0 {r : Nat → Int} {n P c : Int} {X : Nat} (h : mRep r n P X) (hc : 0 ≤ c ∧ c < n) (hu : ¬ (5 < r c.toNat ∨ (r c.toNat = 5 ∧ ((0 < c ∧ r (c - 1).toNat % 2 = 1) ∨ c + 1 < n)))) : mPre r c P (rX X (1200 + P - c).toNat) := by
  have k := cut_rq h hc
  rw [if_neg hu] at k
  obtain ⟨⟨h1, h2, h3, h4⟩, h5, h6⟩ := h
  refine ⟨fun j q => h1 j (by omega), hc.1, by omega, ?_⟩
  unfold rX; rw [k]
theorem cut_pre1 {r t : Nat → Int} {n P c k : Int} {X : Nat} (h : mRep r n P X) (hc : 0 ≤ c ∧ c < n) (hu : (5 < r c.toNat ∨ (r c.toNat = 5 ∧ ((0 < c ∧ r (c - 1).toNat % 2 = 1) ∨ c + 1 < n)))) (hk : 0 ≤ k ∧ k < c) (h0 : ∀ j : Nat, (j : Int) < k → t j = r j) (h1 : t k.toNat = r k.toNat + 1) (h9 : r k.toNat ≠ 9) (h2 : ∀ j : Nat, k < (j : Int) → (j : Int) < c → r j = 9 ∧ t j = 0) : mPre t c P (rX X (1200 + P - c).toNat) := by
  have q := cut_rq h hc
  rw [if_pos hu] at q
  obtain ⟨⟨d1, d2, d3, d4⟩, d5, d6⟩ := h
  have dk := d1 k.toNat (by omega)
  refine ⟨fun j q => ?_, hc.1, by omega, ?_⟩
  · rcases Int.lt_trichotomy (j : Int) k with k1 | k1 | k1
    · rw [h0 j k1]; exact d1 j (by omega)
    · have e : k.toNat = j := by omega
      rw [e] at h1 h9 dk
      rw [h1]; omega
    · rw [(h2 j k1 q).2]; omega
  · unfold rX
    rw [q, hv_inc (t := t) (k := k.toNat) (by omega) (fun j q => h0 j (by omega)) h1 dk.1 (fun j q1 q2 => h2 j (by omega) (by omega))]
theorem cut_pre2 {r t : Nat → Int} {n P c : Int} {X : Nat} (h : mRep r n P X) (hc : 0 ≤ c ∧ c < n) (hu : (5 < r c.toNat ∨ (r c.toNat = 5 ∧ ((0 < c ∧ r (c - 1).toNat % 2 = 1) ∨ c + 1 < n)))) (h9 : ∀ j : Nat, (j : Int) < c → r j = 9) (h0 : t 0 = 1) (h1 : ∀ j : Nat, 0 < (j : Int) → (j : Int) ≤ c → t j = 0) : mPre t (c + 1) (P + 1) (rX X (1200 + P - c).toNat) := by
  have q := cut_rq h hc
  rw [if_pos hu] at q
  obtain ⟨⟨d1, d2, d3, d4⟩, d5, d6⟩ := h
  refine ⟨fun j q => ?_, by omega, by omega, ?_⟩
  · by_cases k : j = 0
    · rw [k, h0]; omega
    · rw [h1 j (by omega) (by omega)]; omega
  · have e1 : (c + 1).toNat = c.toNat + 1 := by omega
    have e2 : (1200 + (P + 1) - (c + 1)).toNat = (1200 + P - c).toNat := by omega
    have e3 := hv_nines (r := r) (t := c.toNat) (fun j q => h9 j (by omega))
    unfold rX
    rw [q, e1, e2, e3, hv_cons (r := fun _ => 0) (fun j q => h1 (j + 1) (by omega) (by omega)), h0, hv_zero (fun j q => rfl)]
    show _ = (1 * _ + 0) * _
    rw [Nat.one_mul, Nat.add_zero]
