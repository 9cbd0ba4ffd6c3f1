/-! bits and masks over Ints -/
theorem lI_nat (a : Int) : (lI a).toBitVec.toNat = (a % 18446744073709551616).toNat := by
  show (BitVec.ofInt 64 a).toNat = _
  rw [BitVec.toNat_ofInt]; rfl
theorem lI_ext {x : Int64} {a : Int} (h : x.toBitVec.toNat = (a % 18446744073709551616).toNat) : x = lI a := by
  apply Int64.toBitVec_inj.mp
  apply BitVec.eq_of_toNat_eq
  rw [lI_nat]; exact h
theorem zI_nat (a : Int) : (zI a).toBitVec.toNat = (a % 4294967296).toNat := by
  show (BitVec.ofInt 32 a).toNat = _
  rw [BitVec.toNat_ofInt]; rfl
theorem zI_ext {x : Int32} {a : Int} (h : x.toBitVec.toNat = (a % 4294967296).toNat) : x = zI a := by
  apply Int32.toBitVec_inj.mp
  apply BitVec.eq_of_toNat_eq
  rw [zI_nat]; exact h
theorem lI_m52 (a : Int) : lI a &&& lI 4503599627370495 = lI (a % 4503599627370496) := by
  apply lI_ext
  rw [Int64.toBitVec_and, BitVec.toNat_and, lI_nat, lI_nat]
  have h : ((4503599627370495 : Int) % 18446744073709551616).toNat = 2 ^ 52 - 1 := by decide
  rw [h, Nat.and_two_pow_sub_one_eq_mod]; omega
theorem lI_m11 (a : Int) : lI a &&& lI 2047 = lI (a % 2048) := by
  apply lI_ext
  rw [Int64.toBitVec_and, BitVec.toNat_and, lI_nat, lI_nat]
  have h : ((2047 : Int) % 18446744073709551616).toNat = 2 ^ 11 - 1 := by decide
  rw [h, Nat.and_two_pow_sub_one_eq_mod]; omega
theorem lI_m1 (a : Int) : lI a &&& lI 1 = lI (a % 2) := by
  apply lI_ext
  rw [Int64.toBitVec_and, BitVec.toNat_and, lI_nat, lI_nat]
  have h : ((1 : Int) % 18446744073709551616).toNat = 2 ^ 1 - 1 := by decide
  rw [h, Nat.and_two_pow_sub_one_eq_mod]; omega
theorem zI_m11 (a : Int) : zI a &&& zI 2047 = zI (a % 2048) := by
  apply zI_ext
  rw [Int32.toBitVec_and, BitVec.toNat_and, zI_nat, zI_nat]
  have h : ((2047 : Int) % 4294967296).toNat = 2 ^ 11 - 1 := by decide
  rw [h, Nat.and_two_pow_sub_one_eq_mod]; omega
theorem zI_m2 (a : Int) : zI a &&& zI 3 = zI (a % 4) := by
  apply zI_ext
  rw [Int32.toBitVec_and, BitVec.toNat_and, zI_nat, zI_nat]
  have h : ((3 : Int) % 4294967296).toNat = 2 ^ 2 - 1 := by decide
  rw [h, Nat.and_two_pow_sub_one_eq_mod]; omega
theorem lI_u52 (a : Int) : ((lI a).toUInt64 >>> ((zI 52).toInt64.toUInt64 &&& Int64.toUInt64 63)).toInt64 = lI (a % 18446744073709551616 / 4503599627370496) := by
  apply lI_ext
  show ((lI a).toUInt64 >>> ((zI 52).toInt64.toUInt64 &&& Int64.toUInt64 63)).toNat = _
  have h : ((zI 52).toInt64.toUInt64 &&& Int64.toUInt64 63).toNat % 64 = 52 := by decide
  rw [UInt64.toNat_shiftRight, Nat.shiftRight_eq_div_pow, h]
  show (lI a).toBitVec.toNat / 2 ^ 52 = _
  rw [lI_nat]; omega
theorem lI_s52 {a : Int} (ha : -9223372036854775808 ≤ a ∧ a ≤ 9223372036854775807) : lI a >>> ((zI 52).toInt64 &&& 63) = lI (a / 4503599627370496) := by
  apply lI_eq_of
  have hD : (((zI 52).toInt64 &&& 63).toBitVec.smod 64).toNat = 52 := by decide
  have e : (lI a >>> ((zI 52).toInt64 &&& 63)).toInt = (lI a).toInt >>> 52 := by
    rw [← hD]
    exact BitVec.toInt_sshiftRight ..
  rw [e, Int.shiftRight_eq_div_pow, lI_toInt ha]; rfl
theorem lI_s1 {a : Int} (ha : -9223372036854775808 ≤ a ∧ a ≤ 9223372036854775807) : lI a >>> ((zI 1).toInt64 &&& 63) = lI (a / 2) := by
  apply lI_eq_of
  have hD : (((zI 1).toInt64 &&& 63).toBitVec.smod 64).toNat = 1 := by decide
  have e : (lI a >>> ((zI 1).toInt64 &&& 63)).toInt = (lI a).toInt >>> 1 := by
    rw [← hD]
    exact BitVec.toInt_sshiftRight ..
  rw [e, Int.shiftRight_eq_div_pow, lI_toInt ha]; rfl
theorem zI_flagF : ∀ f : Fin 32, ∀ k ∈ ([1, 2, 4, 8, 16] : List Int), zI (f.val : Int) &&& zI k = zI (k * ((f.val : Int) / k % 2)) := by decide +kernel
theorem zI_flag {f k : Int} (hf : 0 ≤ f ∧ f ≤ 31) (hk : k ∈ ([1, 2, 4, 8, 16] : List Int)) : zI f &&& zI k = zI (k * (f / k % 2)) := by
  have h := zI_flagF ⟨f.toNat, by omega⟩ k hk
  have e : ((f.toNat : Nat) : Int) = f := by omega
  simp only [e] at h
  exact h
theorem ten_pow (k : Nat) : 10 ^ k = 2 ^ k * 5 ^ k := by rw [← Nat.mul_pow]
/-- rounding down keeps the digits from the cut on -/
theorem rnd_down {N c : Nat} (hq : rq N (10 ^ c) = N / 10 ^ c) : (∀ j, c ≤ j → dg (rX N c) j = dg N j) ∧ (0 < rX N c → ln N = ln (rX N c)) ∧ (rX N c = 0 → ln N ≤ c) := by
  have hp := p10_pos c
  have hm : N % 10 ^ c < 10 ^ c := Nat.mod_lt _ hp
  have e : N = N % 10 ^ c + N / 10 ^ c * 10 ^ c := by
    have := Nat.div_add_mod N (10 ^ c); rw [Nat.mul_comm] at this; omega
  unfold rX
  rw [hq]
  refine ⟨?_, ?_, ?_⟩
  · intro j hj
    obtain ⟨t, rfl⟩ : ∃ t, j = c + t := ⟨j - c, by omega⟩
    rw [dg_mul, dg_add]
  · intro h
    have h1 : 0 < N / 10 ^ c := by
      rcases Nat.eq_zero_or_pos (N / 10 ^ c) with h0 | h0
      · rw [h0, Nat.zero_mul] at h; omega
      · exact h0
    rw [ln_mul h1]
    have h2 := ln_high hm h1
    rw [← e] at h2; omega
  · intro h
    have h1 : N / 10 ^ c = 0 := by
      rcases Nat.mul_eq_zero.mp h with h0 | h0
      · exact h0
      · omega
    rw [h1, Nat.zero_mul, Nat.add_zero] at e
    exact ln_le_of (by omega)
theorem rnd_up {N c k : Nat} (hq : rq N (10 ^ c) = N / 10 ^ c + 1) (hk : c ≤ k) (h9 : ∀ j, c ≤ j → j < k → dg N j = 9) (hn : dg N k ≠ 9) : (∀ j, c ≤ j → j < k → dg (rX N c) j = 0) ∧ dg (rX N c) k = dg N k + 1 ∧ (∀ j, k < j → dg (rX N c) j = dg N j) ∧ 0 < rX N c ∧ ln (rX N c) = max (ln N) (k + 1) := by
  have hp := p10_pos c
  have hm : N % 10 ^ c < 10 ^ c := Nat.mod_lt _ hp
  have e : N = N % 10 ^ c + N / 10 ^ c * 10 ^ c := by
    have := Nat.div_add_mod N (10 ^ c); rw [Nat.mul_comm] at this; omega
  obtain ⟨s, rfl⟩ : ∃ s, k = c + s := ⟨k - c, by omega⟩
  obtain ⟨a1, a2, a3, a4⟩ := inc_dg s (N / 10 ^ c) (fun t ht => by rw [← dg_add]; exact h9 _ (by omega) (by omega)) (by rw [← dg_add]; exact hn)
  unfold rX
  rw [hq]
  refine ⟨?_, ?_, ?_, ?_, ?_⟩
  · intro j h1 h2
    obtain ⟨t, rfl⟩ : ∃ t, j = c + t := ⟨j - c, by omega⟩
    rw [dg_mul]; exact a1 t (by omega)
  · rw [dg_mul, a2, dg_add]
  · intro j h1
    obtain ⟨t, rfl⟩ : ∃ t, j = c + t := ⟨j - c, by omega⟩
    rw [dg_mul, dg_add]; exact a3 t (by omega)
  · exact Nat.mul_pos (Nat.succ_pos _) hp
  · rw [ln_mul (Nat.succ_pos _), a4]
    rcases Nat.eq_zero_or_pos (N / 10 ^ c) with h0 | h0
    · rw [h0, ln_0]
      rw [h0, Nat.zero_mul, Nat.add_zero] at e
      have h2 : ln N ≤ c := ln_le_of (by omega)
      omega
    · have h2 := ln_high hm h0
      rw [← e] at h2; omega
