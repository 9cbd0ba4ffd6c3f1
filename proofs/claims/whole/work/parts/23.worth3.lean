theorem take_b {ba wh m : Int} (hba : ba = 2 ∨ ba = 5) (hwh : 0 ≤ wh ∧ wh < 9007199254740992) (hm : m ≤ 1074) : wh * ba ^ m.toNat < 1000000000 ^ 86 := by
  have h1 : ba ^ m.toNat ≤ ba ^ 1074 := pow_mono_i hba (by omega)
  have h2 : ba ^ 1074 ≤ 5 ^ 1074 := by
    rcases hba with rfl | rfl
    · decide +kernel
    · exact Int.le_refl _
  have h3 : (0 : Int) < ba ^ m.toNat := Int.pow_pos (by omega)
  have h4 : wh * ba ^ m.toNat ≤ 9007199254740992 * ba ^ m.toNat := Int.mul_le_mul_of_nonneg_right (by omega) (Int.le_of_lt h3)
  have h5 : (9007199254740992 : Int) * 5 ^ 1074 < 1000000000 ^ 86 := by decide +kernel
  omega
theorem take_n {ba wh m : Int} (hba : ba = 2 ∨ ba = 5) (hwh : 0 ≤ wh ∧ wh < 9007199254740992) (hm : m ≤ 1074) : (wh * ba ^ m.toNat).toNat < 10 ^ 767 := by
  have h1 : ba ^ m.toNat ≤ ba ^ 1074 := pow_mono_i hba (by omega)
  have h2 : ba ^ 1074 ≤ 5 ^ 1074 := by
    rcases hba with rfl | rfl
    · decide +kernel
    · exact Int.le_refl _
  have h3 : (0 : Int) < ba ^ m.toNat := Int.pow_pos (by omega)
  have h4 : wh * ba ^ m.toNat ≤ 9007199254740992 * ba ^ m.toNat := Int.mul_le_mul_of_nonneg_right (by omega) (Int.le_of_lt h3)
  have h5 : (9007199254740992 : Int) * 5 ^ 1074 < ((10 ^ 767 : Nat) : Int) := by decide +kernel
  omega
theorem take_e5 {wh po m d : Int} (hwh : 0 ≤ wh) (hpo : -1074 ≤ po ∧ po < 0) (hm : m = -po) (hd : d = -po) : (wh * (5 : Int) ^ m.toNat).toNat * 10 ^ (1200 - d).toNat = wh.toNat * 2 ^ (po + 1200).toNat * 5 ^ 1200 := by
  obtain ⟨w, rfl⟩ : ∃ w : Nat, wh = (w : Int) := ⟨wh.toNat, by omega⟩
  have e0 : (5 : Int) ^ m.toNat = ((5 ^ m.toNat : Nat) : Int) := by rw [Int.natCast_pow]; rfl
  have e1 : (1200 - d).toNat = (po + 1200).toNat := by omega
  have e2 : (5 : Nat) ^ 1200 = 5 ^ m.toNat * 5 ^ (po + 1200).toNat := by
    rw [← Nat.pow_add]; congr 1; omega
  rw [e0, ← Int.natCast_mul, Int.toNat_natCast, Int.toNat_natCast, e1, ten_pow, e2]
  generalize (5 : Nat) ^ m.toNat = a
  generalize (5 : Nat) ^ (po + 1200).toNat = b
  generalize (2 : Nat) ^ (po + 1200).toNat = c
  grind
theorem take_e2 {wh po m d : Int} (hwh : 0 ≤ wh) (hpo : 0 ≤ po) (hm : m = po) (hd : d = 0) : (wh * (2 : Int) ^ m.toNat).toNat * 10 ^ (1200 - d).toNat = wh.toNat * 2 ^ (po + 1200).toNat * 5 ^ 1200 := by
  obtain ⟨w, rfl⟩ : ∃ w : Nat, wh = (w : Int) := ⟨wh.toNat, by omega⟩
  have e0 : (2 : Int) ^ m.toNat = ((2 ^ m.toNat : Nat) : Int) := by rw [Int.natCast_pow]; rfl
  have e1 : (1200 - d).toNat = 1200 := by omega
  have e2 : (2 : Nat) ^ (po + 1200).toNat = 2 ^ m.toNat * 2 ^ 1200 := by
    rw [← Nat.pow_add]; congr 1; omega
  rw [e0, ← Int.natCast_mul, Int.toNat_natCast, Int.toNat_natCast, e1, ten_pow, e2]
  generalize (2 : Nat) ^ m.toNat = a
  generalize (2 : Nat) ^ 1200 = b
  generalize (5 : Nat) ^ 1200 = c
  grind
theorem dI_rep {r : Nat → Int} {N : Nat} (hrep : ∀ j : Nat, j < 774 → r j = (dg N j : Int)) (hN : N < 10 ^ 767) {i : Int} (hi : 0 ≤ i) : dI r i = (dg N i.toNat : Int) := by
  unfold dI
  by_cases k : 0 ≤ i ∧ i < 774
  · rw [if_pos k, hrep _ (by omega)]
  · rw [if_neg k, dg_big (Nat.lt_of_lt_of_le hN (Nat.pow_le_pow_right (by decide) (by omega)))]; rfl
theorem up_rep {r : Nat → Int} {N : Nat} {cut : Int} (hc : 0 < cut) (hrep : ∀ j : Nat, j < 774 → r j = (dg N j : Int)) (hN : N < 10 ^ 767) : (5 < dI r (cut - 1) ∨ (dI r (cut - 1) = 5 ∧ ((∃ j : Nat, (j : Int) < cut - 1 ∧ r j ≠ 0) ∨ dI r cut % 2 = 1))) ↔ (5 < dg N (cut.toNat - 1) ∨ (dg N (cut.toNat - 1) = 5 ∧ ((∃ j, j < cut.toNat - 1 ∧ dg N j ≠ 0) ∨ dg N (cut.toNat - 1 + 1) % 2 = 1))) := by
  have e1 : (cut - 1).toNat = cut.toNat - 1 := by omega
  have e2 : cut.toNat - 1 + 1 = cut.toNat := by omega
  rw [dI_rep hrep hN (by omega), dI_rep hrep hN (by omega), e1, e2]
  have hb : dg N (cut.toNat - 1) = 5 → cut.toNat - 1 < 774 := by
    intro h
    apply Nat.lt_of_not_le
    intro k
    rw [dg_big (Nat.lt_of_lt_of_le hN (Nat.pow_le_pow_right (by decide) (by omega)))] at h
    omega
  constructor
  · rintro (h | ⟨h, h2⟩)
    · exact Or.inl (by omega)
    · have h5 : dg N (cut.toNat - 1) = 5 := by omega
      refine Or.inr ⟨h5, ?_⟩
      rcases h2 with ⟨j, q1, q2⟩ | h2
      · refine Or.inl ⟨j, by omega, fun q => q2 ?_⟩
        have := hb h5
        rw [hrep j (by omega), q]; rfl
      · exact Or.inr (by omega)
  · rintro (h | ⟨h, h2⟩)
    · exact Or.inl (by omega)
    · refine Or.inr ⟨by omega, ?_⟩
      rcases h2 with ⟨j, q1, q2⟩ | h2
      · have := hb h
        refine Or.inl ⟨j, by omega, ?_⟩
        rw [hrep j (by omega)]; omega
      · exact Or.inr (by omega)
theorem rq_no {r : Nat → Int} {N : Nat} {cut : Int} (hc : 0 < cut) (hrep : ∀ j : Nat, j < 774 → r j = (dg N j : Int)) (hN : N < 10 ^ 767) (h : ¬ (5 < dI r (cut - 1) ∨ (dI r (cut - 1) = 5 ∧ ((∃ j : Nat, (j : Int) < cut - 1 ∧ r j ≠ 0) ∨ dI r cut % 2 = 1)))) : rq N (10 ^ cut.toNat) = N / 10 ^ cut.toNat := by
  rw [up_rep hc hrep hN] at h
  have e2 : cut.toNat - 1 + 1 = cut.toNat := by omega
  have h1 := rq_up N (cut.toNat - 1)
  rw [if_neg h, e2] at h1
  exact h1
theorem rq_yes {r : Nat → Int} {N : Nat} {cut : Int} (hc : 0 < cut) (hrep : ∀ j : Nat, j < 774 → r j = (dg N j : Int)) (hN : N < 10 ^ 767) (h : (5 < dI r (cut - 1) ∨ (dI r (cut - 1) = 5 ∧ ((∃ j : Nat, (j : Int) < cut - 1 ∧ r j ≠ 0) ∨ dI r cut % 2 = 1)))) : rq N (10 ^ cut.toNat) = N / 10 ^ cut.toNat + 1 ∧ cut ≤ 767 := by
  rw [up_rep hc hrep hN] at h
  have e2 : cut.toNat - 1 + 1 = cut.toNat := by omega
  have h1 := rq_up N (cut.toNat - 1)
  rw [if_pos h, e2] at h1
  refine ⟨h1, ?_⟩
  apply Int.not_lt.mp
  intro k
  rw [dg_big (Nat.lt_of_lt_of_le hN (Nat.pow_le_pow_right (by decide) (by omega)))] at h
  omega
theorem rnd_row {r r2 : Nat → Int} {N : Nat} {cnt cn2 cut : Int} (h9 : ∀ j : Nat, j < 774 → 0 ≤ r j ∧ r j ≤ 9) (hrep : ∀ j : Nat, j < 774 → r j = (dg N j : Int)) (hN : N < 10 ^ 767) (hcn : cnt = (ln N : Int)) (hc : 0 < cut) (hq : rq N (10 ^ cut.toNat) = N / 10 ^ cut.toNat + 1) (hcb : cut ≤ 767)
    (hp : ∃ k : Int, (cut ≤ k) ∧ (∀ j : Nat, cut ≤ (j : Int) → (j : Int) < k → j < 774 → r j = 9 ∧ r2 j = 0) ∧ (∀ j : Nat, (j : Int) < cut → r2 j = r j) ∧ (∀ j : Nat, k < (j : Int) → r2 j = r j) ∧ (k < 774 → r k.toNat ≠ 9 ∧ r2 k.toNat = r k.toNat + 1 ∧ ((cnt < k + 1 ∧ cn2 = k + 1) ∨ (k + 1 ≤ cnt ∧ cn2 = cnt))) ∧ (774 ≤ k → cn2 = cnt ∧ (cut ≤ 774 → k = 774))) :
    (∀ j : Nat, cut.toNat ≤ j → j < 774 → r2 j = (dg (rX N cut.toNat) j : Int)) ∧ (0 < rX N cut.toNat → cn2 = (ln (rX N cut.toNat) : Int)) ∧ (rX N cut.toNat = 0 → cn2 ≤ (cut.toNat : Int)) ∧ (0 ≤ cn2 ∧ cn2 ≤ 774) ∧ (∀ j : Nat, j < 774 → 0 ≤ r2 j ∧ r2 j ≤ 9) ∧ (N = 0 → cn2 = 0) := by
  obtain ⟨k, k1, k2, k3, k4, k5, k6⟩ := hp
  have z767 : r 767 = 0 := by rw [hrep 767 (by omega), dg_big hN]; rfl
  have hk : k ≤ 767 := by
    apply Int.not_lt.mp
    intro q
    have := (k2 767 (by omega) (by omega) (by omega)).1
    omega
  obtain ⟨k51, k52, k53⟩ := k5 (by omega)
  have hlN := ln_le_of hN
  obtain ⟨a1, a2, a3, a4, a5⟩ := rnd_up (N := N) (c := cut.toNat) (k := k.toNat) hq (by omega) (fun j q1 q2 => by
      have := (k2 j (by omega) (by omega) (by omega)).1
      rw [hrep j (by omega)] at this; omega) (by
      rw [hrep _ (by omega)] at k51; omega)
  have hrow : ∀ j : Nat, cut.toNat ≤ j → j < 774 → r2 j = (dg (rX N cut.toNat) j : Int) := by
    intro j q1 q2
    by_cases q3 : (j : Int) < k
    · rw [(k2 j (by omega) q3 q2).2, a1 j q1 (by omega)]; rfl
    · by_cases q4 : (j : Int) = k
      · have q5 : k.toNat = j := by omega
        rw [q5] at k52 a2
        rw [k52, hrep j q2, a2]; omega
      · rw [k4 j (by omega), hrep j q2, a3 j (by omega)]
  refine ⟨hrow, fun _ => ?_, fun q => by omega, by omega, ?_, fun q => ?_⟩
  · rw [a5]; omega
  · intro j q
    by_cases q1 : (j : Int) < cut
    · rw [k3 j q1]; exact h9 j q
    · rw [hrow j (by omega) q]
      have := dg_lt (rX N cut.toNat) j
      omega
  · exfalso
    rw [q] at hq
    unfold rq at hq
    rw [Nat.zero_mod, Nat.zero_div, if_neg (by have := p10_pos cut.toNat; omega)] at hq
    omega

set_option maxHeartbeats 4000000 in
set_option maxRecDepth 100000 in
theorem c_X2_exponentField (l : Launch) (D : va_G) (bz : Int) (hbz : -9223372036854775808 ≤ bz ∧ bz ≤ 9223372036854775807) : zMi (T := Unit) l yX2_exponentField wsX2_exponentField ({ frames := 0, cells := 0, slots := 0, locals := 0 } : Room) D [] [.long (lI bz)] [] (fun (z : Int) (u : Unit) => z = xE bz) (fun (u : Unit) => []) 0 0 := by
  refine zMi.of (bytes := cX2_exponentField) (nL := 2) (own := RX2) (by decide) rfl rfl (Nat.le_of_ble_eq_true rfl) ?_
  intro p e s m below meth c ls S hr hlk hnm w hl
  have hl : lv_has ls 2 [(0, .long (lI bz))] := hl
  refine lv_lload_n S.1 S.2.1 dX2_exponentField_0 rfl (lv_at hl 0 rfl) ?_
  refine z_bipush S dX2_exponentField_1 (by decide +kernel) ?_
  refine z_lushr S dX2_exponentField_3 (v := (bz % 18446744073709551616 / 4503599627370496)) (lI_u52 bz) ?_
  refine z_l2i S dX2_exponentField_4 ?_
  refine z_sipush S dX2_exponentField_5 (by decide +kernel) ?_
  refine z_iand S dX2_exponentField_8 (v := (xE bz)) (by rw [zI_m11]; congr 1; unfold xE; omega) ?_
  exact z_iret S hr hlk w (zNar_int _) () rfl rfl dX2_exponentField_9

set_option maxRecDepth 20000 in
theorem ml_X1_take_40 : Cond.methodLink RX1 40 Lib.Math.abs.name ∈ wsX1_take := by decide +kernel
set_option maxRecDepth 20000 in
theorem st_X1_take_abs : Cond.static Lib.Math.abs.name ∈ wsX1_take := by decide +kernel
set_option maxRecDepth 20000 in
theorem ini_X1_take_Math : Cond.initialized "java/lang/Math" ∈ wsX1_take := by decide +kernel
set_option maxRecDepth 20000 in
theorem co_X1_take_abs : Cond.code Lib.Math.abs.name Lib.Math.abs.code 1 (some .int) ∈ wsX1_take := by decide +kernel
set_option maxRecDepth 20000 in
theorem ml_X1_take_50 : Cond.methodLink RX1 50 Lib.Math.max.name ∈ wsX1_take := by decide +kernel
set_option maxRecDepth 20000 in
theorem st_X1_take_max : Cond.static Lib.Math.max.name ∈ wsX1_take := by decide +kernel
set_option maxRecDepth 20000 in
theorem co_X1_take_max : Cond.code Lib.Math.max.name Lib.Math.max.code 2 (some .int) ∈ wsX1_take := by decide +kernel
set_option maxRecDepth 20000 in
theorem ln_X1_take_25 : Cond.fieldLink RX1 25 "DecimalText$Worth" "decimals" "I" ∈ wsX1_take := by decide +kernel
theorem in_X1_take_X1 : ∀ w ∈ u_ws RX1 TX1 5, w ∈ wsX1_take := by decide +kernel
set_option maxRecDepth 20000 in
theorem st_X1_take_ef : Cond.static yX2_exponentField ∈ wsX1_take := by decide +kernel
set_option maxRecDepth 20000 in
theorem ini_X1_take_RX2 : Cond.initialized RX2 ∈ wsX1_take := by decide +kernel
set_option maxRecDepth 20000 in
theorem kl_X1_take_32 : Cond.constantLong RX1 32 (4503599627370495) ∈ wsX1_take := by decide +kernel
set_option maxRecDepth 20000 in
theorem kl_X1_take_34 : Cond.constantLong RX1 34 (4503599627370496) ∈ wsX1_take := by decide +kernel
set_option maxHeartbeats 4000000 in
set_option maxRecDepth 100000 in
theorem c_X1_take (l : Launch) (D : va_G) (cL cR : ClassId) (h : Nat) (ha : Nat) (hr1 : Nat) (L : Nat → Int) (lc : Int) (Rw : Nat → Int) (cnt : Int) (dec : Int) (bz : Int) (hbz : -9223372036854775808 ≤ bz ∧ bz ≤ 9223372036854775807) (hfin : xE bz ≠ 2047) : zMv (T := (Nat → Int) × Int × (Nat → Int) × Int × Int) l yX1_take wsX1_take ({ frames := 3, cells := 0, slots := 0, locals := 71 } : Room) D [(cL, .int), (cR, .int)] [.ref h, .long (lI bz)] [(h, .inr (1, [.ref ha, .int (zI lc), .ref hr1, .int (zI cnt), .int (zI dec)])), (ha, .inl (cL, 86, .inl (zA L))), (hr1, .inl (cR, 774, .inl (zA Rw)))] (fun (u : (Nat → Int) × Int × (Nat → Int) × Int × Int) => ∃ N : Nat, (∀ j : Nat, j < 774 → u.2.2.1 j = (dg N j : Int)) ∧ u.2.2.2.1 = (ln N : Int) ∧ (0 ≤ u.2.2.2.2 ∧ u.2.2.2.2 ≤ 1074) ∧ N * 10 ^ (1200 - u.2.2.2.2).toNat = xX bz ∧ N < 10 ^ 767) (fun (u : (Nat → Int) × Int × (Nat → Int) × Int × Int) => [(h, .inr (1, [.ref ha, .int (zI u.2.1), .ref hr1, .int (zI u.2.2.2.1), .int (zI u.2.2.2.2)])), (ha, .inl (cL, 86, .inl (zA u.1))), (hr1, .inl (cR, 774, .inl (zA u.2.2.1)))]) 0 0 := by
  refine zMv.of (bytes := cX1_take) (nL := 7) (own := RX1) (by decide) rfl rfl (Nat.le_of_ble_eq_true rfl) ?_
  intro p e s m below meth c ls S hr hlk hnm w hl
  have lab63 : ∀ (wh : Int) (po : Int), (0 ≤ wh ∧ wh < 9007199254740992) → (-1074 ≤ po ∧ po ≤ 971) → (wh.toNat * 2 ^ (po + 1200).toNat = (xM bz).toNat * 2 ^ (xP bz + 1200).toNat) → ∀ (H : Heap) (locs : List Loc) (ls : Array Slot), zW D [(cL, .int), (cR, .int)] (va_A [(h, .inr (1, [.ref ha, .int (zI lc), .ref hr1, .int (zI cnt), .int (zI dec)])), (ha, .inl (cL, 86, .inl (zA L))), (hr1, .inl (cR, 774, .inl (zA Rw)))] s.heap.size) s [(h, .inr (1, [.ref ha, .int (zI lc), .ref hr1, .int (zI cnt), .int (zI dec)])), (ha, .inl (cL, 86, .inl (zA L))), (hr1, .inl (cR, 774, .inl (zA Rw)))] H locs → lv_has ls 7 [(0, .ref h), (4, .long (lI wh)), (6, .int (zI po))] → W p l e ({ frames := 3, cells := 0, slots := 0, locals := 71 } : Room) s m ([.ref h, .long (lI bz)] : List Value).toArray below meth c H locs 0 0 (MQ below (zQv D [(cL, .int), (cR, .int)] [(h, .inr (1, [.ref ha, .int (zI lc), .ref hr1, .int (zI cnt), .int (zI dec)])), (ha, .inl (cL, 86, .inl (zA L))), (hr1, .inl (cR, 774, .inl (zA Rw)))] s.heap.size (fun (u : (Nat → Int) × Int × (Nat → Int) × Int × Int) => ∃ N : Nat, (∀ j : Nat, j < 774 → u.2.2.1 j = (dg N j : Int)) ∧ u.2.2.2.1 = (ln N : Int) ∧ (0 ≤ u.2.2.2.2 ∧ u.2.2.2.2 ≤ 1074) ∧ N * 10 ^ (1200 - u.2.2.2.2).toNat = xX bz ∧ N < 10 ^ 767) (fun (u : (Nat → Int) × Int × (Nat → Int) × Int × Int) => [(h, .inr (1, [.ref ha, .int (zI u.2.1), .ref hr1, .int (zI u.2.2.2.1), .int (zI u.2.2.2.2)])), (ha, .inl (cL, 86, .inl (zA u.1))), (hr1, .inl (cR, 774, .inl (zA u.2.2.1)))])) ([.ref h, .long (lI bz)] : List Value).toArray s 0 0 (va_A [(h, .inr (1, [.ref ha, .int (zI lc), .ref hr1, .int (zI cnt), .int (zI dec)])), (ha, .inl (cL, 86, .inl (zA L))), (hr1, .inl (cR, 774, .inl (zA Rw)))] s.heap.size)) (F0 m 63 ls []) := by
    intro wh po hwh hpo ev H locs ls w hl
    refine lv_aload_n S.1 S.2.1 dX1_take_63 rfl (lv_at hl 0 rfl) ?_
    refine lv_lload S.1 S.2.1 dX1_take_64 (lv_at hl 1 rfl) ?_
    refine z_callvV (C := RX1) (n := 1) (As := [.long (lI wh)]) (rest := []) (wr := []) (wn := (fun (u : (Nat → Int) × Int) => [(h, .inr (1, [.ref ha, .int (zI u.2), .ref hr1, .int (zI cnt), .int (zI dec)])), (ha, .inl (cL, 86, .inl (zA u.1))), (hr1, .inl (cR, 774, .inl (zA Rw)))])) S w (c_X1_setLimbs l D cL cR h ha hr1 L lc Rw cnt dec wh (by omega)) gX1_take_X1_setLimbs (by decide +kernel) rfl ⟨rfl, rfl⟩ ⟨Nat.le_of_ble_eq_true rfl, Nat.le_of_ble_eq_true rfl⟩ [0, 1] [0, 1, 2] [] [0, 1, 2] rfl rfl rfl rfl rfl (by decide) (fun u => rfl) rfl rfl rfl rfl rfl hl.1 (Nat.le_of_ble_eq_true rfl) ⟨Nat.le_of_ble_eq_true rfl, Nat.le_of_ble_eq_true rfl⟩ rfl dX1_take_66 (fun u H locs p66 w => ?_)
    obtain ⟨L1, lc1⟩ := u
    have p66 : lc1 = 2 ∧ vL L1 2 = wh ∧ (∀ j : Nat, (j : Int) < 2 → 0 ≤ L1 j ∧ L1 j < 1000000000) := p66
    have w : zW D _ _ s [(h, .inr (1, [.ref ha, .int (zI lc1), .ref hr1, .int (zI cnt), .int (zI dec)])), (ha, .inl (cL, 86, .inl (zA L1))), (hr1, .inl (cR, 774, .inl (zA Rw)))] H locs := w
    obtain ⟨s1, s2, s3⟩ := p66
    refine lv_aload_n S.1 S.2.1 dX1_take_69 rfl (lv_at hl 0 rfl) ?_
    refine lv_iload S.1 S.2.1 dX1_take_70 (lv_at hl 2 rfl) ?_
    refine z_if_ge (tgt := 79) S dX1_take_72 (by decide) (by omega) (fun h72 => ?_) (fun h72 => ?_)
    · skip
      refine z_iconst S dX1_take_79 ?_
      refine lv_iload S.1 S.2.1 dX1_take_80 (lv_at hl 2 rfl) ?_
      refine z_mabs S ml_X1_take_40 st_X1_take_abs ini_X1_take_Math co_X1_take_abs hl.1 (Nat.le_of_ble_eq_true rfl) (Nat.le_of_ble_eq_true rfl) (Nat.le_of_ble_eq_true rfl) (Nat.le_of_ble_eq_true rfl) dX1_take_82 (by omega) (fun m82 hm82 => ?_)
      have hm1 : 0 ≤ m82 ∧ m82 ≤ 1074 := by omega
      refine z_callvV (C := RX1) (n := 2) (As := [.int (zI 2), .int (zI m82)]) (rest := []) (wr := []) (wn := (fun (u : (Nat → Int) × Int) => [(h, .inr (1, [.ref ha, .int (zI u.2), .ref hr1, .int (zI cnt), .int (zI dec)])), (ha, .inl (cL, 86, .inl (zA u.1))), (hr1, .inl (cR, 774, .inl (zA Rw)))])) S w (c_X1_multiplyByPower l D cL cR h ha hr1 L1 lc1 Rw cnt dec 2 m82 (by omega) (by rw [s1]; exact s3) (by omega) (by omega) (by rw [s1]; show vL L1 2 * _ < _; rw [s2]; exact take_b (by omega) hwh hm1.2)) gX1_take_X1_multiplyByPower (by decide +kernel) rfl ⟨rfl, rfl⟩ ⟨Nat.le_of_ble_eq_true rfl, Nat.le_of_ble_eq_true rfl⟩ [0, 1] [0, 1, 2] [] [0, 1, 2] rfl rfl rfl rfl rfl (by decide) (fun u => rfl) rfl rfl rfl rfl rfl hl.1 (Nat.le_of_ble_eq_true rfl) ⟨Nat.le_of_ble_eq_true rfl, Nat.le_of_ble_eq_true rfl⟩ rfl dX1_take_85 (fun u H locs p85 w => ?_)
      obtain ⟨L2, lc2⟩ := u
      have p85 : (0 ≤ lc2 ∧ lc2 ≤ 86) ∧ (∀ j : Nat, (j : Int) < lc2 → 0 ≤ L2 j ∧ L2 j < 1000000000) ∧ vL L2 (lc2).toNat = vL L1 lc1.toNat * (2 : Int) ^ m82.toNat := p85
      have w : zW D _ _ s [(h, .inr (1, [.ref ha, .int (zI lc2), .ref hr1, .int (zI cnt), .int (zI dec)])), (ha, .inl (cL, 86, .inl (zA L2))), (hr1, .inl (cR, 774, .inl (zA Rw)))] H locs := w
      obtain ⟨t1, t2, t3⟩ := p85
      have t4 : vL L1 lc1.toNat = wh := by rw [s1]; exact s2
      rw [t4] at t3
      refine lv_aload_n S.1 S.2.1 dX1_take_88 rfl (lv_at hl 0 rfl) ?_
      refine lv_iload S.1 S.2.1 dX1_take_89 (lv_at hl 2 rfl) ?_
      refine z_ineg S dX1_take_91 ?_
      refine z_iconst S dX1_take_92 ?_
      refine z_mmax S ml_X1_take_50 st_X1_take_max ini_X1_take_Math co_X1_take_max hl.1 (Nat.le_of_ble_eq_true rfl) (Nat.le_of_ble_eq_true rfl) (Nat.le_of_ble_eq_true rfl) (Nat.le_of_ble_eq_true rfl) dX1_take_93 (by omega) (by omega) (fun m93 hm93 => ?_)
      refine z_put (ci := 1) (C := RX1) (T := TX1) (N := 5) S w 0 rfl rfl in_X1_take_X1 tyX1_ok nmX1 4 (by decide) ln_X1_take_25 rfl rfl rfl rfl (Nat.le_of_ble_eq_true rfl) dX1_take_96 (fun H locs w => ?_)
      have w : zW D _ _ s [(h, .inr (1, [.ref ha, .int (zI lc2), .ref hr1, .int (zI cnt), .int (zI m93)])), (ha, .inl (cL, 86, .inl (zA L2))), (hr1, .inl (cR, 774, .inl (zA Rw)))] H locs := w
      refine lv_aload_n S.1 S.2.1 dX1_take_99 rfl (lv_at hl 0 rfl) ?_
      refine z_callvV (C := RX1) (n := 0) (As := []) (rest := []) (wr := []) (wn := (fun (u : (Nat → Int) × Int) => [(h, .inr (1, [.ref ha, .int (zI lc2), .ref hr1, .int (zI u.2), .int (zI m93)])), (ha, .inl (cL, 86, .inl (zA L2))), (hr1, .inl (cR, 774, .inl (zA u.1)))])) S w (c_X1_spreadLimbs l D cL cR h ha hr1 L2 lc2 Rw cnt m93 (by omega) t2) gX1_take_X1_spreadLimbs (by decide +kernel) rfl ⟨rfl, rfl⟩ ⟨Nat.le_of_ble_eq_true rfl, Nat.le_of_ble_eq_true rfl⟩ [0, 1] [0, 1, 2] [] [0, 1, 2] rfl rfl rfl rfl rfl (by decide) (fun u => rfl) rfl rfl rfl rfl rfl hl.1 (Nat.le_of_ble_eq_true rfl) ⟨Nat.le_of_ble_eq_true rfl, Nat.le_of_ble_eq_true rfl⟩ rfl dX1_take_100 (fun u H locs p100 w => ?_)
      obtain ⟨R3, cn3⟩ := u
      have p100 : (∀ j : Nat, j < 774 → R3 j = (dg (vL L2 lc2.toNat).toNat j : Int)) ∧ cn3 = (ln (vL L2 lc2.toNat).toNat : Int) := p100
      have w : zW D _ _ s [(h, .inr (1, [.ref ha, .int (zI lc2), .ref hr1, .int (zI cn3), .int (zI m93)])), (ha, .inl (cL, 86, .inl (zA L2))), (hr1, .inl (cR, 774, .inl (zA R3)))] H locs := w
      obtain ⟨u1, u2⟩ := p100
      have k1_ : ∃ N : Nat, (∀ j : Nat, j < 774 → R3 j = (dg N j : Int)) ∧ cn3 = (ln N : Int) ∧ (0 ≤ m93 ∧ m93 ≤ 1074) ∧ N * 10 ^ (1200 - m93).toNat = xX bz ∧ N < 10 ^ 767 := by
        have d1 : 0 ≤ m93 ∧ m93 ≤ 1074 := by omega
        refine ⟨_, u1, u2, d1, ?_, ?_⟩
        · rw [t3]
          unfold xX
          rw [← ev]
          first
            | (exact take_e5 hwh.1 (by omega) (by omega) (by omega))
            | (exact take_e2 hwh.1 (by omega) (by omega) (by omega))
        · rw [t3]
          exact take_n (by omega) hwh (by omega)
      exact z_vret S hr hlk w (L2, lc2, R3, cn3, m93) k1_ rfl dX1_take_103
    · skip
      refine z_iconst S dX1_take_75 ?_
      refine lv_goto (tgt := 80) S.1 S.2.1 dX1_take_76 (by decide) ?_
      refine lv_iload S.1 S.2.1 dX1_take_80 (lv_at hl 2 rfl) ?_
      refine z_mabs S ml_X1_take_40 st_X1_take_abs ini_X1_take_Math co_X1_take_abs hl.1 (Nat.le_of_ble_eq_true rfl) (Nat.le_of_ble_eq_true rfl) (Nat.le_of_ble_eq_true rfl) (Nat.le_of_ble_eq_true rfl) dX1_take_82 (by omega) (fun m82 hm82 => ?_)
      have hm1 : 0 ≤ m82 ∧ m82 ≤ 1074 := by omega
      refine z_callvV (C := RX1) (n := 2) (As := [.int (zI 5), .int (zI m82)]) (rest := []) (wr := []) (wn := (fun (u : (Nat → Int) × Int) => [(h, .inr (1, [.ref ha, .int (zI u.2), .ref hr1, .int (zI cnt), .int (zI dec)])), (ha, .inl (cL, 86, .inl (zA u.1))), (hr1, .inl (cR, 774, .inl (zA Rw)))])) S w (c_X1_multiplyByPower l D cL cR h ha hr1 L1 lc1 Rw cnt dec 5 m82 (by omega) (by rw [s1]; exact s3) (by omega) (by omega) (by rw [s1]; show vL L1 2 * _ < _; rw [s2]; exact take_b (by omega) hwh hm1.2)) gX1_take_X1_multiplyByPower (by decide +kernel) rfl ⟨rfl, rfl⟩ ⟨Nat.le_of_ble_eq_true rfl, Nat.le_of_ble_eq_true rfl⟩ [0, 1] [0, 1, 2] [] [0, 1, 2] rfl rfl rfl rfl rfl (by decide) (fun u => rfl) rfl rfl rfl rfl rfl hl.1 (Nat.le_of_ble_eq_true rfl) ⟨Nat.le_of_ble_eq_true rfl, Nat.le_of_ble_eq_true rfl⟩ rfl dX1_take_85 (fun u H locs p85 w => ?_)
      obtain ⟨L2, lc2⟩ := u
      have p85 : (0 ≤ lc2 ∧ lc2 ≤ 86) ∧ (∀ j : Nat, (j : Int) < lc2 → 0 ≤ L2 j ∧ L2 j < 1000000000) ∧ vL L2 (lc2).toNat = vL L1 lc1.toNat * (5 : Int) ^ m82.toNat := p85
      have w : zW D _ _ s [(h, .inr (1, [.ref ha, .int (zI lc2), .ref hr1, .int (zI cnt), .int (zI dec)])), (ha, .inl (cL, 86, .inl (zA L2))), (hr1, .inl (cR, 774, .inl (zA Rw)))] H locs := w
      obtain ⟨t1, t2, t3⟩ := p85
      have t4 : vL L1 lc1.toNat = wh := by rw [s1]; exact s2
      rw [t4] at t3
      refine lv_aload_n S.1 S.2.1 dX1_take_88 rfl (lv_at hl 0 rfl) ?_
      refine lv_iload S.1 S.2.1 dX1_take_89 (lv_at hl 2 rfl) ?_
      refine z_ineg S dX1_take_91 ?_
      refine z_iconst S dX1_take_92 ?_
      refine z_mmax S ml_X1_take_50 st_X1_take_max ini_X1_take_Math co_X1_take_max hl.1 (Nat.le_of_ble_eq_true rfl) (Nat.le_of_ble_eq_true rfl) (Nat.le_of_ble_eq_true rfl) (Nat.le_of_ble_eq_true rfl) dX1_take_93 (by omega) (by omega) (fun m93 hm93 => ?_)
      refine z_put (ci := 1) (C := RX1) (T := TX1) (N := 5) S w 0 rfl rfl in_X1_take_X1 tyX1_ok nmX1 4 (by decide) ln_X1_take_25 rfl rfl rfl rfl (Nat.le_of_ble_eq_true rfl) dX1_take_96 (fun H locs w => ?_)
      have w : zW D _ _ s [(h, .inr (1, [.ref ha, .int (zI lc2), .ref hr1, .int (zI cnt), .int (zI m93)])), (ha, .inl (cL, 86, .inl (zA L2))), (hr1, .inl (cR, 774, .inl (zA Rw)))] H locs := w
      refine lv_aload_n S.1 S.2.1 dX1_take_99 rfl (lv_at hl 0 rfl) ?_
      refine z_callvV (C := RX1) (n := 0) (As := []) (rest := []) (wr := []) (wn := (fun (u : (Nat → Int) × Int) => [(h, .inr (1, [.ref ha, .int (zI lc2), .ref hr1, .int (zI u.2), .int (zI m93)])), (ha, .inl (cL, 86, .inl (zA L2))), (hr1, .inl (cR, 774, .inl (zA u.1)))])) S w (c_X1_spreadLimbs l D cL cR h ha hr1 L2 lc2 Rw cnt m93 (by omega) t2) gX1_take_X1_spreadLimbs (by decide +kernel) rfl ⟨rfl, rfl⟩ ⟨Nat.le_of_ble_eq_true rfl, Nat.le_of_ble_eq_true rfl⟩ [0, 1] [0, 1, 2] [] [0, 1, 2] rfl rfl rfl rfl rfl (by decide) (fun u => rfl) rfl rfl rfl rfl rfl hl.1 (Nat.le_of_ble_eq_true rfl) ⟨Nat.le_of_ble_eq_true rfl, Nat.le_of_ble_eq_true rfl⟩ rfl dX1_take_100 (fun u H locs p100 w => ?_)
      obtain ⟨R3, cn3⟩ := u
      have p100 : (∀ j : Nat, j < 774 → R3 j = (dg (vL L2 lc2.toNat).toNat j : Int)) ∧ cn3 = (ln (vL L2 lc2.toNat).toNat : Int) := p100
      have w : zW D _ _ s [(h, .inr (1, [.ref ha, .int (zI lc2), .ref hr1, .int (zI cn3), .int (zI m93)])), (ha, .inl (cL, 86, .inl (zA L2))), (hr1, .inl (cR, 774, .inl (zA R3)))] H locs := w
      obtain ⟨u1, u2⟩ := p100
      have k2_ : ∃ N : Nat, (∀ j : Nat, j < 774 → R3 j = (dg N j : Int)) ∧ cn3 = (ln N : Int) ∧ (0 ≤ m93 ∧ m93 ≤ 1074) ∧ N * 10 ^ (1200 - m93).toNat = xX bz ∧ N < 10 ^ 767 := by
        have d1 : 0 ≤ m93 ∧ m93 ≤ 1074 := by omega
        refine ⟨_, u1, u2, d1, ?_, ?_⟩
        · rw [t3]
          unfold xX
          rw [← ev]
          first
            | (exact take_e5 hwh.1 (by omega) (by omega) (by omega))
            | (exact take_e2 hwh.1 (by omega) (by omega) (by omega))
        · rw [t3]
          exact take_n (by omega) hwh (by omega)
      exact z_vret S hr hlk w (L2, lc2, R3, cn3, m93) k2_ rfl dX1_take_103
  have lab37 : ∀ (nf_ : Nat) (wh : Int) (po : Int), (-po).toNat < nf_ → (0 ≤ wh ∧ wh < 9007199254740992) → (-1074 ≤ po ∧ po ≤ 971) → (wh.toNat * 2 ^ (po + 1200).toNat = (xM bz).toNat * 2 ^ (xP bz + 1200).toNat) → ∀ (H : Heap) (locs : List Loc) (ls : Array Slot), zW D [(cL, .int), (cR, .int)] (va_A [(h, .inr (1, [.ref ha, .int (zI lc), .ref hr1, .int (zI cnt), .int (zI dec)])), (ha, .inl (cL, 86, .inl (zA L))), (hr1, .inl (cR, 774, .inl (zA Rw)))] s.heap.size) s [(h, .inr (1, [.ref ha, .int (zI lc), .ref hr1, .int (zI cnt), .int (zI dec)])), (ha, .inl (cL, 86, .inl (zA L))), (hr1, .inl (cR, 774, .inl (zA Rw)))] H locs → lv_has ls 7 [(0, .ref h), (4, .long (lI wh)), (6, .int (zI po))] → W p l e ({ frames := 3, cells := 0, slots := 0, locals := 71 } : Room) s m ([.ref h, .long (lI bz)] : List Value).toArray below meth c H locs 0 0 (MQ below (zQv D [(cL, .int), (cR, .int)] [(h, .inr (1, [.ref ha, .int (zI lc), .ref hr1, .int (zI cnt), .int (zI dec)])), (ha, .inl (cL, 86, .inl (zA L))), (hr1, .inl (cR, 774, .inl (zA Rw)))] s.heap.size (fun (u : (Nat → Int) × Int × (Nat → Int) × Int × Int) => ∃ N : Nat, (∀ j : Nat, j < 774 → u.2.2.1 j = (dg N j : Int)) ∧ u.2.2.2.1 = (ln N : Int) ∧ (0 ≤ u.2.2.2.2 ∧ u.2.2.2.2 ≤ 1074) ∧ N * 10 ^ (1200 - u.2.2.2.2).toNat = xX bz ∧ N < 10 ^ 767) (fun (u : (Nat → Int) × Int × (Nat → Int) × Int × Int) => [(h, .inr (1, [.ref ha, .int (zI u.2.1), .ref hr1, .int (zI u.2.2.2.1), .int (zI u.2.2.2.2)])), (ha, .inl (cL, 86, .inl (zA u.1))), (hr1, .inl (cR, 774, .inl (zA u.2.2.1)))])) ([.ref h, .long (lI bz)] : List Value).toArray s 0 0 (va_A [(h, .inr (1, [.ref ha, .int (zI lc), .ref hr1, .int (zI cnt), .int (zI dec)])), (ha, .inl (cL, 86, .inl (zA L))), (hr1, .inl (cR, 774, .inl (zA Rw)))] s.heap.size)) (F0 m 37 ls []) := by
    intro nf_
    induction nf_ with
    | zero => intro wh po hmeas_; exact absurd hmeas_ (Nat.not_lt_zero _)
    | succ nf_ ih =>
      intro wh po hmeas_ hwh hpo ev H locs ls w hl
      refine lv_iload S.1 S.2.1 dX1_take_37 (lv_at hl 2 rfl) ?_
      refine z_if_ge (tgt := 63) S dX1_take_39 (by decide) (by omega) (fun h39 => ?_) (fun h39 => ?_)
      · skip
        exact lab63 wh po (by omega) (by omega) (by omega) _ _ _ w (lv_sub hl [0, 1, 2] rfl)
      · skip
        refine lv_lload S.1 S.2.1 dX1_take_42 (lv_at hl 1 rfl) ?_
        refine z_lconst (z := 1) S dX1_take_44 (by decide +kernel) ?_
        refine z_land S dX1_take_45 (v := (wh % 2)) (lI_m1 wh) ?_
        refine z_lconst (z := 0) S dX1_take_46 (by decide +kernel) ?_
        refine z_lcmp S dX1_take_47 (by omega) (by omega) (fun c47 hc47 => ?_)
        refine z_if_ne (tgt := 63) S dX1_take_48 (by decide) (by omega) (fun h48 => ?_) (fun h48 => ?_)
        · skip
          exact lab63 wh po (by omega) (by omega) (by omega) _ _ _ w (lv_sub hl [0, 1, 2] rfl)
        · skip
          refine lv_lload S.1 S.2.1 dX1_take_51 (lv_at hl 1 rfl) ?_
          refine z_iconst S dX1_take_53 ?_
          refine z_lshr S dX1_take_54 (v := (wh / 2)) (lI_s1 (by omega)) ?_
          refine lv_lstore (lv' := [(4, .long (lI (wh / 2))), (0, .ref h), (6, .int (zI po))]) S.1 S.2.1 dX1_take_55 hl (by decide) rfl (fun ls hl => ?_)
          refine lv_iinc (v := zI (po + 1)) (lv' := [(6, .int (zI (po + 1))), (4, .long (lI (wh / 2))), (0, .ref h)]) S.1 S.2.1 dX1_take_57 hl (k := 2) rfl (zI_add po 1) (by decide) rfl (fun ls hl => ?_)
          refine lv_goto (tgt := 37) S.1 S.2.1 dX1_take_60 (by decide) ?_
          have k3_ : (wh / 2).toNat * 2 ^ ((po + 1) + 1200).toNat = (xM bz).toNat * 2 ^ (xP bz + 1200).toNat := by
            have k1 : (po + 1 + 1200).toNat = (po + 1200).toNat + 1 := by omega
            have k2 : wh.toNat = (wh / 2).toNat * 2 := by omega
            rw [← ev, k1, Nat.pow_succ, k2, Nat.mul_comm (2 ^ (po + 1200).toNat) 2, ← Nat.mul_assoc]
          exact ih (wh / 2) (po + 1) (by omega) (by omega) (by omega) k3_ _ _ _ w (lv_sub hl [2, 1, 0] rfl)
  have hl : lv_has ls 7 [(0, .ref h), (1, .long (lI bz))] := hl
  refine lv_lload_n S.1 S.2.1 dX1_take_0 rfl (lv_at hl 1 rfl) ?_
  refine z_calliSN (n := 1) (As := [.long (lI bz)]) (rest := []) (wr := [(h, .inr (1, [.ref ha, .int (zI lc), .ref hr1, .int (zI cnt), .int (zI dec)])), (ha, .inl (cL, 86, .inl (zA L))), (hr1, .inl (cR, 774, .inl (zA Rw)))]) (wn := (fun (u : Unit) => [(h, .inr (1, [.ref ha, .int (zI lc), .ref hr1, .int (zI cnt), .int (zI dec)])), (ha, .inl (cL, 86, .inl (zA L))), (hr1, .inl (cR, 774, .inl (zA Rw)))])) S w (c_X2_exponentField l D bz (by omega)) gX1_take_X2_exponentField_n28 st_X1_take_ef ini_X1_take_RX2 rfl rfl rfl ⟨rfl, rfl⟩ ⟨Nat.le_of_ble_eq_true rfl, Nat.le_of_ble_eq_true rfl⟩ [] [] [0, 1, 2] [0, 1, 2] rfl rfl rfl rfl rfl (by decide) (fun u => rfl) rfl rfl hl.1 (Nat.le_of_ble_eq_true rfl) ⟨Nat.le_of_ble_eq_true rfl, Nat.le_of_ble_eq_true rfl⟩ rfl dX1_take_1 (fun z1 _ H locs p1 w => ?_)
  have p1 : z1 = xE bz := p1
  have w : zW D _ _ s [(h, .inr (1, [.ref ha, .int (zI lc), .ref hr1, .int (zI cnt), .int (zI dec)])), (ha, .inl (cL, 86, .inl (zA L))), (hr1, .inl (cR, 774, .inl (zA Rw)))] H locs := w
  have hE : 0 ≤ xE bz ∧ xE bz < 2048 := by unfold xE; omega
  refine lv_istore_n (lv' := [(3, .int (zI z1)), (0, .ref h), (1, .long (lI bz))]) S.1 S.2.1 dX1_take_4 rfl hl (by decide) rfl (fun ls hl => ?_)
  refine lv_lload_n S.1 S.2.1 dX1_take_5 rfl (lv_at hl 2 rfl) ?_
  refine z_ldc2 (v := 4503599627370495) S 4503599627370495 kl_X1_take_32 (by decide +kernel) dX1_take_6 ?_
  refine z_land S dX1_take_9 (v := (bz % 4503599627370496)) (lI_m52 bz) ?_
  refine lv_lstore (lv' := [(4, .long (lI (bz % 4503599627370496))), (3, .int (zI z1)), (0, .ref h), (1, .long (lI bz))]) S.1 S.2.1 dX1_take_10 hl (by decide) rfl (fun ls hl => ?_)
  refine z_sipush S dX1_take_12 (by decide +kernel) ?_
  refine lv_istore (lv' := [(6, .int (zI (-1074))), (4, .long (lI (bz % 4503599627370496))), (3, .int (zI z1)), (0, .ref h), (1, .long (lI bz))]) S.1 S.2.1 dX1_take_15 hl (by decide) rfl (fun ls hl => ?_)
  refine lv_iload_n S.1 S.2.1 dX1_take_17 rfl (lv_at hl 2 rfl) ?_
  refine z_if_le (tgt := 37) S dX1_take_18 (by decide) (by omega) (fun h18 => ?_) (fun h18 => ?_)
  · skip
    exact lab37 _ (bz % 4503599627370496) (-1074) (Nat.lt_succ_self _) (by omega) (by omega) (by unfold xM xP; rw [if_pos (by omega), if_pos (by omega), Int.add_zero]) _ _ _ w (lv_sub hl [3, 1, 0] rfl)
  · skip
    refine lv_lload S.1 S.2.1 dX1_take_21 (lv_at hl 1 rfl) ?_
    refine z_ldc2 (v := 4503599627370496) S 4503599627370496 kl_X1_take_34 (by decide +kernel) dX1_take_23 ?_
    refine z_ladd S dX1_take_26 ?_
    refine lv_lstore (lv' := [(4, .long (lI ((bz % 4503599627370496) + 4503599627370496))), (6, .int (zI (-1074))), (3, .int (zI z1)), (0, .ref h), (1, .long (lI bz))]) S.1 S.2.1 dX1_take_27 hl (by decide) rfl (fun ls hl => ?_)
    refine lv_iload S.1 S.2.1 dX1_take_29 (lv_at hl 1 rfl) ?_
    refine lv_iload_n S.1 S.2.1 dX1_take_31 rfl (lv_at hl 2 rfl) ?_
    refine z_iconst S dX1_take_32 ?_
    refine z_isub S dX1_take_33 ?_
    refine z_iadd S dX1_take_34 ?_
    refine lv_istore (lv' := [(6, .int (zI ((-1074) + (z1 - 1)))), (4, .long (lI ((bz % 4503599627370496) + 4503599627370496))), (3, .int (zI z1)), (0, .ref h), (1, .long (lI bz))]) S.1 S.2.1 dX1_take_35 hl (by decide) rfl (fun ls hl => ?_)
    have k4_ : ((bz % 4503599627370496) + 4503599627370496).toNat * 2 ^ (((-1074) + (z1 - 1)) + 1200).toNat = (xM bz).toNat * 2 ^ (xP bz + 1200).toNat := by
      unfold xM xP
      rw [if_neg (by omega), if_neg (by omega), p1]
      have k : -1074 + (xE bz - 1) = xE bz - 1075 := by omega
      rw [k]
    exact lab37 _ ((bz % 4503599627370496) + 4503599627370496) ((-1074) + (z1 - 1)) (Nat.lt_succ_self _) (by omega) (by omega) k4_ _ _ _ w (lv_sub hl [3, 1, 0] rfl)

set_option maxRecDepth 20000 in
theorem ln_X1_roundTo_25 : Cond.fieldLink RX1 25 "DecimalText$Worth" "decimals" "I" ∈ wsX1_roundTo := by decide +kernel
theorem in_X1_roundTo_X1 : ∀ w ∈ u_ws RX1 TX1 5, w ∈ wsX1_roundTo := by decide +kernel
set_option maxHeartbeats 4000000 in
set_option maxRecDepth 100000 in
theorem c_X1_roundTo (l : Launch) (D : va_G) (cL cR : ClassId) (h : Nat) (ha : Nat) (hr1 : Nat) (L : Nat → Int) (lc : Int) (Rw : Nat → Int) (cnt : Int) (dec : Int) (po : Int) (N : Nat) (hpo : -2000 ≤ po ∧ po ≤ 1500) (hdec : 0 ≤ dec ∧ dec ≤ 1074) (hrep : ∀ j : Nat, j < 774 → Rw j = (dg N j : Int)) (hcn : cnt = (ln N : Int)) (hN : N < 10 ^ 767) : zMv (T := (Nat → Int) × Int) l yX1_roundTo wsX1_roundTo ({ frames := 3, cells := 0, slots := 0, locals := 65 } : Room) D [(cL, .int), (cR, .int)] [.ref h, .int (zI po)] [(h, .inr (1, [.ref ha, .int (zI lc), .ref hr1, .int (zI cnt), .int (zI dec)])), (ha, .inl (cL, 86, .inl (zA L))), (hr1, .inl (cR, 774, .inl (zA Rw)))] (fun (u : (Nat → Int) × Int) => (∀ j : Nat, (po + dec).toNat ≤ j → j < 774 → u.1 j = (dg (rX N (po + dec).toNat) j : Int)) ∧ (0 < rX N (po + dec).toNat → u.2 = (ln (rX N (po + dec).toNat) : Int)) ∧ (rX N (po + dec).toNat = 0 → u.2 ≤ ((po + dec).toNat : Int)) ∧ (0 ≤ u.2 ∧ u.2 ≤ 774) ∧ (∀ j : Nat, j < 774 → 0 ≤ u.1 j ∧ u.1 j ≤ 9) ∧ (N = 0 → u.2 = 0)) (fun (u : (Nat → Int) × Int) => [(h, .inr (1, [.ref ha, .int (zI lc), .ref hr1, .int (zI u.2), .int (zI dec)])), (ha, .inl (cL, 86, .inl (zA L))), (hr1, .inl (cR, 774, .inl (zA u.1)))]) 0 0 := by
  refine zMv.of (bytes := cX1_roundTo) (nL := 3) (own := RX1) (by decide) rfl rfl (Nat.le_of_ble_eq_true rfl) ?_
  intro p e s m below meth c ls S hr hlk hnm w hl
  have hl : lv_has ls 3 [(0, .ref h), (1, .int (zI po))] := hl
  have h9 : ∀ j : Nat, j < 774 → 0 ≤ Rw j ∧ Rw j ≤ 9 := fun j q => by rw [hrep j q]; have := dg_lt N j; omega
  have hcnt : 0 ≤ cnt ∧ cnt ≤ 767 := by rw [hcn]; have := ln_le_of hN; omega
  have hz : ∀ j : Nat, cnt ≤ (j : Int) → j < 774 → Rw j = 0 := fun j q1 q2 => by
    rw [hrep j q2, dg_big (Nat.lt_of_lt_of_le (ln_lt N) (Nat.pow_le_pow_right (by decide) (by omega)))]; rfl
  refine lv_iload_n S.1 S.2.1 dX1_roundTo_0 rfl (lv_at hl 1 rfl) ?_
  refine lv_aload_n S.1 S.2.1 dX1_roundTo_1 rfl (lv_at hl 0 rfl) ?_
  refine z_get (ci := 1) (C := RX1) (T := TX1) (N := 5) S w 0 rfl rfl in_X1_roundTo_X1 4 (by decide) ln_X1_roundTo_25 rfl rfl dX1_roundTo_2 ?_
  refine z_iadd S dX1_roundTo_5 ?_
  refine lv_istore_n (lv' := [(2, .int (zI (po + dec))), (0, .ref h), (1, .int (zI po))]) S.1 S.2.1 dX1_roundTo_6 rfl hl (by decide) rfl (fun ls hl => ?_)
  refine lv_iload_n S.1 S.2.1 dX1_roundTo_7 rfl (lv_at hl 0 rfl) ?_
  refine z_if_le (tgt := 24) S dX1_roundTo_8 (by decide) (by omega) (fun h8 => ?_) (fun h8 => ?_)
  · skip
    have k1_ : (∀ j : Nat, (po + dec).toNat ≤ j → j < 774 → Rw j = (dg (rX N (po + dec).toNat) j : Int)) ∧ (0 < rX N (po + dec).toNat → cnt = (ln (rX N (po + dec).toNat) : Int)) ∧ (rX N (po + dec).toNat = 0 → cnt ≤ ((po + dec).toNat : Int)) ∧ (0 ≤ cnt ∧ cnt ≤ 774) ∧ (∀ j : Nat, j < 774 → 0 ≤ Rw j ∧ Rw j ≤ 9) ∧ (N = 0 → cnt = 0) := by
      have k : (po + dec).toNat = 0 := by omega
      rw [k, rX_0]
      refine ⟨fun j _ q => hrep j q, fun _ => hcn, fun q => ?_, by omega, h9, fun q => by rw [hcn, q, ln_0]; rfl⟩
      rw [hcn, q, ln_0]; omega
    exact z_vret S hr hlk w (Rw, cnt) k1_ rfl dX1_roundTo_24
  · skip
    refine lv_aload_n S.1 S.2.1 dX1_roundTo_11 rfl (lv_at hl 1 rfl) ?_
    refine lv_iload_n S.1 S.2.1 dX1_roundTo_12 rfl (lv_at hl 0 rfl) ?_
    refine z_calliV (C := RX1) (n := 1) (As := [.int (zI (po + dec))]) (rest := []) (wr := []) (wn := (fun (u : Unit) => [(h, .inr (1, [.ref ha, .int (zI lc), .ref hr1, .int (zI cnt), .int (zI dec)])), (ha, .inl (cL, 86, .inl (zA L))), (hr1, .inl (cR, 774, .inl (zA Rw)))])) S w (c_X1_isNearerAbove l D cL cR h ha hr1 L lc Rw cnt dec (po + dec) (by omega) (by omega) h9 hz) gX1_roundTo_X1_isNearerAbove (by decide +kernel) rfl ⟨rfl, rfl⟩ ⟨Nat.le_of_ble_eq_true rfl, Nat.le_of_ble_eq_true rfl⟩ [0, 1] [0, 1, 2] [] [0, 1, 2] rfl rfl rfl rfl rfl (by decide) (fun u => rfl) rfl rfl rfl rfl rfl hl.1 (Nat.le_of_ble_eq_true rfl) ⟨Nat.le_of_ble_eq_true rfl, Nat.le_of_ble_eq_true rfl⟩ rfl dX1_roundTo_13 (fun z13 _ H locs p13 w => ?_)
    have p13 : (z13 = 1 ∧ (5 < dI Rw ((po + dec) - 1) ∨ (dI Rw ((po + dec) - 1) = 5 ∧ ((∃ j : Nat, (j : Int) < (po + dec) - 1 ∧ Rw j ≠ 0) ∨ dI Rw (po + dec) % 2 = 1)))) ∨ (z13 = 0 ∧ ¬ (5 < dI Rw ((po + dec) - 1) ∨ (dI Rw ((po + dec) - 1) = 5 ∧ ((∃ j : Nat, (j : Int) < (po + dec) - 1 ∧ Rw j ≠ 0) ∨ dI Rw (po + dec) % 2 = 1)))) := p13
    have w : zW D _ _ s [(h, .inr (1, [.ref ha, .int (zI lc), .ref hr1, .int (zI cnt), .int (zI dec)])), (ha, .inl (cL, 86, .inl (zA L))), (hr1, .inl (cR, 774, .inl (zA Rw)))] H locs := w
    refine z_if_eq (tgt := 24) S dX1_roundTo_16 (by decide) (by omega) (fun h16 => ?_) (fun h16 => ?_)
    · skip
      have k2_ : (∀ j : Nat, (po + dec).toNat ≤ j → j < 774 → Rw j = (dg (rX N (po + dec).toNat) j : Int)) ∧ (0 < rX N (po + dec).toNat → cnt = (ln (rX N (po + dec).toNat) : Int)) ∧ (rX N (po + dec).toNat = 0 → cnt ≤ ((po + dec).toNat : Int)) ∧ (0 ≤ cnt ∧ cnt ≤ 774) ∧ (∀ j : Nat, j < 774 → 0 ≤ Rw j ∧ Rw j ≤ 9) ∧ (N = 0 → cnt = 0) := by
        obtain ⟨a1, a2, a3⟩ := rnd_down (N := N) (c := (po + dec).toNat) (by
          rcases p13 with ⟨q1, q2⟩ | ⟨q1, q2⟩
          · omega
          · exact rq_no (by omega) hrep hN q2)
        exact ⟨fun j q1 q2 => by rw [hrep j q2, a1 j q1], fun q => by rw [hcn, a2 q], fun q => by rw [hcn]; have := a3 q; omega, by omega, h9, fun q => by rw [hcn, q, ln_0]; rfl⟩
      exact z_vret S hr hlk w (Rw, cnt) k2_ rfl dX1_roundTo_24
    · skip
      refine lv_aload_n S.1 S.2.1 dX1_roundTo_19 rfl (lv_at hl 1 rfl) ?_
      refine lv_iload_n S.1 S.2.1 dX1_roundTo_20 rfl (lv_at hl 0 rfl) ?_
      refine z_callvV (C := RX1) (n := 1) (As := [.int (zI (po + dec))]) (rest := []) (wr := []) (wn := (fun (u : (Nat → Int) × Int) => [(h, .inr (1, [.ref ha, .int (zI lc), .ref hr1, .int (zI u.2), .int (zI dec)])), (ha, .inl (cL, 86, .inl (zA L))), (hr1, .inl (cR, 774, .inl (zA u.1)))])) S w (c_X1_addOneAt l D cL cR h ha hr1 L lc Rw cnt dec (po + dec) (by omega) (by omega) h9) gX1_roundTo_X1_addOneAt (by decide +kernel) rfl ⟨rfl, rfl⟩ ⟨Nat.le_of_ble_eq_true rfl, Nat.le_of_ble_eq_true rfl⟩ [0, 1] [0, 1, 2] [] [0, 1, 2] rfl rfl rfl rfl rfl (by decide) (fun u => rfl) rfl rfl rfl rfl rfl hl.1 (Nat.le_of_ble_eq_true rfl) ⟨Nat.le_of_ble_eq_true rfl, Nat.le_of_ble_eq_true rfl⟩ rfl dX1_roundTo_21 (fun u H locs p21 w => ?_)
      obtain ⟨R2, cn2⟩ := u
      have p21 : ∃ k : Int, ((po + dec) ≤ k) ∧ (∀ j : Nat, (po + dec) ≤ (j : Int) → (j : Int) < k → j < 774 → Rw j = 9 ∧ R2 j = 0) ∧ (∀ j : Nat, (j : Int) < (po + dec) → R2 j = Rw j) ∧ (∀ j : Nat, k < (j : Int) → R2 j = Rw j) ∧ (k < 774 → Rw k.toNat ≠ 9 ∧ R2 k.toNat = Rw k.toNat + 1 ∧ ((cnt < k + 1 ∧ cn2 = k + 1) ∨ (k + 1 ≤ cnt ∧ cn2 = cnt))) ∧ (774 ≤ k → cn2 = cnt ∧ ((po + dec) ≤ 774 → k = 774)) := p21
      have w : zW D _ _ s [(h, .inr (1, [.ref ha, .int (zI lc), .ref hr1, .int (zI cn2), .int (zI dec)])), (ha, .inl (cL, 86, .inl (zA L))), (hr1, .inl (cR, 774, .inl (zA R2)))] H locs := w
      have k3_ : (∀ j : Nat, (po + dec).toNat ≤ j → j < 774 → R2 j = (dg (rX N (po + dec).toNat) j : Int)) ∧ (0 < rX N (po + dec).toNat → cn2 = (ln (rX N (po + dec).toNat) : Int)) ∧ (rX N (po + dec).toNat = 0 → cn2 ≤ ((po + dec).toNat : Int)) ∧ (0 ≤ cn2 ∧ cn2 ≤ 774) ∧ (∀ j : Nat, j < 774 → 0 ≤ R2 j ∧ R2 j ≤ 9) ∧ (N = 0 → cn2 = 0) := by
        rcases p13 with ⟨q1, q2⟩ | ⟨q1, q2⟩
        · exact rnd_row h9 hrep hN hcn (by omega) (rq_yes (by omega) hrep hN q2).1 (rq_yes (by omega) hrep hN q2).2 p21
        · omega
      exact z_vret S hr hlk w (R2, cn2) k3_ rfl dX1_roundTo_24
