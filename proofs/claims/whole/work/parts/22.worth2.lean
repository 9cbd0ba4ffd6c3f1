theorem pow_mono_i {b : Int} (hb : b = 2 ∨ b = 5) {m n : Nat} (h : m ≤ n) : b ^ m ≤ b ^ n := by
  obtain ⟨k, rfl⟩ : ∃ k, n = m + k := ⟨n - m, by omega⟩
  rw [Int.pow_add]
  have h1 : (0 : Int) < b ^ m := Int.pow_pos (by omega)
  have h2 : (0 : Int) < b ^ k := Int.pow_pos (by omega)
  have h3 : b ^ m * 1 ≤ b ^ m * b ^ k := Int.mul_le_mul_of_nonneg_left (by omega) (Int.le_of_lt h1)
  omega
theorem b9_pow {n : Nat} {a : Int} (h : a = (n : Int) * 9) : (1000000000 : Int) ^ n = ((10 ^ a.toNat : Nat) : Int) := by
  have e : a.toNat = 9 * n := by omega
  rw [e, Nat.pow_mul, Int.natCast_pow]; rfl
theorem b9_nat {v : Int} {n : Nat} {a : Int} (h0 : 0 ≤ v) (h1 : v < 1000000000 ^ n) (h : a = (n : Int) * 9) : v.toNat < 10 ^ a.toNat := by
  rw [b9_pow h] at h1; omega
theorem b9_step {v x : Int} {n : Nat} {a : Int} (h0 : 0 ≤ v) (hx : 0 ≤ x) (h : a = (n : Int) * 9) : (v + x * 1000000000 ^ n).toNat = v.toNat + x.toNat * 10 ^ a.toNat := by
  rw [b9_pow h]
  obtain ⟨y, rfl⟩ : ∃ y : Nat, x = (y : Int) := ⟨x.toNat, by omega⟩
  obtain ⟨u, rfl⟩ : ∃ u : Nat, v = (u : Int) := ⟨v.toNat, by omega⟩
  rw [← Int.natCast_mul, ← Int.natCast_add, Int.toNat_natCast, Int.toNat_natCast, Int.toNat_natCast]

set_option maxRecDepth 20000 in
theorem ln_X1_addLimb_15 : Cond.fieldLink RX1 15 "DecimalText$Worth" "limbCount" "I" ∈ wsX1_addLimb := by decide +kernel
theorem in_X1_addLimb_X1 : ∀ w ∈ u_ws RX1 TX1 5, w ∈ wsX1_addLimb := by decide +kernel
set_option maxRecDepth 20000 in
theorem ln_X1_addLimb_11 : Cond.fieldLink RX1 11 "DecimalText$Worth" "limbs" "[I" ∈ wsX1_addLimb := by decide +kernel
set_option maxHeartbeats 4000000 in
set_option maxRecDepth 100000 in
theorem c_X1_addLimb (l : Launch) (D : va_G) (cL cR : ClassId) (h : Nat) (ha : Nat) (hr1 : Nat) (L : Nat → Int) (lc : Int) (Rw : Nat → Int) (cnt : Int) (dec : Int) (x : Int) (hlc : 0 ≤ lc ∧ lc < 86) : zMv (T := (Nat → Int) × Int) l yX1_addLimb wsX1_addLimb ({ frames := 0, cells := 0, slots := 0, locals := 0 } : Room) D [(cL, .int), (cR, .int)] [.ref h, .int (zI x)] [(h, .inr (1, [.ref ha, .int (zI lc), .ref hr1, .int (zI cnt), .int (zI dec)])), (ha, .inl (cL, 86, .inl (zA L))), (hr1, .inl (cR, 774, .inl (zA Rw)))] (fun (u : (Nat → Int) × Int) => u.1 = zu L lc.toNat x ∧ u.2 = lc + 1) (fun (u : (Nat → Int) × Int) => [(h, .inr (1, [.ref ha, .int (zI u.2), .ref hr1, .int (zI cnt), .int (zI dec)])), (ha, .inl (cL, 86, .inl (zA u.1))), (hr1, .inl (cR, 774, .inl (zA Rw)))]) 0 0 := by
  refine zMv.of (bytes := cX1_addLimb) (nL := 2) (own := RX1) (by decide) rfl rfl (Nat.le_of_ble_eq_true rfl) ?_
  intro p e s m below meth c ls S hr hlk hnm w hl
  have hl : lv_has ls 2 [(0, .ref h), (1, .int (zI x))] := hl
  refine lv_aload_n S.1 S.2.1 dX1_addLimb_0 rfl (lv_at hl 0 rfl) ?_
  refine z_get (ci := 1) (C := RX1) (T := TX1) (N := 5) S w 0 rfl rfl in_X1_addLimb_X1 1 (by decide) ln_X1_addLimb_15 rfl rfl dX1_addLimb_1 ?_
  refine z_if_lt (tgt := 39) S dX1_addLimb_4 (by decide) (by omega) (fun h4 => ?_) (fun h4 => ?_)
  · skip
    exfalso; omega
  · skip
    refine lv_aload_n S.1 S.2.1 dX1_addLimb_7 rfl (lv_at hl 0 rfl) ?_
    refine z_get (ci := 1) (C := RX1) (T := TX1) (N := 5) S w 0 rfl rfl in_X1_addLimb_X1 1 (by decide) ln_X1_addLimb_15 rfl rfl dX1_addLimb_8 ?_
    refine lv_aload_n S.1 S.2.1 dX1_addLimb_11 rfl (lv_at hl 0 rfl) ?_
    refine z_get (ci := 1) (C := RX1) (T := TX1) (N := 5) S w 0 rfl rfl in_X1_addLimb_X1 0 (by decide) ln_X1_addLimb_11 rfl rfl dX1_addLimb_12 ?_
    refine z_alen (n := 86) S w 1 0 rfl rfl dX1_addLimb_15 ?_
    refine z_icmp_ge (tgt := 39) S dX1_addLimb_16 (by decide) (by omega) (by omega) (fun h16 => ?_) (fun h16 => ?_)
    · skip
      exfalso; omega
    · skip
      refine lv_aload_n S.1 S.2.1 dX1_addLimb_19 rfl (lv_at hl 0 rfl) ?_
      refine z_get (ci := 1) (C := RX1) (T := TX1) (N := 5) S w 0 rfl rfl in_X1_addLimb_X1 0 (by decide) ln_X1_addLimb_11 rfl rfl dX1_addLimb_20 ?_
      refine lv_aload_n S.1 S.2.1 dX1_addLimb_23 rfl (lv_at hl 0 rfl) ?_
      refine z_get (ci := 1) (C := RX1) (T := TX1) (N := 5) S w 0 rfl rfl in_X1_addLimb_X1 1 (by decide) ln_X1_addLimb_15 rfl rfl dX1_addLimb_24 ?_
      refine lv_iload_n S.1 S.2.1 dX1_addLimb_27 rfl (lv_at hl 1 rfl) ?_
      refine z_iast S w 1 0 rfl rfl (by omega) (by decide) dX1_addLimb_28 (fun H locs w => ?_)
      have w : zW D _ _ s [(h, .inr (1, [.ref ha, .int (zI lc), .ref hr1, .int (zI cnt), .int (zI dec)])), (ha, .inl (cL, 86, .inl (zA (zu L lc.toNat x)))), (hr1, .inl (cR, 774, .inl (zA Rw)))] H locs := w
      refine lv_aload_n S.1 S.2.1 dX1_addLimb_29 rfl (lv_at hl 0 rfl) ?_
      refine lv_dup S.1 S.2.1 dX1_addLimb_30 rfl ?_
      refine z_get (ci := 1) (C := RX1) (T := TX1) (N := 5) S w 0 rfl rfl in_X1_addLimb_X1 1 (by decide) ln_X1_addLimb_15 rfl rfl dX1_addLimb_31 ?_
      refine z_iconst S dX1_addLimb_34 ?_
      refine z_iadd S dX1_addLimb_35 ?_
      refine z_put (ci := 1) (C := RX1) (T := TX1) (N := 5) S w 0 rfl rfl in_X1_addLimb_X1 tyX1_ok nmX1 1 (by decide) ln_X1_addLimb_15 rfl rfl rfl rfl (Nat.le_of_ble_eq_true rfl) dX1_addLimb_36 (fun H locs w => ?_)
      have w : zW D _ _ s [(h, .inr (1, [.ref ha, .int (zI (lc + 1)), .ref hr1, .int (zI cnt), .int (zI dec)])), (ha, .inl (cL, 86, .inl (zA (zu L lc.toNat x)))), (hr1, .inl (cR, 774, .inl (zA Rw)))] H locs := w
      exact z_vret S hr hlk w (zu L lc.toNat x, lc + 1) ⟨rfl, rfl⟩ rfl dX1_addLimb_39

set_option maxRecDepth 20000 in
theorem ln_X1_setLimbs_15 : Cond.fieldLink RX1 15 "DecimalText$Worth" "limbCount" "I" ∈ wsX1_setLimbs := by decide +kernel
theorem in_X1_setLimbs_X1 : ∀ w ∈ u_ws RX1 TX1 5, w ∈ wsX1_setLimbs := by decide +kernel
set_option maxRecDepth 20000 in
theorem kl_X1_setLimbs_72 : Cond.constantLong RX1 72 (1000000000) ∈ wsX1_setLimbs := by decide +kernel
set_option maxHeartbeats 4000000 in
set_option maxRecDepth 100000 in
theorem c_X1_setLimbs (l : Launch) (D : va_G) (cL cR : ClassId) (h : Nat) (ha : Nat) (hr1 : Nat) (L : Nat → Int) (lc : Int) (Rw : Nat → Int) (cnt : Int) (dec : Int) (wh : Int) (hwh : 0 ≤ wh ∧ wh < 1000000000000000000) : zMv (T := (Nat → Int) × Int) l yX1_setLimbs wsX1_setLimbs ({ frames := 1, cells := 0, slots := 0, locals := 21 } : Room) D [(cL, .int), (cR, .int)] [.ref h, .long (lI wh)] [(h, .inr (1, [.ref ha, .int (zI lc), .ref hr1, .int (zI cnt), .int (zI dec)])), (ha, .inl (cL, 86, .inl (zA L))), (hr1, .inl (cR, 774, .inl (zA Rw)))] (fun (u : (Nat → Int) × Int) => u.2 = 2 ∧ vL u.1 2 = wh ∧ (∀ j : Nat, (j : Int) < 2 → 0 ≤ u.1 j ∧ u.1 j < 1000000000)) (fun (u : (Nat → Int) × Int) => [(h, .inr (1, [.ref ha, .int (zI u.2), .ref hr1, .int (zI cnt), .int (zI dec)])), (ha, .inl (cL, 86, .inl (zA u.1))), (hr1, .inl (cR, 774, .inl (zA Rw)))]) 0 0 := by
  refine zMv.of (bytes := cX1_setLimbs) (nL := 3) (own := RX1) (by decide) rfl rfl (Nat.le_of_ble_eq_true rfl) ?_
  intro p e s m below meth c ls S hr hlk hnm w hl
  have hl : lv_has ls 3 [(0, .ref h), (1, .long (lI wh))] := hl
  refine lv_aload_n S.1 S.2.1 dX1_setLimbs_0 rfl (lv_at hl 0 rfl) ?_
  refine z_iconst S dX1_setLimbs_1 ?_
  refine z_put (ci := 1) (C := RX1) (T := TX1) (N := 5) S w 0 rfl rfl in_X1_setLimbs_X1 tyX1_ok nmX1 1 (by decide) ln_X1_setLimbs_15 rfl rfl rfl rfl (Nat.le_of_ble_eq_true rfl) dX1_setLimbs_2 (fun H locs w => ?_)
  have w : zW D _ _ s [(h, .inr (1, [.ref ha, .int (zI 0), .ref hr1, .int (zI cnt), .int (zI dec)])), (ha, .inl (cL, 86, .inl (zA L))), (hr1, .inl (cR, 774, .inl (zA Rw)))] H locs := w
  refine lv_aload_n S.1 S.2.1 dX1_setLimbs_5 rfl (lv_at hl 0 rfl) ?_
  refine lv_lload_n S.1 S.2.1 dX1_setLimbs_6 rfl (lv_at hl 1 rfl) ?_
  refine z_ldc2 (v := 1000000000) S 1000000000 kl_X1_setLimbs_72 (by decide +kernel) dX1_setLimbs_7 ?_
  refine z_lrem S dX1_setLimbs_10 (by omega) (by omega) ?_
  refine z_l2i S dX1_setLimbs_11 ?_
  refine z_callvV (C := RX1) (n := 1) (As := [.int (zI (wh % 1000000000))]) (rest := []) (wr := []) (wn := (fun (u : (Nat → Int) × Int) => [(h, .inr (1, [.ref ha, .int (zI u.2), .ref hr1, .int (zI cnt), .int (zI dec)])), (ha, .inl (cL, 86, .inl (zA u.1))), (hr1, .inl (cR, 774, .inl (zA Rw)))])) S w (c_X1_addLimb l D cL cR h ha hr1 L 0 Rw cnt dec (wh % 1000000000) (by omega)) gX1_setLimbs_X1_addLimb (by decide +kernel) rfl ⟨rfl, rfl⟩ ⟨Nat.le_of_ble_eq_true rfl, Nat.le_of_ble_eq_true rfl⟩ [0, 1] [0, 1, 2] [] [0, 1, 2] rfl rfl rfl rfl rfl (by decide) (fun u => rfl) rfl rfl rfl rfl rfl hl.1 (Nat.le_of_ble_eq_true rfl) ⟨Nat.le_of_ble_eq_true rfl, Nat.le_of_ble_eq_true rfl⟩ rfl dX1_setLimbs_12 (fun u H locs p12 w => ?_)
  obtain ⟨L1, lc1⟩ := u
  have p12 : L1 = zu L (0 : Int).toNat (wh % 1000000000) ∧ lc1 = (0 : Int) + 1 := p12
  have w : zW D _ _ s [(h, .inr (1, [.ref ha, .int (zI lc1), .ref hr1, .int (zI cnt), .int (zI dec)])), (ha, .inl (cL, 86, .inl (zA L1))), (hr1, .inl (cR, 774, .inl (zA Rw)))] H locs := w
  refine lv_aload_n S.1 S.2.1 dX1_setLimbs_15 rfl (lv_at hl 0 rfl) ?_
  refine lv_lload_n S.1 S.2.1 dX1_setLimbs_16 rfl (lv_at hl 1 rfl) ?_
  refine z_ldc2 (v := 1000000000) S 1000000000 kl_X1_setLimbs_72 (by decide +kernel) dX1_setLimbs_17 ?_
  refine z_ldiv S dX1_setLimbs_20 (by omega) (by omega) ?_
  refine z_l2i S dX1_setLimbs_21 ?_
  refine z_callvV (C := RX1) (n := 1) (As := [.int (zI (wh / 1000000000))]) (rest := []) (wr := []) (wn := (fun (u : (Nat → Int) × Int) => [(h, .inr (1, [.ref ha, .int (zI u.2), .ref hr1, .int (zI cnt), .int (zI dec)])), (ha, .inl (cL, 86, .inl (zA u.1))), (hr1, .inl (cR, 774, .inl (zA Rw)))])) S w (c_X1_addLimb l D cL cR h ha hr1 L1 lc1 Rw cnt dec (wh / 1000000000) (by omega)) gX1_setLimbs_X1_addLimb (by decide +kernel) rfl ⟨rfl, rfl⟩ ⟨Nat.le_of_ble_eq_true rfl, Nat.le_of_ble_eq_true rfl⟩ [0, 1] [0, 1, 2] [] [0, 1, 2] rfl rfl rfl rfl rfl (by decide) (fun u => rfl) rfl rfl rfl rfl rfl hl.1 (Nat.le_of_ble_eq_true rfl) ⟨Nat.le_of_ble_eq_true rfl, Nat.le_of_ble_eq_true rfl⟩ rfl dX1_setLimbs_22 (fun u H locs p22 w => ?_)
  obtain ⟨L2, lc2⟩ := u
  have p22 : L2 = zu L1 lc1.toNat (wh / 1000000000) ∧ lc2 = lc1 + 1 := p22
  have w : zW D _ _ s [(h, .inr (1, [.ref ha, .int (zI lc2), .ref hr1, .int (zI cnt), .int (zI dec)])), (ha, .inl (cL, 86, .inl (zA L2))), (hr1, .inl (cR, 774, .inl (zA Rw)))] H locs := w
  have k1_ : lc2 = 2 ∧ vL L2 2 = wh ∧ (∀ j : Nat, (j : Int) < 2 → 0 ≤ L2 j ∧ L2 j < 1000000000) := by
    obtain ⟨a1, a2⟩ := p12
    obtain ⟨b1, b2⟩ := p22
    have c0 : L2 0 = wh % 1000000000 := by
      rw [b1, zu_n _ _ (by rw [a2]; decide), a1]; exact zu_s _ _ _
    have c1 : L2 1 = wh / 1000000000 := by
      rw [b1, a2]; exact zu_s _ _ _
    refine ⟨by omega, ?_, ?_⟩
    · show vL L2 (1 + 1) = wh
      rw [vL, vL, vL, c0, c1, Int.pow_zero, Int.pow_succ, Int.pow_zero]; omega
    · intro j q
      have q2 : j = 0 ∨ j = 1 := by omega
      rcases q2 with rfl | rfl
      · rw [c0]; omega
      · rw [c1]; omega
  exact z_vret S hr hlk w (L2, lc2) k1_ rfl dX1_setLimbs_25

set_option maxRecDepth 20000 in
theorem ln_X1_multiplyBy_15 : Cond.fieldLink RX1 15 "DecimalText$Worth" "limbCount" "I" ∈ wsX1_multiplyBy := by decide +kernel
theorem in_X1_multiplyBy_X1 : ∀ w ∈ u_ws RX1 TX1 5, w ∈ wsX1_multiplyBy := by decide +kernel
set_option maxRecDepth 20000 in
theorem ln_X1_multiplyBy_11 : Cond.fieldLink RX1 11 "DecimalText$Worth" "limbs" "[I" ∈ wsX1_multiplyBy := by decide +kernel
set_option maxRecDepth 20000 in
theorem kl_X1_multiplyBy_72 : Cond.constantLong RX1 72 (1000000000) ∈ wsX1_multiplyBy := by decide +kernel
set_option maxHeartbeats 4000000 in
set_option maxRecDepth 100000 in
theorem c_X1_multiplyBy (l : Launch) (D : va_G) (cL cR : ClassId) (h : Nat) (ha : Nat) (hr1 : Nat) (L : Nat → Int) (lc : Int) (Rw : Nat → Int) (cnt : Int) (dec : Int) (f : Int) (hlc : 0 ≤ lc ∧ lc ≤ 86) (hL : ∀ j : Nat, (j : Int) < lc → 0 ≤ L j ∧ L j < 1000000000) (hf : 1 ≤ f ∧ f ≤ 1000000000) (hb : vL L lc.toNat * f < 1000000000 ^ 86) : zMv (T := (Nat → Int) × Int) l yX1_multiplyBy wsX1_multiplyBy ({ frames := 1, cells := 0, slots := 0, locals := 21 } : Room) D [(cL, .int), (cR, .int)] [.ref h, .int (zI f)] [(h, .inr (1, [.ref ha, .int (zI lc), .ref hr1, .int (zI cnt), .int (zI dec)])), (ha, .inl (cL, 86, .inl (zA L))), (hr1, .inl (cR, 774, .inl (zA Rw)))] (fun (u : (Nat → Int) × Int) => (lc ≤ u.2 ∧ u.2 ≤ 86) ∧ (∀ j : Nat, (j : Int) < u.2 → 0 ≤ u.1 j ∧ u.1 j < 1000000000) ∧ vL u.1 (u.2).toNat = vL L lc.toNat * f) (fun (u : (Nat → Int) × Int) => [(h, .inr (1, [.ref ha, .int (zI u.2), .ref hr1, .int (zI cnt), .int (zI dec)])), (ha, .inl (cL, 86, .inl (zA u.1))), (hr1, .inl (cR, 774, .inl (zA Rw)))]) 0 0 := by
  refine zMv.of (bytes := cX1_multiplyBy) (nL := 7) (own := RX1) (by decide) rfl rfl (Nat.le_of_ble_eq_true rfl) ?_
  intro p e s m below meth c ls S hr hlk hnm w hl
  have lab5 : ∀ (nf_ : Nat) (L1 : Nat → Int) (cr : Int) (i : Int), (lc - i).toNat < nf_ → (0 ≤ i ∧ i ≤ lc) → (0 ≤ cr ∧ cr < f) → (∀ j : Nat, (j : Int) < i → 0 ≤ L1 j ∧ L1 j < 1000000000) → (∀ j : Nat, i ≤ (j : Int) → L1 j = L j) → (vL L1 i.toNat + cr * 1000000000 ^ i.toNat = vL L i.toNat * f) → ∀ (H : Heap) (locs : List Loc) (ls : Array Slot), zW D [(cL, .int), (cR, .int)] (va_A [(h, .inr (1, [.ref ha, .int (zI lc), .ref hr1, .int (zI cnt), .int (zI dec)])), (ha, .inl (cL, 86, .inl (zA L))), (hr1, .inl (cR, 774, .inl (zA Rw)))] s.heap.size) s [(h, .inr (1, [.ref ha, .int (zI lc), .ref hr1, .int (zI cnt), .int (zI dec)])), (ha, .inl (cL, 86, .inl (zA L1))), (hr1, .inl (cR, 774, .inl (zA Rw)))] H locs → lv_has ls 7 [(0, .ref h), (1, .int (zI f)), (2, .long (lI cr)), (4, .int (zI i))] → W p l e ({ frames := 1, cells := 0, slots := 0, locals := 21 } : Room) s m ([.ref h, .int (zI f)] : List Value).toArray below meth c H locs 0 0 (MQ below (zQv D [(cL, .int), (cR, .int)] [(h, .inr (1, [.ref ha, .int (zI lc), .ref hr1, .int (zI cnt), .int (zI dec)])), (ha, .inl (cL, 86, .inl (zA L))), (hr1, .inl (cR, 774, .inl (zA Rw)))] s.heap.size (fun (u : (Nat → Int) × Int) => (lc ≤ u.2 ∧ u.2 ≤ 86) ∧ (∀ j : Nat, (j : Int) < u.2 → 0 ≤ u.1 j ∧ u.1 j < 1000000000) ∧ vL u.1 (u.2).toNat = vL L lc.toNat * f) (fun (u : (Nat → Int) × Int) => [(h, .inr (1, [.ref ha, .int (zI u.2), .ref hr1, .int (zI cnt), .int (zI dec)])), (ha, .inl (cL, 86, .inl (zA u.1))), (hr1, .inl (cR, 774, .inl (zA Rw)))])) ([.ref h, .int (zI f)] : List Value).toArray s 0 0 (va_A [(h, .inr (1, [.ref ha, .int (zI lc), .ref hr1, .int (zI cnt), .int (zI dec)])), (ha, .inl (cL, 86, .inl (zA L))), (hr1, .inl (cR, 774, .inl (zA Rw)))] s.heap.size)) (F0 m 5 ls []) := by
    intro nf_
    induction nf_ with
    | zero => intro L1 cr i hmeas_; exact absurd hmeas_ (Nat.not_lt_zero _)
    | succ nf_ ih =>
      intro L1 cr i hmeas_ hi hcr e1 e3 ev H locs ls w hl
      refine lv_iload S.1 S.2.1 dX1_multiplyBy_5 (lv_at hl 3 rfl) ?_
      refine lv_aload_n S.1 S.2.1 dX1_multiplyBy_7 rfl (lv_at hl 0 rfl) ?_
      refine z_get (ci := 1) (C := RX1) (T := TX1) (N := 5) S w 0 rfl rfl in_X1_multiplyBy_X1 1 (by decide) ln_X1_multiplyBy_15 rfl rfl dX1_multiplyBy_8 ?_
      refine z_icmp_ge (tgt := 68) S dX1_multiplyBy_11 (by decide) (by omega) (by omega) (fun h11 => ?_) (fun h11 => ?_)
      · skip
        have ei : i = lc := by omega
        rw [ei] at e1 e3 ev
        refine lv_lload_n S.1 S.2.1 dX1_multiplyBy_68 rfl (lv_at hl 2 rfl) ?_
        refine z_lconst (z := 0) S dX1_multiplyBy_69 (by decide +kernel) ?_
        refine z_lcmp S dX1_multiplyBy_70 (by omega) (by omega) (fun c70 hc70 => ?_)
        refine z_if_le (tgt := 80) S dX1_multiplyBy_71 (by decide) (by omega) (fun h71 => ?_) (fun h71 => ?_)
        · skip
          have k1_ : (lc ≤ lc ∧ lc ≤ 86) ∧ (∀ j : Nat, (j : Int) < lc → 0 ≤ L1 j ∧ L1 j < 1000000000) ∧ vL L1 (lc).toNat = vL L lc.toNat * f := by
            have c0 : cr = 0 := by omega
            rw [c0, Int.zero_mul, Int.add_zero] at ev
            exact ⟨by omega, e1, ev⟩
          exact z_vret S hr hlk w (L1, lc) k1_ rfl dX1_multiplyBy_80
        · skip
          refine lv_aload_n S.1 S.2.1 dX1_multiplyBy_74 rfl (lv_at hl 0 rfl) ?_
          refine lv_lload_n S.1 S.2.1 dX1_multiplyBy_75 rfl (lv_at hl 2 rfl) ?_
          refine z_l2i S dX1_multiplyBy_76 ?_
          have k2_ : 0 ≤ lc ∧ lc < 86 := by
            have n0 := vL_nonneg (L := L1) (n := lc.toNat) (fun j q => (e1 j (by omega)).1)
            refine ⟨by omega, ?_⟩
            apply Int.not_le.mp
            intro k1
            have k2 : lc.toNat = 86 := by omega
            rw [k2] at ev n0 hb
            have k3 : 1 * (1000000000 : Int) ^ 86 ≤ cr * 1000000000 ^ 86 := Int.mul_le_mul_of_nonneg_right (by omega) (Int.le_of_lt (b9_pos 86))
            omega
          refine z_callvV (C := RX1) (n := 1) (As := [.int (zI cr)]) (rest := []) (wr := []) (wn := (fun (u : (Nat → Int) × Int) => [(h, .inr (1, [.ref ha, .int (zI u.2), .ref hr1, .int (zI cnt), .int (zI dec)])), (ha, .inl (cL, 86, .inl (zA u.1))), (hr1, .inl (cR, 774, .inl (zA Rw)))])) S w (c_X1_addLimb l D cL cR h ha hr1 L1 lc Rw cnt dec cr k2_) gX1_multiplyBy_X1_addLimb (by decide +kernel) rfl ⟨rfl, rfl⟩ ⟨Nat.le_of_ble_eq_true rfl, Nat.le_of_ble_eq_true rfl⟩ [0, 1] [0, 1, 2] [] [0, 1, 2] rfl rfl rfl rfl rfl (by decide) (fun u => rfl) rfl rfl rfl rfl rfl hl.1 (Nat.le_of_ble_eq_true rfl) ⟨Nat.le_of_ble_eq_true rfl, Nat.le_of_ble_eq_true rfl⟩ rfl dX1_multiplyBy_77 (fun u H locs p77 w => ?_)
          obtain ⟨L2, lc2⟩ := u
          have p77 : L2 = zu L1 lc.toNat cr ∧ lc2 = lc + 1 := p77
          have w : zW D _ _ s [(h, .inr (1, [.ref ha, .int (zI lc2), .ref hr1, .int (zI cnt), .int (zI dec)])), (ha, .inl (cL, 86, .inl (zA L2))), (hr1, .inl (cR, 774, .inl (zA Rw)))] H locs := w
          have k3_ : (lc ≤ lc2 ∧ lc2 ≤ 86) ∧ (∀ j : Nat, (j : Int) < lc2 → 0 ≤ L2 j ∧ L2 j < 1000000000) ∧ vL L2 (lc2).toNat = vL L lc.toNat * f := by
            obtain ⟨a1, a2⟩ := p77
            refine ⟨by omega, ?_, ?_⟩
            · intro j q
              rw [a1]
              by_cases q5 : (j : Int) = lc
              · have q6 : lc.toNat = j := by omega
                rw [q6, zu_s]; omega
              · rw [zu_n _ _ (by omega)]; exact e1 j (by omega)
            · have k1 : lc2.toNat = lc.toNat + 1 := by omega
              rw [a1, k1, vL, zu_s, vL_congr (M := L1) (n := lc.toNat) (fun j q => zu_n _ _ (by omega))]; exact ev
          exact z_vret S hr hlk w (L2, lc2) k3_ rfl dX1_multiplyBy_80
      · skip
        refine lv_iload S.1 S.2.1 dX1_multiplyBy_14 (lv_at hl 3 rfl) ?_
        refine lv_aload_n S.1 S.2.1 dX1_multiplyBy_16 rfl (lv_at hl 0 rfl) ?_
        refine z_get (ci := 1) (C := RX1) (T := TX1) (N := 5) S w 0 rfl rfl in_X1_multiplyBy_X1 0 (by decide) ln_X1_multiplyBy_11 rfl rfl dX1_multiplyBy_17 ?_
        refine z_alen (n := 86) S w 1 0 rfl rfl dX1_multiplyBy_20 ?_
        refine z_icmp_ge (tgt := 68) S dX1_multiplyBy_21 (by decide) (by omega) (by omega) (fun h21 => ?_) (fun h21 => ?_)
        · skip
          exfalso; omega
        · skip
          have q1 : L1 i.toNat = L i.toNat := e3 _ (by omega)
          have q2 := hL i.toNat (by omega)
          rw [← q1] at q2
          have q3 : 0 ≤ L1 i.toNat * f := Int.mul_nonneg q2.1 (by omega)
          have q4 : L1 i.toNat * f ≤ 999999999 * f := Int.mul_le_mul_of_nonneg_right (by omega) (by omega)
          refine lv_aload_n S.1 S.2.1 dX1_multiplyBy_24 rfl (lv_at hl 0 rfl) ?_
          refine z_get (ci := 1) (C := RX1) (T := TX1) (N := 5) S w 0 rfl rfl in_X1_multiplyBy_X1 0 (by decide) ln_X1_multiplyBy_11 rfl rfl dX1_multiplyBy_25 ?_
          refine lv_iload S.1 S.2.1 dX1_multiplyBy_28 (lv_at hl 3 rfl) ?_
          refine z_iald S w 1 0 rfl rfl (by omega) (by decide) dX1_multiplyBy_30 ?_
          refine z_i2l S dX1_multiplyBy_31 (by omega) ?_
          refine lv_iload_n S.1 S.2.1 dX1_multiplyBy_32 rfl (lv_at hl 1 rfl) ?_
          refine z_i2l S dX1_multiplyBy_33 (by omega) ?_
          refine z_lmul S dX1_multiplyBy_34 ?_
          refine lv_lload_n S.1 S.2.1 dX1_multiplyBy_35 rfl (lv_at hl 2 rfl) ?_
          refine z_ladd S dX1_multiplyBy_36 ?_
          refine lv_lstore (lv' := [(5, .long (lI (((L1 i.toNat) * f) + cr))), (0, .ref h), (1, .int (zI f)), (2, .long (lI cr)), (4, .int (zI i))]) S.1 S.2.1 dX1_multiplyBy_37 hl (by decide) rfl (fun ls hl => ?_)
          refine lv_lload S.1 S.2.1 dX1_multiplyBy_39 (lv_at hl 0 rfl) ?_
          refine z_ldc2 (v := 1000000000) S 1000000000 kl_X1_multiplyBy_72 (by decide +kernel) dX1_multiplyBy_41 ?_
          refine z_ldiv S dX1_multiplyBy_44 (by omega) (by omega) ?_
          refine lv_lstore_n (lv' := [(2, .long (lI ((((L1 i.toNat) * f) + cr) / 1000000000))), (5, .long (lI (((L1 i.toNat) * f) + cr))), (0, .ref h), (1, .int (zI f)), (4, .int (zI i))]) S.1 S.2.1 dX1_multiplyBy_45 rfl hl (by decide) rfl (fun ls hl => ?_)
          refine lv_aload_n S.1 S.2.1 dX1_multiplyBy_46 rfl (lv_at hl 2 rfl) ?_
          refine z_get (ci := 1) (C := RX1) (T := TX1) (N := 5) S w 0 rfl rfl in_X1_multiplyBy_X1 0 (by decide) ln_X1_multiplyBy_11 rfl rfl dX1_multiplyBy_47 ?_
          refine lv_iload S.1 S.2.1 dX1_multiplyBy_50 (lv_at hl 4 rfl) ?_
          refine lv_lload S.1 S.2.1 dX1_multiplyBy_52 (lv_at hl 1 rfl) ?_
          refine lv_lload_n S.1 S.2.1 dX1_multiplyBy_54 rfl (lv_at hl 0 rfl) ?_
          refine z_ldc2 (v := 1000000000) S 1000000000 kl_X1_multiplyBy_72 (by decide +kernel) dX1_multiplyBy_55 ?_
          refine z_lmul S dX1_multiplyBy_58 ?_
          refine z_lsub S dX1_multiplyBy_59 ?_
          refine z_l2i S dX1_multiplyBy_60 ?_
          refine z_iast S w 1 0 rfl rfl (by omega) (by decide) dX1_multiplyBy_61 (fun H locs w => ?_)
          have w : zW D _ _ s [(h, .inr (1, [.ref ha, .int (zI lc), .ref hr1, .int (zI cnt), .int (zI dec)])), (ha, .inl (cL, 86, .inl (zA (zu L1 i.toNat ((((L1 i.toNat) * f) + cr) - (((((L1 i.toNat) * f) + cr) / 1000000000) * 1000000000)))))), (hr1, .inl (cR, 774, .inl (zA Rw)))] H locs := w
          refine lv_iinc (v := zI (i + 1)) (lv' := [(4, .int (zI (i + 1))), (2, .long (lI ((((L1 i.toNat) * f) + cr) / 1000000000))), (5, .long (lI (((L1 i.toNat) * f) + cr))), (0, .ref h), (1, .int (zI f))]) S.1 S.2.1 dX1_multiplyBy_62 hl (k := 4) rfl (zI_add i 1) (by decide) rfl (fun ls hl => ?_)
          refine lv_goto (tgt := 5) S.1 S.2.1 dX1_multiplyBy_65 (by decide) ?_
          have k4_ : ∀ j : Nat, (j : Int) < (i + 1) → 0 ≤ (zu L1 i.toNat ((((L1 i.toNat) * f) + cr) - (((((L1 i.toNat) * f) + cr) / 1000000000) * 1000000000))) j ∧ (zu L1 i.toNat ((((L1 i.toNat) * f) + cr) - (((((L1 i.toNat) * f) + cr) / 1000000000) * 1000000000))) j < 1000000000 := by
            intro j q
            by_cases q5 : (j : Int) = i
            · have q6 : i.toNat = j := by omega
              rw [q6] at q1 q2 q3 q4 ⊢
              rw [zu_s]; omega
            · rw [zu_n _ _ (by omega)]; exact e1 j (by omega)
          have k5_ : vL (zu L1 i.toNat ((((L1 i.toNat) * f) + cr) - (((((L1 i.toNat) * f) + cr) / 1000000000) * 1000000000))) (i + 1).toNat + ((((L1 i.toNat) * f) + cr) / 1000000000) * 1000000000 ^ (i + 1).toNat = vL L (i + 1).toNat * f := by
            have k1 : (i + 1).toNat = i.toNat + 1 := by omega
            rw [k1, vL, vL, zu_s, Int.pow_succ, vL_congr (M := L1) (n := i.toNat) (fun j q => zu_n _ _ (by omega))]
            have k2 := mul_step (nw := L1 i.toNat * f + cr - (L1 i.toNat * f + cr) / 1000000000 * 1000000000) (c2 := (L1 i.toNat * f + cr) / 1000000000) (x := L1 i.toNat) ev (by omega)
            rw [← q1]; exact k2
          exact ih (zu L1 i.toNat ((((L1 i.toNat) * f) + cr) - (((((L1 i.toNat) * f) + cr) / 1000000000) * 1000000000))) ((((L1 i.toNat) * f) + cr) / 1000000000) (i + 1) (by omega) (by omega) (by omega) k4_ (fun j q => by rw [zu_n _ _ (by omega)]; exact e3 j (by omega)) k5_ _ _ _ w (lv_sub hl [3, 4, 1, 0] rfl)
  have hl : lv_has ls 7 [(0, .ref h), (1, .int (zI f))] := hl
  refine z_lconst (z := 0) S dX1_multiplyBy_0 (by decide +kernel) ?_
  refine lv_lstore_n (lv' := [(2, .long (lI 0)), (0, .ref h), (1, .int (zI f))]) S.1 S.2.1 dX1_multiplyBy_1 rfl hl (by decide) rfl (fun ls hl => ?_)
  refine z_iconst S dX1_multiplyBy_2 ?_
  refine lv_istore (lv' := [(4, .int (zI 0)), (2, .long (lI 0)), (0, .ref h), (1, .int (zI f))]) S.1 S.2.1 dX1_multiplyBy_3 hl (by decide) rfl (fun ls hl => ?_)
  exact lab5 _ L 0 0 (Nat.lt_succ_self _) (by omega) (by omega) (fun j q => by omega) (fun j q => rfl) (by rw [Int.zero_mul]; show (0 : Int) + 0 = 0 * f; rw [Int.zero_mul]; rfl) _ _ _ w (lv_sub hl [2, 3, 1, 0] rfl)

set_option maxRecDepth 20000 in
theorem ki_X1_multiplyByPower_77 : Cond.constant RX1 77 (200000000) ∈ wsX1_multiplyByPower := by decide +kernel
set_option maxHeartbeats 4000000 in
set_option maxRecDepth 100000 in
theorem c_X1_multiplyByPower (l : Launch) (D : va_G) (cL cR : ClassId) (h : Nat) (ha : Nat) (hr1 : Nat) (L : Nat → Int) (lc : Int) (Rw : Nat → Int) (cnt : Int) (dec : Int) (ba : Int) (ex : Int) (hlc : 0 ≤ lc ∧ lc ≤ 86) (hL : ∀ j : Nat, (j : Int) < lc → 0 ≤ L j ∧ L j < 1000000000) (hba : ba = 2 ∨ ba = 5) (hex : 0 ≤ ex ∧ ex ≤ 1074) (hb : vL L lc.toNat * ba ^ ex.toNat < 1000000000 ^ 86) : zMv (T := (Nat → Int) × Int) l yX1_multiplyByPower wsX1_multiplyByPower ({ frames := 2, cells := 0, slots := 0, locals := 47 } : Room) D [(cL, .int), (cR, .int)] [.ref h, .int (zI ba), .int (zI ex)] [(h, .inr (1, [.ref ha, .int (zI lc), .ref hr1, .int (zI cnt), .int (zI dec)])), (ha, .inl (cL, 86, .inl (zA L))), (hr1, .inl (cR, 774, .inl (zA Rw)))] (fun (u : (Nat → Int) × Int) => (0 ≤ u.2 ∧ u.2 ≤ 86) ∧ (∀ j : Nat, (j : Int) < u.2 → 0 ≤ u.1 j ∧ u.1 j < 1000000000) ∧ vL u.1 (u.2).toNat = vL L lc.toNat * ba ^ ex.toNat) (fun (u : (Nat → Int) × Int) => [(h, .inr (1, [.ref ha, .int (zI u.2), .ref hr1, .int (zI cnt), .int (zI dec)])), (ha, .inl (cL, 86, .inl (zA u.1))), (hr1, .inl (cR, 774, .inl (zA Rw)))]) 0 0 := by
  refine zMv.of (bytes := cX1_multiplyByPower) (nL := 5) (own := RX1) (by decide) rfl rfl (Nat.le_of_ble_eq_true rfl) ?_
  intro p e s m below meth c ls S hr hlk hnm w hl
  have lab5 : ∀ (nf_ : Nat) (L1 : Nat → Int) (lc1 : Int) (fa : Int) (i : Int), (ex - i).toNat < nf_ → (0 ≤ i ∧ i ≤ ex) → (1 ≤ fa ∧ fa ≤ 1000000000) → (0 ≤ lc1 ∧ lc1 ≤ 86) → (∀ j : Nat, (j : Int) < lc1 → 0 ≤ L1 j ∧ L1 j < 1000000000) → (vL L1 lc1.toNat * fa = vL L lc.toNat * ba ^ i.toNat) → ∀ (H : Heap) (locs : List Loc) (ls : Array Slot), zW D [(cL, .int), (cR, .int)] (va_A [(h, .inr (1, [.ref ha, .int (zI lc), .ref hr1, .int (zI cnt), .int (zI dec)])), (ha, .inl (cL, 86, .inl (zA L))), (hr1, .inl (cR, 774, .inl (zA Rw)))] s.heap.size) s [(h, .inr (1, [.ref ha, .int (zI lc1), .ref hr1, .int (zI cnt), .int (zI dec)])), (ha, .inl (cL, 86, .inl (zA L1))), (hr1, .inl (cR, 774, .inl (zA Rw)))] H locs → lv_has ls 5 [(0, .ref h), (1, .int (zI ba)), (2, .int (zI ex)), (3, .int (zI fa)), (4, .int (zI i))] → W p l e ({ frames := 2, cells := 0, slots := 0, locals := 47 } : Room) s m ([.ref h, .int (zI ba), .int (zI ex)] : List Value).toArray below meth c H locs 0 0 (MQ below (zQv D [(cL, .int), (cR, .int)] [(h, .inr (1, [.ref ha, .int (zI lc), .ref hr1, .int (zI cnt), .int (zI dec)])), (ha, .inl (cL, 86, .inl (zA L))), (hr1, .inl (cR, 774, .inl (zA Rw)))] s.heap.size (fun (u : (Nat → Int) × Int) => (0 ≤ u.2 ∧ u.2 ≤ 86) ∧ (∀ j : Nat, (j : Int) < u.2 → 0 ≤ u.1 j ∧ u.1 j < 1000000000) ∧ vL u.1 (u.2).toNat = vL L lc.toNat * ba ^ ex.toNat) (fun (u : (Nat → Int) × Int) => [(h, .inr (1, [.ref ha, .int (zI u.2), .ref hr1, .int (zI cnt), .int (zI dec)])), (ha, .inl (cL, 86, .inl (zA u.1))), (hr1, .inl (cR, 774, .inl (zA Rw)))])) ([.ref h, .int (zI ba), .int (zI ex)] : List Value).toArray s 0 0 (va_A [(h, .inr (1, [.ref ha, .int (zI lc), .ref hr1, .int (zI cnt), .int (zI dec)])), (ha, .inl (cL, 86, .inl (zA L))), (hr1, .inl (cR, 774, .inl (zA Rw)))] s.heap.size)) (F0 m 5 ls []) := by
    intro nf_
    induction nf_ with
    | zero => intro L1 lc1 fa i hmeas_; exact absurd hmeas_ (Nat.not_lt_zero _)
    | succ nf_ ih =>
      intro L1 lc1 fa i hmeas_ hi hfa hlc1 e1 ev H locs ls w hl
      have n0 := vL_nonneg (L := L) (n := lc.toNat) (fun j q => (hL j (by omega)).1)
      have hpb : vL L1 lc1.toNat * fa < 1000000000 ^ 86 := by
        rw [ev]
        exact Int.lt_of_le_of_lt (Int.mul_le_mul_of_nonneg_left (pow_mono_i hba (by omega)) n0) hb
      refine lv_iload S.1 S.2.1 dX1_multiplyByPower_5 (lv_at hl 4 rfl) ?_
      refine lv_iload_n S.1 S.2.1 dX1_multiplyByPower_7 rfl (lv_at hl 2 rfl) ?_
      refine z_icmp_ge (tgt := 34) S dX1_multiplyByPower_8 (by decide) (by omega) (by omega) (fun h8 => ?_) (fun h8 => ?_)
      · skip
        refine lv_aload_n S.1 S.2.1 dX1_multiplyByPower_34 rfl (lv_at hl 0 rfl) ?_
        refine lv_iload_n S.1 S.2.1 dX1_multiplyByPower_35 rfl (lv_at hl 3 rfl) ?_
        refine z_callvV (C := RX1) (n := 1) (As := [.int (zI fa)]) (rest := []) (wr := []) (wn := (fun (u : (Nat → Int) × Int) => [(h, .inr (1, [.ref ha, .int (zI u.2), .ref hr1, .int (zI cnt), .int (zI dec)])), (ha, .inl (cL, 86, .inl (zA u.1))), (hr1, .inl (cR, 774, .inl (zA Rw)))])) S w (c_X1_multiplyBy l D cL cR h ha hr1 L1 lc1 Rw cnt dec fa (by omega) e1 (by omega) hpb) gX1_multiplyByPower_X1_multiplyBy (by decide +kernel) rfl ⟨rfl, rfl⟩ ⟨Nat.le_of_ble_eq_true rfl, Nat.le_of_ble_eq_true rfl⟩ [0, 1] [0, 1, 2] [] [0, 1, 2] rfl rfl rfl rfl rfl (by decide) (fun u => rfl) rfl rfl rfl rfl rfl hl.1 (Nat.le_of_ble_eq_true rfl) ⟨Nat.le_of_ble_eq_true rfl, Nat.le_of_ble_eq_true rfl⟩ rfl dX1_multiplyByPower_36 (fun u H locs p36 w => ?_)
        obtain ⟨L2, lc2⟩ := u
        have p36 : (lc1 ≤ lc2 ∧ lc2 ≤ 86) ∧ (∀ j : Nat, (j : Int) < lc2 → 0 ≤ L2 j ∧ L2 j < 1000000000) ∧ vL L2 (lc2).toNat = vL L1 lc1.toNat * fa := p36
        have w : zW D _ _ s [(h, .inr (1, [.ref ha, .int (zI lc2), .ref hr1, .int (zI cnt), .int (zI dec)])), (ha, .inl (cL, 86, .inl (zA L2))), (hr1, .inl (cR, 774, .inl (zA Rw)))] H locs := w
        obtain ⟨a1, a2, a3⟩ := p36
        have k1_ : (0 ≤ lc2 ∧ lc2 ≤ 86) ∧ (∀ j : Nat, (j : Int) < lc2 → 0 ≤ L2 j ∧ L2 j < 1000000000) ∧ vL L2 (lc2).toNat = vL L lc.toNat * ba ^ ex.toNat := by
          have k1 : i = ex := by omega
          rw [ev, k1] at a3
          exact ⟨by omega, a2, a3⟩
        exact z_vret S hr hlk w (L2, lc2) k1_ rfl dX1_multiplyByPower_39
      · skip
        refine lv_iload_n S.1 S.2.1 dX1_multiplyByPower_11 rfl (lv_at hl 3 rfl) ?_
        refine z_ldc (v := 200000000) S 200000000 ki_X1_multiplyByPower_77 (by decide +kernel) dX1_multiplyByPower_12 ?_
        refine z_icmp_le (tgt := 24) S dX1_multiplyByPower_14 (by decide) (by omega) (by omega) (fun h14 => ?_) (fun h14 => ?_)
        · skip
          refine lv_iload_n S.1 S.2.1 dX1_multiplyByPower_24 rfl (lv_at hl 3 rfl) ?_
          refine lv_iload_n S.1 S.2.1 dX1_multiplyByPower_25 rfl (lv_at hl 1 rfl) ?_
          have qf : 1 ≤ fa * ba ∧ (fa ≤ 200000000 → fa * ba ≤ 1000000000) := by rcases hba with k | k <;> rw [k] <;> omega
          have qg : 1 ≤ 1 * ba ∧ 1 * ba ≤ 1000000000 := by omega
          refine z_imul S dX1_multiplyByPower_26 ?_
          refine lv_istore_n (lv' := [(3, .int (zI (fa * ba))), (0, .ref h), (1, .int (zI ba)), (2, .int (zI ex)), (4, .int (zI i))]) S.1 S.2.1 dX1_multiplyByPower_27 rfl hl (by decide) rfl (fun ls hl => ?_)
          refine lv_iinc (v := zI (i + 1)) (lv' := [(4, .int (zI (i + 1))), (3, .int (zI (fa * ba))), (0, .ref h), (1, .int (zI ba)), (2, .int (zI ex))]) S.1 S.2.1 dX1_multiplyByPower_28 hl (k := 4) rfl (zI_add i 1) (by decide) rfl (fun ls hl => ?_)
          refine lv_goto (tgt := 5) S.1 S.2.1 dX1_multiplyByPower_31 (by decide) ?_
          have k2_ : vL L1 lc1.toNat * (fa * ba) = vL L lc.toNat * ba ^ (i + 1).toNat := by
            have k1 : (i + 1).toNat = i.toNat + 1 := by omega
            have k2 : vL L lc.toNat * ba ^ (i + 1).toNat = vL L1 lc1.toNat * fa * ba := by rw [k1, Int.pow_succ, ← Int.mul_assoc, ← ev]
            rw [k2]
            first
              | (rw [a3, Int.one_mul])
              | (rw [Int.mul_assoc])
          exact ih L1 lc1 (fa * ba) (i + 1) (by omega) (by omega) (by omega) (by omega) (by first | exact a2 | exact e1) k2_ _ _ _ w (lv_sub hl [2, 3, 4, 1, 0] rfl)
        · skip
          refine lv_aload_n S.1 S.2.1 dX1_multiplyByPower_17 rfl (lv_at hl 0 rfl) ?_
          refine lv_iload_n S.1 S.2.1 dX1_multiplyByPower_18 rfl (lv_at hl 3 rfl) ?_
          refine z_callvV (C := RX1) (n := 1) (As := [.int (zI fa)]) (rest := []) (wr := []) (wn := (fun (u : (Nat → Int) × Int) => [(h, .inr (1, [.ref ha, .int (zI u.2), .ref hr1, .int (zI cnt), .int (zI dec)])), (ha, .inl (cL, 86, .inl (zA u.1))), (hr1, .inl (cR, 774, .inl (zA Rw)))])) S w (c_X1_multiplyBy l D cL cR h ha hr1 L1 lc1 Rw cnt dec fa (by omega) e1 (by omega) hpb) gX1_multiplyByPower_X1_multiplyBy (by decide +kernel) rfl ⟨rfl, rfl⟩ ⟨Nat.le_of_ble_eq_true rfl, Nat.le_of_ble_eq_true rfl⟩ [0, 1] [0, 1, 2] [] [0, 1, 2] rfl rfl rfl rfl rfl (by decide) (fun u => rfl) rfl rfl rfl rfl rfl hl.1 (Nat.le_of_ble_eq_true rfl) ⟨Nat.le_of_ble_eq_true rfl, Nat.le_of_ble_eq_true rfl⟩ rfl dX1_multiplyByPower_19 (fun u H locs p19 w => ?_)
          obtain ⟨L2, lc2⟩ := u
          have p19 : (lc1 ≤ lc2 ∧ lc2 ≤ 86) ∧ (∀ j : Nat, (j : Int) < lc2 → 0 ≤ L2 j ∧ L2 j < 1000000000) ∧ vL L2 (lc2).toNat = vL L1 lc1.toNat * fa := p19
          have w : zW D _ _ s [(h, .inr (1, [.ref ha, .int (zI lc2), .ref hr1, .int (zI cnt), .int (zI dec)])), (ha, .inl (cL, 86, .inl (zA L2))), (hr1, .inl (cR, 774, .inl (zA Rw)))] H locs := w
          obtain ⟨a1, a2, a3⟩ := p19
          refine z_iconst S dX1_multiplyByPower_22 ?_
          refine lv_istore_n (lv' := [(3, .int (zI 1)), (0, .ref h), (1, .int (zI ba)), (2, .int (zI ex)), (4, .int (zI i))]) S.1 S.2.1 dX1_multiplyByPower_23 rfl hl (by decide) rfl (fun ls hl => ?_)
          refine lv_iload_n S.1 S.2.1 dX1_multiplyByPower_24 rfl (lv_at hl 0 rfl) ?_
          refine lv_iload_n S.1 S.2.1 dX1_multiplyByPower_25 rfl (lv_at hl 2 rfl) ?_
          have qf : 1 ≤ fa * ba ∧ (fa ≤ 200000000 → fa * ba ≤ 1000000000) := by rcases hba with k | k <;> rw [k] <;> omega
          have qg : 1 ≤ 1 * ba ∧ 1 * ba ≤ 1000000000 := by omega
          refine z_imul S dX1_multiplyByPower_26 ?_
          refine lv_istore_n (lv' := [(3, .int (zI (1 * ba))), (0, .ref h), (1, .int (zI ba)), (2, .int (zI ex)), (4, .int (zI i))]) S.1 S.2.1 dX1_multiplyByPower_27 rfl hl (by decide) rfl (fun ls hl => ?_)
          refine lv_iinc (v := zI (i + 1)) (lv' := [(4, .int (zI (i + 1))), (3, .int (zI (1 * ba))), (0, .ref h), (1, .int (zI ba)), (2, .int (zI ex))]) S.1 S.2.1 dX1_multiplyByPower_28 hl (k := 4) rfl (zI_add i 1) (by decide) rfl (fun ls hl => ?_)
          refine lv_goto (tgt := 5) S.1 S.2.1 dX1_multiplyByPower_31 (by decide) ?_
          have k3_ : vL L2 lc2.toNat * (1 * ba) = vL L lc.toNat * ba ^ (i + 1).toNat := by
            have k1 : (i + 1).toNat = i.toNat + 1 := by omega
            have k2 : vL L lc.toNat * ba ^ (i + 1).toNat = vL L1 lc1.toNat * fa * ba := by rw [k1, Int.pow_succ, ← Int.mul_assoc, ← ev]
            rw [k2]
            first
              | (rw [a3, Int.one_mul])
              | (rw [Int.mul_assoc])
          exact ih L2 lc2 (1 * ba) (i + 1) (by omega) (by omega) (by omega) (by omega) (by first | exact a2 | exact e1) k3_ _ _ _ w (lv_sub hl [2, 3, 4, 1, 0] rfl)
  have hl : lv_has ls 5 [(0, .ref h), (1, .int (zI ba)), (2, .int (zI ex))] := hl
  refine z_iconst S dX1_multiplyByPower_0 ?_
  refine lv_istore_n (lv' := [(3, .int (zI 1)), (0, .ref h), (1, .int (zI ba)), (2, .int (zI ex))]) S.1 S.2.1 dX1_multiplyByPower_1 rfl hl (by decide) rfl (fun ls hl => ?_)
  refine z_iconst S dX1_multiplyByPower_2 ?_
  refine lv_istore (lv' := [(4, .int (zI 0)), (3, .int (zI 1)), (0, .ref h), (1, .int (zI ba)), (2, .int (zI ex))]) S.1 S.2.1 dX1_multiplyByPower_3 hl (by decide) rfl (fun ls hl => ?_)
  exact lab5 _ L lc 1 0 (Nat.lt_succ_self _) (by omega) (by omega) (by omega) hL (by rw [Int.mul_one]; show _ = vL L lc.toNat * ba ^ 0; rw [Int.pow_zero, Int.mul_one]) _ _ _ w (lv_sub hl [2, 3, 4, 1, 0] rfl)

set_option maxHeartbeats 4000000 in
set_option maxRecDepth 100000 in
theorem c_J7_fill_53178 (l : Launch) (D : va_G) (cR : ClassId) (a : Nat) (r : Nat → Int) (x : Int)  : zMv (T := (Nat → Int)) l yJ7_fill_53178 wsJ7_fill_53178 ({ frames := 0, cells := 0, slots := 0, locals := 0 } : Room) D [(cR, .int)] [.ref a, .int (zI x)] [(a, .inl (cR, 774, .inl (zA r)))] (fun (u : (Nat → Int)) => ∀ j : Nat, j < 774 → u j = x) (fun (u : (Nat → Int)) => [(a, .inl (cR, 774, .inl (zA u)))]) 0 0 := by
  refine zMv.of (bytes := cJ7_fill_53178) (nL := 4) (own := RJ7) (by decide) rfl rfl (Nat.le_of_ble_eq_true rfl) ?_
  intro p e s m below meth c ls S hr hlk hnm w hl
  have lab5 : ∀ (nf_ : Nat) (r1 : Nat → Int) (i : Int), (774 - i).toNat < nf_ → (0 ≤ i ∧ i ≤ 774) → (∀ j : Nat, (j : Int) < i → r1 j = x) → ∀ (H : Heap) (locs : List Loc) (ls : Array Slot), zW D [(cR, .int)] (va_A [(a, .inl (cR, 774, .inl (zA r)))] s.heap.size) s [(a, .inl (cR, 774, .inl (zA r1)))] H locs → lv_has ls 4 [(0, .ref a), (1, .int (zI x)), (2, .int (zI i)), (3, .int (zI ((774 : Nat) : Int)))] → W p l e ({ frames := 0, cells := 0, slots := 0, locals := 0 } : Room) s m ([.ref a, .int (zI x)] : List Value).toArray below meth c H locs 0 0 (MQ below (zQv D [(cR, .int)] [(a, .inl (cR, 774, .inl (zA r)))] s.heap.size (fun (u : (Nat → Int)) => ∀ j : Nat, j < 774 → u j = x) (fun (u : (Nat → Int)) => [(a, .inl (cR, 774, .inl (zA u)))])) ([.ref a, .int (zI x)] : List Value).toArray s 0 0 (va_A [(a, .inl (cR, 774, .inl (zA r)))] s.heap.size)) (F0 m 5 ls []) := by
    intro nf_
    induction nf_ with
    | zero => intro r1 i hmeas_; exact absurd hmeas_ (Nat.not_lt_zero _)
    | succ nf_ ih =>
      intro r1 i hmeas_ hi e1 H locs ls w hl
      refine lv_iload_n S.1 S.2.1 dJ7_fill_53178_5 rfl (lv_at hl 2 rfl) ?_
      refine lv_iload_n S.1 S.2.1 dJ7_fill_53178_6 rfl (lv_at hl 3 rfl) ?_
      refine z_icmp_ge (tgt := 20) S dJ7_fill_53178_7 (by decide) (by omega) (by omega) (fun h7 => ?_) (fun h7 => ?_)
      · skip
        exact z_vret S hr hlk w r1 (fun j q => e1 j (by omega)) rfl dJ7_fill_53178_20
      · skip
        refine lv_aload_n S.1 S.2.1 dJ7_fill_53178_10 rfl (lv_at hl 0 rfl) ?_
        refine lv_iload_n S.1 S.2.1 dJ7_fill_53178_11 rfl (lv_at hl 2 rfl) ?_
        refine lv_iload_n S.1 S.2.1 dJ7_fill_53178_12 rfl (lv_at hl 1 rfl) ?_
        refine z_iast S w 0 0 rfl rfl (by omega) (by decide) dJ7_fill_53178_13 (fun H locs w => ?_)
        have w : zW D _ _ s [(a, .inl (cR, 774, .inl (zA (zu r1 i.toNat x))))] H locs := w
        refine lv_iinc (v := zI (i + 1)) (lv' := [(2, .int (zI (i + 1))), (0, .ref a), (1, .int (zI x)), (3, .int (zI ((774 : Nat) : Int)))]) S.1 S.2.1 dJ7_fill_53178_14 hl (k := 2) rfl (zI_add i 1) (by decide) rfl (fun ls hl => ?_)
        refine lv_goto (tgt := 5) S.1 S.2.1 dJ7_fill_53178_17 (by decide) ?_
        have k1_ : ∀ j : Nat, (j : Int) < (i + 1) → (zu r1 i.toNat x) j = x := by
          intro j q
          by_cases q5 : (j : Int) = i
          · have q6 : i.toNat = j := by omega
            rw [q6, zu_s]
          · rw [zu_n _ _ (by omega)]; exact e1 j (by omega)
        exact ih (zu r1 i.toNat x) (i + 1) (by omega) (by omega) k1_ _ _ _ w (lv_sub hl [1, 2, 0, 3] rfl)
  have hl : lv_has ls 4 [(0, .ref a), (1, .int (zI x))] := hl
  refine z_iconst S dJ7_fill_53178_0 ?_
  refine lv_istore_n (lv' := [(2, .int (zI 0)), (0, .ref a), (1, .int (zI x))]) S.1 S.2.1 dJ7_fill_53178_1 rfl hl (by decide) rfl (fun ls hl => ?_)
  refine lv_aload_n S.1 S.2.1 dJ7_fill_53178_2 rfl (lv_at hl 1 rfl) ?_
  refine z_alen (n := 774) S w 0 0 rfl rfl dJ7_fill_53178_3 ?_
  refine lv_istore_n (lv' := [(3, .int (zI ((774 : Nat) : Int))), (2, .int (zI 0)), (0, .ref a), (1, .int (zI x))]) S.1 S.2.1 dJ7_fill_53178_4 rfl hl (by decide) rfl (fun ls hl => ?_)
  exact lab5 _ r 0 (Nat.lt_succ_self _) (by omega) (fun j q => by omega) _ _ _ w (lv_sub hl [2, 3, 1, 0] rfl)

set_option maxRecDepth 20000 in
theorem ln_X1_spreadLimb_19 : Cond.fieldLink RX1 19 "DecimalText$Worth" "row" "[I" ∈ wsX1_spreadLimb := by decide +kernel
theorem in_X1_spreadLimb_X1 : ∀ w ∈ u_ws RX1 TX1 5, w ∈ wsX1_spreadLimb := by decide +kernel
set_option maxRecDepth 20000 in
theorem ln_X1_spreadLimb_22 : Cond.fieldLink RX1 22 "DecimalText$Worth" "count" "I" ∈ wsX1_spreadLimb := by decide +kernel
set_option maxHeartbeats 4000000 in
set_option maxRecDepth 100000 in
theorem c_X1_spreadLimb (l : Launch) (D : va_G) (cL cR : ClassId) (h : Nat) (ha : Nat) (hr1 : Nat) (L : Nat → Int) (lc : Int) (Rw : Nat → Int) (cnt : Int) (dec : Int) (x : Int) (fr : Int) (hx : 0 ≤ x ∧ x < 1000000000) (hfr : 0 ≤ fr ∧ fr ≤ 765) (hz : ∀ j : Nat, fr ≤ (j : Int) → j < 774 → Rw j = 0) : zMv (T := (Nat → Int) × Int) l yX1_spreadLimb wsX1_spreadLimb ({ frames := 0, cells := 0, slots := 0, locals := 0 } : Room) D [(cL, .int), (cR, .int)] [.ref h, .int (zI x), .int (zI fr)] [(h, .inr (1, [.ref ha, .int (zI lc), .ref hr1, .int (zI cnt), .int (zI dec)])), (ha, .inl (cL, 86, .inl (zA L))), (hr1, .inl (cR, 774, .inl (zA Rw)))] (fun (u : (Nat → Int) × Int) => (∀ j : Nat, fr ≤ (j : Int) → j < 774 → u.1 j = (dg x.toNat (j - fr.toNat) : Int)) ∧ (∀ j : Nat, (j : Int) < fr → u.1 j = Rw j) ∧ ((x = 0 ∧ u.2 = cnt) ∨ (0 < x ∧ u.2 = fr + (ln x.toNat : Int)))) (fun (u : (Nat → Int) × Int) => [(h, .inr (1, [.ref ha, .int (zI lc), .ref hr1, .int (zI u.2), .int (zI dec)])), (ha, .inl (cL, 86, .inl (zA L))), (hr1, .inl (cR, 774, .inl (zA u.1)))]) 0 0 := by
  refine zMv.of (bytes := cX1_spreadLimb) (nL := 5) (own := RX1) (by decide) rfl rfl (Nat.le_of_ble_eq_true rfl) ?_
  intro p e s m below meth c ls S hr hlk hnm w hl
  have lab5 : ∀ (nf_ : Nat) (R1 : Nat → Int) (cn : Int) (re : Int) (i : Int), (fr + 9 - i).toNat < nf_ → (fr ≤ i ∧ i ≤ fr + 9) → (re = ((x.toNat / 10 ^ (i - fr).toNat : Nat) : Int)) → (∀ j : Nat, fr ≤ (j : Int) → (j : Int) < i → R1 j = (dg x.toNat (j - fr.toNat) : Int)) → (∀ j : Nat, (j : Int) < fr → R1 j = Rw j) → (∀ j : Nat, i ≤ (j : Int) → j < 774 → R1 j = 0) → ((i = fr ∧ cn = cnt) ∨ (fr < i ∧ cn = i ∧ 10 ^ (i - fr - 1).toNat ≤ x.toNat)) → ∀ (H : Heap) (locs : List Loc) (ls : Array Slot), zW D [(cL, .int), (cR, .int)] (va_A [(h, .inr (1, [.ref ha, .int (zI lc), .ref hr1, .int (zI cnt), .int (zI dec)])), (ha, .inl (cL, 86, .inl (zA L))), (hr1, .inl (cR, 774, .inl (zA Rw)))] s.heap.size) s [(h, .inr (1, [.ref ha, .int (zI lc), .ref hr1, .int (zI cn), .int (zI dec)])), (ha, .inl (cL, 86, .inl (zA L))), (hr1, .inl (cR, 774, .inl (zA R1)))] H locs → lv_has ls 5 [(0, .ref h), (3, .int (zI re)), (4, .int (zI i))] → W p l e ({ frames := 0, cells := 0, slots := 0, locals := 0 } : Room) s m ([.ref h, .int (zI x), .int (zI fr)] : List Value).toArray below meth c H locs 0 0 (MQ below (zQv D [(cL, .int), (cR, .int)] [(h, .inr (1, [.ref ha, .int (zI lc), .ref hr1, .int (zI cnt), .int (zI dec)])), (ha, .inl (cL, 86, .inl (zA L))), (hr1, .inl (cR, 774, .inl (zA Rw)))] s.heap.size (fun (u : (Nat → Int) × Int) => (∀ j : Nat, fr ≤ (j : Int) → j < 774 → u.1 j = (dg x.toNat (j - fr.toNat) : Int)) ∧ (∀ j : Nat, (j : Int) < fr → u.1 j = Rw j) ∧ ((x = 0 ∧ u.2 = cnt) ∨ (0 < x ∧ u.2 = fr + (ln x.toNat : Int)))) (fun (u : (Nat → Int) × Int) => [(h, .inr (1, [.ref ha, .int (zI lc), .ref hr1, .int (zI u.2), .int (zI dec)])), (ha, .inl (cL, 86, .inl (zA L))), (hr1, .inl (cR, 774, .inl (zA u.1)))])) ([.ref h, .int (zI x), .int (zI fr)] : List Value).toArray s 0 0 (va_A [(h, .inr (1, [.ref ha, .int (zI lc), .ref hr1, .int (zI cnt), .int (zI dec)])), (ha, .inl (cL, 86, .inl (zA L))), (hr1, .inl (cR, 774, .inl (zA Rw)))] s.heap.size)) (F0 m 5 ls []) := by
    intro nf_
    induction nf_ with
    | zero => intro R1 cn re i hmeas_; exact absurd hmeas_ (Nat.not_lt_zero _)
    | succ nf_ ih =>
      intro R1 cn re i hmeas_ hi hre e1 e2 e3 ec H locs ls w hl
      have hrb : 0 ≤ re ∧ re < 1000000000 := by
        have h1 := Nat.div_le_self x.toNat (10 ^ (i - fr).toNat)
        generalize x.toNat / 10 ^ (i - fr).toNat = q at h1 hre
        omega
      refine lv_iload_n S.1 S.2.1 dX1_spreadLimb_5 rfl (lv_at hl 1 rfl) ?_
      refine z_if_le (tgt := 54) S dX1_spreadLimb_6 (by decide) (by omega) (fun h6 => ?_) (fun h6 => ?_)
      · skip
        have k1_ : (∀ j : Nat, fr ≤ (j : Int) → j < 774 → R1 j = (dg x.toNat (j - fr.toNat) : Int)) ∧ (∀ j : Nat, (j : Int) < fr → R1 j = Rw j) ∧ ((x = 0 ∧ cn = cnt) ∨ (0 < x ∧ cn = fr + (ln x.toNat : Int))) := by
          have k0 : x.toNat < 10 ^ (i - fr).toNat := by
            apply Nat.lt_of_not_le
            intro k
            have h1 := (Nat.le_div_iff_mul_le (p10_pos (i - fr).toNat)).mpr (by omega : 1 * 10 ^ (i - fr).toNat ≤ x.toNat)
            generalize x.toNat / 10 ^ (i - fr).toNat = q at h1 hre
            omega
          refine ⟨?_, e2, ?_⟩
          · intro j q1 q2
            by_cases q3 : (j : Int) < i
            · exact e1 j q1 q3
            · rw [e3 j (by omega) q2, dg_big (Nat.lt_of_lt_of_le k0 (Nat.pow_le_pow_right (by decide) (by omega)))]; rfl
          · rcases ec with ⟨c1, c2⟩ | ⟨c1, c2, c3⟩
            · have k1 : (i - fr).toNat = 0 := by omega
              rw [k1] at k0
              exact Or.inl ⟨by omega, c2⟩
            · have k1 : (i - fr).toNat = (i - fr - 1).toNat + 1 := by omega
              rw [k1] at k0
              have k2 := ln_eq c3 k0
              have k3 := p10_pos (i - fr - 1).toNat
              exact Or.inr ⟨by omega, by rw [k2]; omega⟩
        exact z_vret S hr hlk w (R1, cn) k1_ rfl dX1_spreadLimb_54
      · skip
        have hlt : 10 ^ (i - fr).toNat ≤ x.toNat := by
          apply Nat.le_of_not_lt
          intro k
          rw [Nat.div_eq_of_lt k] at hre
          omega
        have hi9 : i < fr + 9 := by
          apply Int.not_le.mp
          intro k
          have k2 : (i - fr).toNat = 9 := by omega
          rw [k2] at hlt
          omega
        refine lv_iload S.1 S.2.1 dX1_spreadLimb_9 (lv_at hl 2 rfl) ?_
        refine z_if_lt (tgt := 54) S dX1_spreadLimb_11 (by decide) (by omega) (fun h11 => ?_) (fun h11 => ?_)
        · skip
          exfalso; omega
        · skip
          refine lv_iload S.1 S.2.1 dX1_spreadLimb_14 (lv_at hl 2 rfl) ?_
          refine lv_aload_n S.1 S.2.1 dX1_spreadLimb_16 rfl (lv_at hl 0 rfl) ?_
          refine z_get (ci := 1) (C := RX1) (T := TX1) (N := 5) S w 0 rfl rfl in_X1_spreadLimb_X1 2 (by decide) ln_X1_spreadLimb_19 rfl rfl dX1_spreadLimb_17 ?_
          refine z_alen (n := 774) S w 2 1 rfl rfl dX1_spreadLimb_20 ?_
          refine z_icmp_ge (tgt := 54) S dX1_spreadLimb_21 (by decide) (by omega) (by omega) (fun h21 => ?_) (fun h21 => ?_)
          · skip
            exfalso; omega
          · skip
            refine lv_aload_n S.1 S.2.1 dX1_spreadLimb_24 rfl (lv_at hl 0 rfl) ?_
            refine z_get (ci := 1) (C := RX1) (T := TX1) (N := 5) S w 0 rfl rfl in_X1_spreadLimb_X1 2 (by decide) ln_X1_spreadLimb_19 rfl rfl dX1_spreadLimb_25 ?_
            refine lv_iload S.1 S.2.1 dX1_spreadLimb_28 (lv_at hl 2 rfl) ?_
            refine lv_iload_n S.1 S.2.1 dX1_spreadLimb_30 rfl (lv_at hl 1 rfl) ?_
            refine z_bipush S dX1_spreadLimb_31 (by decide +kernel) ?_
            refine z_irem S dX1_spreadLimb_33 (by omega) (by omega) ?_
            refine z_iast S w 2 1 rfl rfl (by omega) (by decide) dX1_spreadLimb_34 (fun H locs w => ?_)
            have w : zW D _ _ s [(h, .inr (1, [.ref ha, .int (zI lc), .ref hr1, .int (zI cn), .int (zI dec)])), (ha, .inl (cL, 86, .inl (zA L))), (hr1, .inl (cR, 774, .inl (zA (zu R1 i.toNat (re % 10)))))] H locs := w
            refine lv_iload_n S.1 S.2.1 dX1_spreadLimb_35 rfl (lv_at hl 1 rfl) ?_
            refine z_bipush S dX1_spreadLimb_36 (by decide +kernel) ?_
            refine z_idiv S dX1_spreadLimb_38 (by omega) (by omega) ?_
            refine lv_istore_n (lv' := [(3, .int (zI (re / 10))), (0, .ref h), (4, .int (zI i))]) S.1 S.2.1 dX1_spreadLimb_39 rfl hl (by decide) rfl (fun ls hl => ?_)
            refine lv_aload_n S.1 S.2.1 dX1_spreadLimb_40 rfl (lv_at hl 1 rfl) ?_
            refine lv_iload S.1 S.2.1 dX1_spreadLimb_41 (lv_at hl 2 rfl) ?_
            refine z_iconst S dX1_spreadLimb_43 ?_
            refine z_iadd S dX1_spreadLimb_44 ?_
            refine z_put (ci := 1) (C := RX1) (T := TX1) (N := 5) S w 0 rfl rfl in_X1_spreadLimb_X1 tyX1_ok nmX1 3 (by decide) ln_X1_spreadLimb_22 rfl rfl rfl rfl (Nat.le_of_ble_eq_true rfl) dX1_spreadLimb_45 (fun H locs w => ?_)
            have w : zW D _ _ s [(h, .inr (1, [.ref ha, .int (zI lc), .ref hr1, .int (zI (i + 1)), .int (zI dec)])), (ha, .inl (cL, 86, .inl (zA L))), (hr1, .inl (cR, 774, .inl (zA (zu R1 i.toNat (re % 10)))))] H locs := w
            refine lv_iinc (v := zI (i + 1)) (lv' := [(4, .int (zI (i + 1))), (3, .int (zI (re / 10))), (0, .ref h)]) S.1 S.2.1 dX1_spreadLimb_48 hl (k := 2) rfl (zI_add i 1) (by decide) rfl (fun ls hl => ?_)
            refine lv_goto (tgt := 5) S.1 S.2.1 dX1_spreadLimb_51 (by decide) ?_
            have k2_ : (re / 10) = ((x.toNat / 10 ^ ((i + 1) - fr).toNat : Nat) : Int) := by
              have k1 : (i + 1 - fr).toNat = (i - fr).toNat + 1 := by omega
              rw [k1, Nat.pow_succ, ← Nat.div_div_eq_div_mul, hre]
              generalize x.toNat / 10 ^ (i - fr).toNat = q
              omega
            have k3_ : ∀ j : Nat, fr ≤ (j : Int) → (j : Int) < (i + 1) → (zu R1 i.toNat (re % 10)) j = (dg x.toNat (j - fr.toNat) : Int) := by
              intro j q1 q2
              by_cases q5 : (j : Int) = i
              · have q6 : i.toNat = j := by omega
                have q7 : j - fr.toNat = (i - fr).toNat := by omega
                rw [q6, zu_s, q7, hre]; unfold dg
                generalize x.toNat / 10 ^ (i - fr).toNat = q
                omega
              · rw [zu_n _ _ (by omega)]; exact e1 j q1 (by omega)
            have k4_ : ((i + 1) = fr ∧ (i + 1) = cnt) ∨ (fr < (i + 1) ∧ (i + 1) = (i + 1) ∧ 10 ^ ((i + 1) - fr - 1).toNat ≤ x.toNat) := by
              have k1 : (i + 1 - fr - 1).toNat = (i - fr).toNat := by omega
              rw [k1]
              exact Or.inr ⟨by omega, rfl, hlt⟩
            exact ih (zu R1 i.toNat (re % 10)) (i + 1) (re / 10) (i + 1) (by omega) (by omega) k2_ k3_ (fun j q => by rw [zu_n _ _ (by omega)]; exact e2 j q) (fun j q1 q2 => by rw [zu_n _ _ (by omega)]; exact e3 j (by omega) q2) k4_ _ _ _ w (lv_sub hl [2, 1, 0] rfl)
  have hl : lv_has ls 5 [(0, .ref h), (1, .int (zI x)), (2, .int (zI fr))] := hl
  refine lv_iload_n S.1 S.2.1 dX1_spreadLimb_0 rfl (lv_at hl 1 rfl) ?_
  refine lv_istore_n (lv' := [(3, .int (zI x)), (0, .ref h), (1, .int (zI x)), (2, .int (zI fr))]) S.1 S.2.1 dX1_spreadLimb_1 rfl hl (by decide) rfl (fun ls hl => ?_)
  refine lv_iload_n S.1 S.2.1 dX1_spreadLimb_2 rfl (lv_at hl 3 rfl) ?_
  refine lv_istore (lv' := [(4, .int (zI fr)), (3, .int (zI x)), (0, .ref h), (1, .int (zI x)), (2, .int (zI fr))]) S.1 S.2.1 dX1_spreadLimb_3 hl (by decide) rfl (fun ls hl => ?_)
  have k5_ : x = ((x.toNat / 10 ^ (fr - fr).toNat : Nat) : Int) := by
    have k : (fr - fr).toNat = 0 := by omega
    rw [k, Nat.pow_zero, Nat.div_one]; omega
  exact lab5 _ Rw cnt x fr (Nat.lt_succ_self _) (by omega) k5_ (fun j q1 q2 => by omega) (fun j q => rfl) hz (by omega) _ _ _ w (lv_sub hl [2, 1, 0] rfl)

set_option maxRecDepth 20000 in
theorem ln_X1_spreadLimbs_15 : Cond.fieldLink RX1 15 "DecimalText$Worth" "limbCount" "I" ∈ wsX1_spreadLimbs := by decide +kernel
theorem in_X1_spreadLimbs_X1 : ∀ w ∈ u_ws RX1 TX1 5, w ∈ wsX1_spreadLimbs := by decide +kernel
set_option maxRecDepth 20000 in
theorem ln_X1_spreadLimbs_11 : Cond.fieldLink RX1 11 "DecimalText$Worth" "limbs" "[I" ∈ wsX1_spreadLimbs := by decide +kernel
set_option maxRecDepth 20000 in
theorem ln_X1_spreadLimbs_19 : Cond.fieldLink RX1 19 "DecimalText$Worth" "row" "[I" ∈ wsX1_spreadLimbs := by decide +kernel
set_option maxRecDepth 20000 in
theorem ln_X1_spreadLimbs_22 : Cond.fieldLink RX1 22 "DecimalText$Worth" "count" "I" ∈ wsX1_spreadLimbs := by decide +kernel
set_option maxHeartbeats 4000000 in
set_option maxRecDepth 100000 in
theorem c_X1_spreadLimbs (l : Launch) (D : va_G) (cL cR : ClassId) (h : Nat) (ha : Nat) (hr1 : Nat) (L : Nat → Int) (lc : Int) (Rw : Nat → Int) (cnt : Int) (dec : Int) (hlc : 0 ≤ lc ∧ lc ≤ 86) (hL : ∀ j : Nat, (j : Int) < lc → 0 ≤ L j ∧ L j < 1000000000) : zMv (T := (Nat → Int) × Int) l yX1_spreadLimbs wsX1_spreadLimbs ({ frames := 1, cells := 0, slots := 0, locals := 24 } : Room) D [(cL, .int), (cR, .int)] [.ref h] [(h, .inr (1, [.ref ha, .int (zI lc), .ref hr1, .int (zI cnt), .int (zI dec)])), (ha, .inl (cL, 86, .inl (zA L))), (hr1, .inl (cR, 774, .inl (zA Rw)))] (fun (u : (Nat → Int) × Int) => (∀ j : Nat, j < 774 → u.1 j = (dg (vL L lc.toNat).toNat j : Int)) ∧ u.2 = (ln (vL L lc.toNat).toNat : Int)) (fun (u : (Nat → Int) × Int) => [(h, .inr (1, [.ref ha, .int (zI lc), .ref hr1, .int (zI u.2), .int (zI dec)])), (ha, .inl (cL, 86, .inl (zA L))), (hr1, .inl (cR, 774, .inl (zA u.1)))]) 0 0 := by
  refine zMv.of (bytes := cX1_spreadLimbs) (nL := 2) (own := RX1) (by decide) rfl rfl (Nat.le_of_ble_eq_true rfl) ?_
  intro p e s m below meth c ls S hr hlk hnm w hl
  have lab15 : ∀ (nf_ : Nat) (R1 : Nat → Int) (cn : Int) (i : Int), (lc - i).toNat < nf_ → (0 ≤ i ∧ i ≤ lc) → (∀ j : Nat, j < 774 → R1 j = (dg (vL L i.toNat).toNat j : Int)) → (cn = (ln (vL L i.toNat).toNat : Int)) → ∀ (H : Heap) (locs : List Loc) (ls : Array Slot), zW D [(cL, .int), (cR, .int)] (va_A [(h, .inr (1, [.ref ha, .int (zI lc), .ref hr1, .int (zI cnt), .int (zI dec)])), (ha, .inl (cL, 86, .inl (zA L))), (hr1, .inl (cR, 774, .inl (zA Rw)))] s.heap.size) s [(h, .inr (1, [.ref ha, .int (zI lc), .ref hr1, .int (zI cn), .int (zI dec)])), (ha, .inl (cL, 86, .inl (zA L))), (hr1, .inl (cR, 774, .inl (zA R1)))] H locs → lv_has ls 2 [(0, .ref h), (1, .int (zI i))] → W p l e ({ frames := 1, cells := 0, slots := 0, locals := 24 } : Room) s m ([.ref h] : List Value).toArray below meth c H locs 0 0 (MQ below (zQv D [(cL, .int), (cR, .int)] [(h, .inr (1, [.ref ha, .int (zI lc), .ref hr1, .int (zI cnt), .int (zI dec)])), (ha, .inl (cL, 86, .inl (zA L))), (hr1, .inl (cR, 774, .inl (zA Rw)))] s.heap.size (fun (u : (Nat → Int) × Int) => (∀ j : Nat, j < 774 → u.1 j = (dg (vL L lc.toNat).toNat j : Int)) ∧ u.2 = (ln (vL L lc.toNat).toNat : Int)) (fun (u : (Nat → Int) × Int) => [(h, .inr (1, [.ref ha, .int (zI lc), .ref hr1, .int (zI u.2), .int (zI dec)])), (ha, .inl (cL, 86, .inl (zA L))), (hr1, .inl (cR, 774, .inl (zA u.1)))])) ([.ref h] : List Value).toArray s 0 0 (va_A [(h, .inr (1, [.ref ha, .int (zI lc), .ref hr1, .int (zI cnt), .int (zI dec)])), (ha, .inl (cL, 86, .inl (zA L))), (hr1, .inl (cR, 774, .inl (zA Rw)))] s.heap.size)) (F0 m 15 ls []) := by
    intro nf_
    induction nf_ with
    | zero => intro R1 cn i hmeas_; exact absurd hmeas_ (Nat.not_lt_zero _)
    | succ nf_ ih =>
      intro R1 cn i hmeas_ hi e1 ec H locs ls w hl
      refine lv_iload_n S.1 S.2.1 dX1_spreadLimbs_15 rfl (lv_at hl 1 rfl) ?_
      refine lv_aload_n S.1 S.2.1 dX1_spreadLimbs_16 rfl (lv_at hl 0 rfl) ?_
      refine z_get (ci := 1) (C := RX1) (T := TX1) (N := 5) S w 0 rfl rfl in_X1_spreadLimbs_X1 1 (by decide) ln_X1_spreadLimbs_15 rfl rfl dX1_spreadLimbs_17 ?_
      refine z_icmp_ge (tgt := 52) S dX1_spreadLimbs_20 (by decide) (by omega) (by omega) (fun h20 => ?_) (fun h20 => ?_)
      · skip
        have k1_ : (∀ j : Nat, j < 774 → R1 j = (dg (vL L lc.toNat).toNat j : Int)) ∧ cn = (ln (vL L lc.toNat).toNat : Int) := by
          have k1 : i = lc := by omega
          rw [k1] at e1 ec
          exact ⟨e1, ec⟩
        exact z_vret S hr hlk w (R1, cn) k1_ rfl dX1_spreadLimbs_52
      · skip
        refine lv_iload_n S.1 S.2.1 dX1_spreadLimbs_23 rfl (lv_at hl 1 rfl) ?_
        refine lv_aload_n S.1 S.2.1 dX1_spreadLimbs_24 rfl (lv_at hl 0 rfl) ?_
        refine z_get (ci := 1) (C := RX1) (T := TX1) (N := 5) S w 0 rfl rfl in_X1_spreadLimbs_X1 0 (by decide) ln_X1_spreadLimbs_11 rfl rfl dX1_spreadLimbs_25 ?_
        refine z_alen (n := 86) S w 1 0 rfl rfl dX1_spreadLimbs_28 ?_
        refine z_icmp_ge (tgt := 52) S dX1_spreadLimbs_29 (by decide) (by omega) (by omega) (fun h29 => ?_) (fun h29 => ?_)
        · skip
          exfalso; omega
        · skip
          have v0 := vL_nonneg (L := L) (n := i.toNat) (fun j q => (hL j (by omega)).1)
          have v1 := vL_lt (L := L) (n := i.toNat) (fun j q => hL j (by omega))
          have v2 : (vL L i.toNat).toNat < 10 ^ (i * 9).toNat := b9_nat v0 v1 (by omega)
          have xr := hL i.toNat (by omega)
          refine lv_aload_n S.1 S.2.1 dX1_spreadLimbs_32 rfl (lv_at hl 0 rfl) ?_
          refine lv_aload_n S.1 S.2.1 dX1_spreadLimbs_33 rfl (lv_at hl 0 rfl) ?_
          refine z_get (ci := 1) (C := RX1) (T := TX1) (N := 5) S w 0 rfl rfl in_X1_spreadLimbs_X1 0 (by decide) ln_X1_spreadLimbs_11 rfl rfl dX1_spreadLimbs_34 ?_
          refine lv_iload_n S.1 S.2.1 dX1_spreadLimbs_37 rfl (lv_at hl 1 rfl) ?_
          refine z_iald S w 1 0 rfl rfl (by omega) (by decide) dX1_spreadLimbs_38 ?_
          refine lv_iload_n S.1 S.2.1 dX1_spreadLimbs_39 rfl (lv_at hl 1 rfl) ?_
          refine z_bipush S dX1_spreadLimbs_40 (by decide +kernel) ?_
          refine z_imul S dX1_spreadLimbs_42 ?_
          refine z_callvV (C := RX1) (n := 2) (As := [.int (zI (L i.toNat)), .int (zI (i * 9))]) (rest := []) (wr := []) (wn := (fun (u : (Nat → Int) × Int) => [(h, .inr (1, [.ref ha, .int (zI lc), .ref hr1, .int (zI u.2), .int (zI dec)])), (ha, .inl (cL, 86, .inl (zA L))), (hr1, .inl (cR, 774, .inl (zA u.1)))])) S w (c_X1_spreadLimb l D cL cR h ha hr1 L lc R1 cn dec (L i.toNat) (i * 9) (by omega) (by omega) (fun j q1 q2 => by rw [e1 j q2, dg_big (Nat.lt_of_lt_of_le v2 (Nat.pow_le_pow_right (by decide) (by omega)))]; rfl)) gX1_spreadLimbs_X1_spreadLimb (by decide +kernel) rfl ⟨rfl, rfl⟩ ⟨Nat.le_of_ble_eq_true rfl, Nat.le_of_ble_eq_true rfl⟩ [0, 1] [0, 1, 2] [] [0, 1, 2] rfl rfl rfl rfl rfl (by decide) (fun u => rfl) rfl rfl rfl rfl rfl hl.1 (Nat.le_of_ble_eq_true rfl) ⟨Nat.le_of_ble_eq_true rfl, Nat.le_of_ble_eq_true rfl⟩ rfl dX1_spreadLimbs_43 (fun u H locs p43 w => ?_)
          obtain ⟨R2, cn2⟩ := u
          have p43 : (∀ j : Nat, (i * 9) ≤ (j : Int) → j < 774 → R2 j = (dg (L i.toNat).toNat (j - (i * 9).toNat) : Int)) ∧ (∀ j : Nat, (j : Int) < (i * 9) → R2 j = R1 j) ∧ (((L i.toNat) = 0 ∧ cn2 = cn) ∨ (0 < (L i.toNat) ∧ cn2 = (i * 9) + (ln (L i.toNat).toNat : Int))) := p43
          have w : zW D _ _ s [(h, .inr (1, [.ref ha, .int (zI lc), .ref hr1, .int (zI cn2), .int (zI dec)])), (ha, .inl (cL, 86, .inl (zA L))), (hr1, .inl (cR, 774, .inl (zA R2)))] H locs := w
          obtain ⟨a1, a2, a3⟩ := p43
          have k1 : (i + 1).toNat = i.toNat + 1 := by omega
          have vs : (vL L (i + 1).toNat).toNat = (vL L i.toNat).toNat + (L i.toNat).toNat * 10 ^ (i * 9).toNat := by
            rw [k1, vL]; exact b9_step v0 xr.1 (by omega)
          refine lv_iinc (v := zI (i + 1)) (lv' := [(1, .int (zI (i + 1))), (0, .ref h)]) S.1 S.2.1 dX1_spreadLimbs_46 hl (k := 1) rfl (zI_add i 1) (by decide) rfl (fun ls hl => ?_)
          refine lv_goto (tgt := 15) S.1 S.2.1 dX1_spreadLimbs_49 (by decide) ?_
          have k2_ : ∀ j : Nat, j < 774 → R2 j = (dg (vL L (i + 1).toNat).toNat j : Int) := by
            intro j q
            rw [vs]
            by_cases q2 : (j : Int) < i * 9
            · rw [a2 j q2, e1 j q, dg_low _ (by omega)]
            · have k2 : j = (i * 9).toNat + (j - (i * 9).toNat) := by omega
              rw [a1 j (by omega) q, k2, dg_high v2, ← k2]
          have k3_ : cn2 = (ln (vL L (i + 1).toNat).toNat : Int) := by
            rw [vs]
            rcases a3 with ⟨c1, c2⟩ | ⟨c1, c2⟩
            · rw [c1, c2, ec]; show _ = ((ln (_ + 0 * _) : Nat) : Int); rw [Nat.zero_mul, Nat.add_zero]
            · rw [ln_high v2 (by omega), c2]; omega
          exact ih R2 cn2 (i + 1) (by omega) (by omega) k2_ k3_ _ _ _ w (lv_sub hl [1, 0] rfl)
  have hl : lv_has ls 2 [(0, .ref h)] := hl
  refine lv_aload_n S.1 S.2.1 dX1_spreadLimbs_0 rfl (lv_at hl 0 rfl) ?_
  refine z_get (ci := 1) (C := RX1) (T := TX1) (N := 5) S w 0 rfl rfl in_X1_spreadLimbs_X1 2 (by decide) ln_X1_spreadLimbs_19 rfl rfl dX1_spreadLimbs_1 ?_
  refine z_iconst S dX1_spreadLimbs_4 ?_
  refine z_callvS (n := 2) (As := [.ref hr1, .int (zI 0)]) (rest := []) (wr := [(h, .inr (1, [.ref ha, .int (zI lc), .ref hr1, .int (zI cnt), .int (zI dec)])), (ha, .inl (cL, 86, .inl (zA L)))]) (wn := (fun (u : (Nat → Int)) => [(h, .inr (1, [.ref ha, .int (zI lc), .ref hr1, .int (zI cnt), .int (zI dec)])), (ha, .inl (cL, 86, .inl (zA L))), (hr1, .inl (cR, 774, .inl (zA u)))])) S w (c_J7_fill_53178 l D cR hr1 Rw 0) gX1_spreadLimbs_J7_fill_53178 (by decide +kernel) rfl ⟨rfl, rfl⟩ ⟨Nat.le_of_ble_eq_true rfl, Nat.le_of_ble_eq_true rfl⟩ [1] [2] [0, 1] [0, 1, 2] rfl rfl rfl rfl rfl (by decide) (fun u => rfl) rfl rfl hl.1 (Nat.le_of_ble_eq_true rfl) ⟨Nat.le_of_ble_eq_true rfl, Nat.le_of_ble_eq_true rfl⟩ rfl dX1_spreadLimbs_5 (fun R0 H locs p5 w => ?_)
  have p5 : ∀ j : Nat, j < 774 → R0 j = (0 : Int) := p5
  have w : zW D _ _ s [(h, .inr (1, [.ref ha, .int (zI lc), .ref hr1, .int (zI cnt), .int (zI dec)])), (ha, .inl (cL, 86, .inl (zA L))), (hr1, .inl (cR, 774, .inl (zA R0)))] H locs := w
  refine lv_aload_n S.1 S.2.1 dX1_spreadLimbs_8 rfl (lv_at hl 0 rfl) ?_
  refine z_iconst S dX1_spreadLimbs_9 ?_
  refine z_put (ci := 1) (C := RX1) (T := TX1) (N := 5) S w 0 rfl rfl in_X1_spreadLimbs_X1 tyX1_ok nmX1 3 (by decide) ln_X1_spreadLimbs_22 rfl rfl rfl rfl (Nat.le_of_ble_eq_true rfl) dX1_spreadLimbs_10 (fun H locs w => ?_)
  have w : zW D _ _ s [(h, .inr (1, [.ref ha, .int (zI lc), .ref hr1, .int (zI 0), .int (zI dec)])), (ha, .inl (cL, 86, .inl (zA L))), (hr1, .inl (cR, 774, .inl (zA R0)))] H locs := w
  refine z_iconst S dX1_spreadLimbs_13 ?_
  refine lv_istore_n (lv' := [(1, .int (zI 0)), (0, .ref h)]) S.1 S.2.1 dX1_spreadLimbs_14 rfl hl (by decide) rfl (fun ls hl => ?_)
  exact lab15 _ R0 0 0 (Nat.lt_succ_self _) (by omega) (fun j q => by rw [p5 j q]; show (0 : Int) = ((dg 0 j : Nat) : Int); rw [dg_big (p10_pos j)]; rfl) (by show (0 : Int) = ((ln 0 : Nat) : Int); rw [ln_0]; rfl) _ _ _ w (lv_sub hl [1, 0] rfl)
