set_option maxRecDepth 20000 in
theorem ln_X3_put_13 : Cond.fieldLink RX3 13 "DecimalTextModel" "text" "[I" ∈ wsX3_put := by decide +kernel
theorem in_X3_put_X3 : ∀ w ∈ u_ws RX3 TX3 5, w ∈ wsX3_put := by decide +kernel
set_option maxRecDepth 20000 in
theorem ln_X3_put_43 : Cond.fieldLink RX3 43 "DecimalTextModel" "length" "I" ∈ wsX3_put := by decide +kernel
set_option maxHeartbeats 4000000 in
set_option maxRecDepth 100000 in
theorem c_X3_put (l : Launch) (D : va_G) (cB cT : ClassId) (h : Nat) (hb : Nat) (ht : Nat) (r : Nat → Int) (n : Int) (P : Int) (tx : Nat → Int) (len : Int) (x : Int) (hlen : 0 ≤ len ∧ len < 420) : zMv (T := (Nat → Int) × Int) l yX3_put wsX3_put ({ frames := 0, cells := 0, slots := 0, locals := 0 } : Room) D [(cB, .byte), (cT, .int)] [.ref h, .int (zI x)] [(h, .inr (3, [.ref hb, .int (zI n), .int (zI P), .ref ht, .int (zI len)])), (hb, .inl (cB, 1200, .inl (zA r))), (ht, .inl (cT, 420, .inl (zA tx)))] (fun (u : (Nat → Int) × Int) => u.1 = zu tx len.toNat x ∧ u.2 = len + 1) (fun (u : (Nat → Int) × Int) => [(h, .inr (3, [.ref hb, .int (zI n), .int (zI P), .ref ht, .int (zI u.2)])), (hb, .inl (cB, 1200, .inl (zA r))), (ht, .inl (cT, 420, .inl (zA u.1)))]) 0 0 := by
  refine zMv.of (bytes := cX3_put) (nL := 2) (own := RX3) (by decide) rfl rfl (Nat.le_of_ble_eq_true rfl) ?_
  intro p e s m below meth c ls S hr hlk hnm w hl
  have hl : lv_has ls 2 [(0, .ref h), (1, .int (zI x))] := hl
  refine lv_aload_n S.1 S.2.1 dX3_put_0 rfl (lv_at hl 0 rfl) ?_
  refine z_get (ci := 3) (C := RX3) (T := TX3) (N := 5) S w 0 rfl rfl in_X3_put_X3 3 (by decide) ln_X3_put_13 rfl rfl dX3_put_1 ?_
  refine lv_aload_n S.1 S.2.1 dX3_put_4 rfl (lv_at hl 0 rfl) ?_
  refine z_get (ci := 3) (C := RX3) (T := TX3) (N := 5) S w 0 rfl rfl in_X3_put_X3 4 (by decide) ln_X3_put_43 rfl rfl dX3_put_5 ?_
  refine lv_iload_n S.1 S.2.1 dX3_put_8 rfl (lv_at hl 1 rfl) ?_
  refine z_iast S w 2 1 rfl rfl (by omega) (by decide) dX3_put_9 (fun H locs w => ?_)
  have w : zW D _ _ s [(h, .inr (3, [.ref hb, .int (zI n), .int (zI P), .ref ht, .int (zI len)])), (hb, .inl (cB, 1200, .inl (zA r))), (ht, .inl (cT, 420, .inl (zA (zu tx len.toNat x))))] H locs := w
  refine lv_aload_n S.1 S.2.1 dX3_put_10 rfl (lv_at hl 0 rfl) ?_
  refine lv_aload_n S.1 S.2.1 dX3_put_11 rfl (lv_at hl 0 rfl) ?_
  refine z_get (ci := 3) (C := RX3) (T := TX3) (N := 5) S w 0 rfl rfl in_X3_put_X3 4 (by decide) ln_X3_put_43 rfl rfl dX3_put_12 ?_
  refine z_iconst S dX3_put_15 ?_
  refine z_iadd S dX3_put_16 ?_
  refine z_put (ci := 3) (C := RX3) (T := TX3) (N := 5) S w 0 rfl rfl in_X3_put_X3 tyX3_ok nmX3 4 (by decide) ln_X3_put_43 rfl rfl rfl rfl (Nat.le_of_ble_eq_true rfl) dX3_put_17 (fun H locs w => ?_)
  have w : zW D _ _ s [(h, .inr (3, [.ref hb, .int (zI n), .int (zI P), .ref ht, .int (zI (len + 1))])), (hb, .inl (cB, 1200, .inl (zA r))), (ht, .inl (cT, 420, .inl (zA (zu tx len.toNat x))))] H locs := w
  exact z_vret S hr hlk w (zu tx len.toNat x, len + 1) ⟨rfl, rfl⟩ rfl dX3_put_20

set_option maxRecDepth 20000 in
theorem ln_X3_digit_23 : Cond.fieldLink RX3 23 "DecimalTextModel" "digits" "I" ∈ wsX3_digit := by decide +kernel
theorem in_X3_digit_X3 : ∀ w ∈ u_ws RX3 TX3 5, w ∈ wsX3_digit := by decide +kernel
set_option maxRecDepth 20000 in
theorem ln_X3_digit_7 : Cond.fieldLink RX3 7 "DecimalTextModel" "row" "[B" ∈ wsX3_digit := by decide +kernel
set_option maxHeartbeats 4000000 in
set_option maxRecDepth 100000 in
theorem c_X3_digit (l : Launch) (D : va_G) (cB cT : ClassId) (h : Nat) (hb : Nat) (ht : Nat) (r : Nat → Int) (n : Int) (P : Int) (tx : Nat → Int) (len : Int) (k : Int) (hn : 0 ≤ n ∧ n ≤ 1200) (hk : -2147483648 ≤ k ∧ k ≤ 2147483647) : zMi (T := Unit) l yX3_digit wsX3_digit ({ frames := 0, cells := 0, slots := 0, locals := 0 } : Room) D [(cB, .byte), (cT, .int)] [.ref h, .int (zI k)] [(h, .inr (3, [.ref hb, .int (zI n), .int (zI P), .ref ht, .int (zI len)])), (hb, .inl (cB, 1200, .inl (zA r))), (ht, .inl (cT, 420, .inl (zA tx)))] (fun (z : Int) (u : Unit) => z = mD r n k) (fun (u : Unit) => [(h, .inr (3, [.ref hb, .int (zI n), .int (zI P), .ref ht, .int (zI len)])), (hb, .inl (cB, 1200, .inl (zA r))), (ht, .inl (cT, 420, .inl (zA tx)))]) 0 0 := by
  refine zMi.of (bytes := cX3_digit) (nL := 2) (own := RX3) (by decide) rfl rfl (Nat.le_of_ble_eq_true rfl) ?_
  intro p e s m below meth c ls S hr hlk hnm w hl
  have hl : lv_has ls 2 [(0, .ref h), (1, .int (zI k))] := hl
  refine lv_iload_n S.1 S.2.1 dX3_digit_0 rfl (lv_at hl 1 rfl) ?_
  refine z_if_lt (tgt := 21) S dX3_digit_1 (by decide) (by omega) (fun h1 => ?_) (fun h1 => ?_)
  · skip
    refine z_iconst S dX3_digit_21 ?_
    have k1_ : (0 : Int) = mD r n k := by
      unfold mD; rw [if_neg (by omega)]
    exact z_iret S hr hlk w (zNar_int _) () k1_ rfl dX3_digit_22
  · skip
    refine lv_iload_n S.1 S.2.1 dX3_digit_4 rfl (lv_at hl 1 rfl) ?_
    refine lv_aload_n S.1 S.2.1 dX3_digit_5 rfl (lv_at hl 0 rfl) ?_
    refine z_get (ci := 3) (C := RX3) (T := TX3) (N := 5) S w 0 rfl rfl in_X3_digit_X3 1 (by decide) ln_X3_digit_23 rfl rfl dX3_digit_6 ?_
    refine z_icmp_ge (tgt := 21) S dX3_digit_9 (by decide) (by omega) (by omega) (fun h9 => ?_) (fun h9 => ?_)
    · skip
      refine z_iconst S dX3_digit_21 ?_
      have k2_ : (0 : Int) = mD r n k := by
        unfold mD; rw [if_neg (by omega)]
      exact z_iret S hr hlk w (zNar_int _) () k2_ rfl dX3_digit_22
    · skip
      refine lv_aload_n S.1 S.2.1 dX3_digit_12 rfl (lv_at hl 0 rfl) ?_
      refine z_get (ci := 3) (C := RX3) (T := TX3) (N := 5) S w 0 rfl rfl in_X3_digit_X3 0 (by decide) ln_X3_digit_7 rfl rfl dX3_digit_13 ?_
      refine lv_iload_n S.1 S.2.1 dX3_digit_16 rfl (lv_at hl 1 rfl) ?_
      refine z_bald S w 1 0 rfl rfl (by omega) (by decide) dX3_digit_17 ?_
      refine lv_goto (tgt := 22) S.1 S.2.1 dX3_digit_18 (by decide) ?_
      have k3_ : (r k.toNat : Int) = mD r n k := by
        unfold mD; rw [if_pos (by omega)]
      exact z_iret S hr hlk w (zNar_int _) () k3_ rfl dX3_digit_22

set_option maxRecDepth 20000 in
theorem ln_X3_at_43 : Cond.fieldLink RX3 43 "DecimalTextModel" "length" "I" ∈ wsX3_at := by decide +kernel
theorem in_X3_at_X3 : ∀ w ∈ u_ws RX3 TX3 5, w ∈ wsX3_at := by decide +kernel
set_option maxRecDepth 20000 in
theorem ln_X3_at_13 : Cond.fieldLink RX3 13 "DecimalTextModel" "text" "[I" ∈ wsX3_at := by decide +kernel
set_option maxHeartbeats 4000000 in
set_option maxRecDepth 100000 in
theorem c_X3_at (l : Launch) (D : va_G) (cB cT : ClassId) (h : Nat) (hb : Nat) (ht : Nat) (r : Nat → Int) (n : Int) (P : Int) (tx : Nat → Int) (len : Int) (i : Int) (hlen : 0 ≤ len ∧ len ≤ 420) (hi : -2147483648 ≤ i ∧ i ≤ 2147483647) : zMi (T := Unit) l yX3_at wsX3_at ({ frames := 0, cells := 0, slots := 0, locals := 0 } : Room) D [(cB, .byte), (cT, .int)] [.ref h, .int (zI i)] [(h, .inr (3, [.ref hb, .int (zI n), .int (zI P), .ref ht, .int (zI len)])), (hb, .inl (cB, 1200, .inl (zA r))), (ht, .inl (cT, 420, .inl (zA tx)))] (fun (z : Int) (u : Unit) => z = (if 0 ≤ i ∧ i < len then tx i.toNat else -1)) (fun (u : Unit) => [(h, .inr (3, [.ref hb, .int (zI n), .int (zI P), .ref ht, .int (zI len)])), (hb, .inl (cB, 1200, .inl (zA r))), (ht, .inl (cT, 420, .inl (zA tx)))]) 0 0 := by
  refine zMi.of (bytes := cX3_at) (nL := 2) (own := RX3) (by decide) rfl rfl (Nat.le_of_ble_eq_true rfl) ?_
  intro p e s m below meth c ls S hr hlk hnm w hl
  have hl : lv_has ls 2 [(0, .ref h), (1, .int (zI i))] := hl
  refine lv_iload_n S.1 S.2.1 dX3_at_0 rfl (lv_at hl 1 rfl) ?_
  refine z_if_lt (tgt := 21) S dX3_at_1 (by decide) (by omega) (fun h1 => ?_) (fun h1 => ?_)
  · skip
    refine z_iconst S dX3_at_21 ?_
    have k1_ : ((-1) : Int) = (if 0 ≤ i ∧ i < len then tx i.toNat else -1) := by
      rw [if_neg (by omega)]
    exact z_iret S hr hlk w (zNar_int _) () k1_ rfl dX3_at_22
  · skip
    refine lv_iload_n S.1 S.2.1 dX3_at_4 rfl (lv_at hl 1 rfl) ?_
    refine lv_aload_n S.1 S.2.1 dX3_at_5 rfl (lv_at hl 0 rfl) ?_
    refine z_get (ci := 3) (C := RX3) (T := TX3) (N := 5) S w 0 rfl rfl in_X3_at_X3 4 (by decide) ln_X3_at_43 rfl rfl dX3_at_6 ?_
    refine z_icmp_ge (tgt := 21) S dX3_at_9 (by decide) (by omega) (by omega) (fun h9 => ?_) (fun h9 => ?_)
    · skip
      refine z_iconst S dX3_at_21 ?_
      have k2_ : ((-1) : Int) = (if 0 ≤ i ∧ i < len then tx i.toNat else -1) := by
        rw [if_neg (by omega)]
      exact z_iret S hr hlk w (zNar_int _) () k2_ rfl dX3_at_22
    · skip
      refine lv_aload_n S.1 S.2.1 dX3_at_12 rfl (lv_at hl 0 rfl) ?_
      refine z_get (ci := 3) (C := RX3) (T := TX3) (N := 5) S w 0 rfl rfl in_X3_at_X3 3 (by decide) ln_X3_at_13 rfl rfl dX3_at_13 ?_
      refine lv_iload_n S.1 S.2.1 dX3_at_16 rfl (lv_at hl 1 rfl) ?_
      refine z_iald S w 2 1 rfl rfl (by omega) (by decide) dX3_at_17 ?_
      refine lv_goto (tgt := 22) S.1 S.2.1 dX3_at_18 (by decide) ?_
      have k3_ : (tx i.toNat : Int) = (if 0 ≤ i ∧ i < len then tx i.toNat else -1) := by
        rw [if_pos (by omega)]
      exact z_iret S hr hlk w (zNar_int _) () k3_ rfl dX3_at_22

set_option maxRecDepth 20000 in
theorem kl_X3_infinite_17 : Cond.constantLong RX3 17 (2047) ∈ wsX3_infinite := by decide +kernel
set_option maxRecDepth 20000 in
theorem kl_X3_infinite_19 : Cond.constantLong RX3 19 (4503599627370495) ∈ wsX3_infinite := by decide +kernel
set_option maxHeartbeats 4000000 in
set_option maxRecDepth 100000 in
theorem c_X3_infinite (l : Launch) (D : va_G) (bz : Int) (hbz : -9223372036854775808 ≤ bz ∧ bz ≤ 9223372036854775807) : zMi (T := Unit) l yX3_infinite wsX3_infinite ({ frames := 0, cells := 0, slots := 0, locals := 0 } : Room) D [] [.long (lI bz)] [] (fun (z : Int) (u : Unit) => (z = 1 ∧ (xE bz = 2047 ∧ bz % 4503599627370496 = 0)) ∨ (z = 0 ∧ ¬ (xE bz = 2047 ∧ bz % 4503599627370496 = 0))) (fun (u : Unit) => []) 0 0 := by
  refine zMi.of (bytes := cX3_infinite) (nL := 2) (own := RX3) (by decide) rfl rfl (Nat.le_of_ble_eq_true rfl) ?_
  intro p e s m below meth c ls S hr hlk hnm w hl
  have hl : lv_has ls 2 [(0, .long (lI bz))] := hl
  have hE : 0 ≤ xE bz ∧ xE bz < 2048 := by unfold xE; omega
  refine lv_lload_n S.1 S.2.1 dX3_infinite_0 rfl (lv_at hl 0 rfl) ?_
  refine z_bipush S dX3_infinite_1 (by decide +kernel) ?_
  refine z_lshr S dX3_infinite_3 (v := (bz / 4503599627370496)) (lI_s52 hbz) ?_
  refine z_ldc2 (v := 2047) S 2047 kl_X3_infinite_17 (by decide +kernel) dX3_infinite_4 ?_
  refine z_land S dX3_infinite_7 (v := (xE bz)) (lI_m11 _) ?_
  refine z_ldc2 (v := 2047) S 2047 kl_X3_infinite_17 (by decide +kernel) dX3_infinite_8 ?_
  refine z_lcmp S dX3_infinite_11 (by omega) (by omega) (fun c11 hc11 => ?_)
  refine z_if_ne (tgt := 29) S dX3_infinite_12 (by decide) (by omega) (fun h12 => ?_) (fun h12 => ?_)
  · skip
    refine z_iconst S dX3_infinite_29 ?_
    have k1_ : ((0 : Int) = 1 ∧ (xE bz = 2047 ∧ bz % 4503599627370496 = 0)) ∨ ((0 : Int) = 0 ∧ ¬ (xE bz = 2047 ∧ bz % 4503599627370496 = 0)) := by
      omega
    exact z_iret S hr hlk w zNar_b0 () k1_ rfl dX3_infinite_30
  · skip
    refine lv_lload_n S.1 S.2.1 dX3_infinite_15 rfl (lv_at hl 0 rfl) ?_
    refine z_ldc2 (v := 4503599627370495) S 4503599627370495 kl_X3_infinite_19 (by decide +kernel) dX3_infinite_16 ?_
    refine z_land S dX3_infinite_19 (v := (bz % 4503599627370496)) (lI_m52 bz) ?_
    refine z_lconst (z := 0) S dX3_infinite_20 (by decide +kernel) ?_
    refine z_lcmp S dX3_infinite_21 (by omega) (by omega) (fun c21 hc21 => ?_)
    refine z_if_ne (tgt := 29) S dX3_infinite_22 (by decide) (by omega) (fun h22 => ?_) (fun h22 => ?_)
    · skip
      refine z_iconst S dX3_infinite_29 ?_
      have k2_ : ((0 : Int) = 1 ∧ (xE bz = 2047 ∧ bz % 4503599627370496 = 0)) ∨ ((0 : Int) = 0 ∧ ¬ (xE bz = 2047 ∧ bz % 4503599627370496 = 0)) := by
        omega
      exact z_iret S hr hlk w zNar_b0 () k2_ rfl dX3_infinite_30
    · skip
      refine z_iconst S dX3_infinite_25 ?_
      refine lv_goto (tgt := 30) S.1 S.2.1 dX3_infinite_26 (by decide) ?_
      have k3_ : ((1 : Int) = 1 ∧ (xE bz = 2047 ∧ bz % 4503599627370496 = 0)) ∨ ((1 : Int) = 0 ∧ ¬ (xE bz = 2047 ∧ bz % 4503599627370496 = 0)) := by
        omega
      exact z_iret S hr hlk w zNar_b1 () k3_ rfl dX3_infinite_30

set_option maxRecDepth 20000 in
theorem kl_X3_none_17 : Cond.constantLong RX3 17 (2047) ∈ wsX3_none := by decide +kernel
set_option maxRecDepth 20000 in
theorem kl_X3_none_19 : Cond.constantLong RX3 19 (4503599627370495) ∈ wsX3_none := by decide +kernel
set_option maxHeartbeats 4000000 in
set_option maxRecDepth 100000 in
theorem c_X3_none (l : Launch) (D : va_G) (bz : Int) (hbz : -9223372036854775808 ≤ bz ∧ bz ≤ 9223372036854775807) : zMi (T := Unit) l yX3_none wsX3_none ({ frames := 0, cells := 0, slots := 0, locals := 0 } : Room) D [] [.long (lI bz)] [] (fun (z : Int) (u : Unit) => (z = 1 ∧ (xE bz = 2047 ∧ bz % 4503599627370496 ≠ 0)) ∨ (z = 0 ∧ ¬ (xE bz = 2047 ∧ bz % 4503599627370496 ≠ 0))) (fun (u : Unit) => []) 0 0 := by
  refine zMi.of (bytes := cX3_none) (nL := 2) (own := RX3) (by decide) rfl rfl (Nat.le_of_ble_eq_true rfl) ?_
  intro p e s m below meth c ls S hr hlk hnm w hl
  have hl : lv_has ls 2 [(0, .long (lI bz))] := hl
  have hE : 0 ≤ xE bz ∧ xE bz < 2048 := by unfold xE; omega
  refine lv_lload_n S.1 S.2.1 dX3_none_0 rfl (lv_at hl 0 rfl) ?_
  refine z_bipush S dX3_none_1 (by decide +kernel) ?_
  refine z_lshr S dX3_none_3 (v := (bz / 4503599627370496)) (lI_s52 hbz) ?_
  refine z_ldc2 (v := 2047) S 2047 kl_X3_none_17 (by decide +kernel) dX3_none_4 ?_
  refine z_land S dX3_none_7 (v := (xE bz)) (lI_m11 _) ?_
  refine z_ldc2 (v := 2047) S 2047 kl_X3_none_17 (by decide +kernel) dX3_none_8 ?_
  refine z_lcmp S dX3_none_11 (by omega) (by omega) (fun c11 hc11 => ?_)
  refine z_if_ne (tgt := 29) S dX3_none_12 (by decide) (by omega) (fun h12 => ?_) (fun h12 => ?_)
  · skip
    refine z_iconst S dX3_none_29 ?_
    have k1_ : ((0 : Int) = 1 ∧ (xE bz = 2047 ∧ bz % 4503599627370496 ≠ 0)) ∨ ((0 : Int) = 0 ∧ ¬ (xE bz = 2047 ∧ bz % 4503599627370496 ≠ 0)) := by
      omega
    exact z_iret S hr hlk w zNar_b0 () k1_ rfl dX3_none_30
  · skip
    refine lv_lload_n S.1 S.2.1 dX3_none_15 rfl (lv_at hl 0 rfl) ?_
    refine z_ldc2 (v := 4503599627370495) S 4503599627370495 kl_X3_none_19 (by decide +kernel) dX3_none_16 ?_
    refine z_land S dX3_none_19 (v := (bz % 4503599627370496)) (lI_m52 bz) ?_
    refine z_lconst (z := 0) S dX3_none_20 (by decide +kernel) ?_
    refine z_lcmp S dX3_none_21 (by omega) (by omega) (fun c21 hc21 => ?_)
    refine z_if_eq (tgt := 29) S dX3_none_22 (by decide) (by omega) (fun h22 => ?_) (fun h22 => ?_)
    · skip
      refine z_iconst S dX3_none_29 ?_
      have k2_ : ((0 : Int) = 1 ∧ (xE bz = 2047 ∧ bz % 4503599627370496 ≠ 0)) ∨ ((0 : Int) = 0 ∧ ¬ (xE bz = 2047 ∧ bz % 4503599627370496 ≠ 0)) := by
        omega
      exact z_iret S hr hlk w zNar_b0 () k2_ rfl dX3_none_30
    · skip
      refine z_iconst S dX3_none_25 ?_
      refine lv_goto (tgt := 30) S.1 S.2.1 dX3_none_26 (by decide) ?_
      have k3_ : ((1 : Int) = 1 ∧ (xE bz = 2047 ∧ bz % 4503599627370496 ≠ 0)) ∨ ((1 : Int) = 0 ∧ ¬ (xE bz = 2047 ∧ bz % 4503599627370496 ≠ 0)) := by
        omega
      exact z_iret S hr hlk w zNar_b1 () k3_ rfl dX3_none_30

set_option maxRecDepth 20000 in
theorem ln_X3_digits_23 : Cond.fieldLink RX3 23 "DecimalTextModel" "digits" "I" ∈ wsX3_digits := by decide +kernel
theorem in_X3_digits_X3 : ∀ w ∈ u_ws RX3 TX3 5, w ∈ wsX3_digits := by decide +kernel
set_option maxHeartbeats 4000000 in
set_option maxRecDepth 100000 in
theorem c_X3_digits (l : Launch) (D : va_G) (cB cT : ClassId) (h : Nat) (hb : Nat) (ht : Nat) (r : Nat → Int) (n : Int) (P : Int) (tx : Nat → Int) (len : Int) (bz : Int) (hbz : -9223372036854775808 ≤ bz ∧ bz ≤ 9223372036854775807) : zMi (T := (Nat → Int) × Int × Int) l yX3_digits wsX3_digits ({ frames := 3, cells := 0, slots := 0, locals := 72 } : Room) D [(cB, .byte), (cT, .int)] [.ref h, .long (lI bz)] [(h, .inr (3, [.ref hb, .int (zI n), .int (zI P), .ref ht, .int (zI len)])), (hb, .inl (cB, 1200, .inl (zA r))), (ht, .inl (cT, 420, .inl (zA tx)))] (fun (z : Int) (u : (Nat → Int) × Int × Int) => (xE bz = 2047 ∧ z = -1) ∨ (xE bz ≠ 2047 ∧ sgX (xX bz) z)) (fun (u : (Nat → Int) × Int × Int) => [(h, .inr (3, [.ref hb, .int (zI u.2.1), .int (zI u.2.2), .ref ht, .int (zI len)])), (hb, .inl (cB, 1200, .inl (zA u.1))), (ht, .inl (cT, 420, .inl (zA tx)))]) 0 0 := by
  refine zMi.of (bytes := cX3_digits) (nL := 3) (own := RX3) (by decide) rfl rfl (Nat.le_of_ble_eq_true rfl) ?_
  intro p e s m below meth c ls S hr hlk hnm w hl
  have hl : lv_has ls 3 [(0, .ref h), (1, .long (lI bz))] := hl
  refine lv_lload_n S.1 S.2.1 dX3_digits_0 rfl (lv_at hl 1 rfl) ?_
  refine z_calliS (n := 1) (As := [.long (lI bz)]) (rest := []) (wr := [(h, .inr (3, [.ref hb, .int (zI n), .int (zI P), .ref ht, .int (zI len)])), (hb, .inl (cB, 1200, .inl (zA r))), (ht, .inl (cT, 420, .inl (zA tx)))]) (wn := (fun (u : Unit) => [(h, .inr (3, [.ref hb, .int (zI n), .int (zI P), .ref ht, .int (zI len)])), (hb, .inl (cB, 1200, .inl (zA r))), (ht, .inl (cT, 420, .inl (zA tx)))])) S w (c_X3_infinite l D bz (by omega)) gX3_digits_X3_infinite (by decide +kernel) rfl ⟨rfl, rfl⟩ ⟨Nat.le_of_ble_eq_true rfl, Nat.le_of_ble_eq_true rfl⟩ [] [] [0, 1, 2] [0, 1, 2] rfl rfl rfl rfl rfl (by decide) (fun u => rfl) rfl rfl hl.1 (Nat.le_of_ble_eq_true rfl) ⟨Nat.le_of_ble_eq_true rfl, Nat.le_of_ble_eq_true rfl⟩ rfl dX3_digits_1 (fun z1 _ H locs p1 w => ?_)
  have p1 : (z1 = 1 ∧ (xE bz = 2047 ∧ bz % 4503599627370496 = 0)) ∨ (z1 = 0 ∧ ¬ (xE bz = 2047 ∧ bz % 4503599627370496 = 0)) := p1
  have w : zW D _ _ s [(h, .inr (3, [.ref hb, .int (zI n), .int (zI P), .ref ht, .int (zI len)])), (hb, .inl (cB, 1200, .inl (zA r))), (ht, .inl (cT, 420, .inl (zA tx)))] H locs := w
  refine z_if_ne (tgt := 14) S dX3_digits_4 (by decide) (by omega) (fun h4 => ?_) (fun h4 => ?_)
  · skip
    refine z_iconst S dX3_digits_14 ?_
    exact z_iret S hr hlk w (zNar_int _) (r, n, P) (Or.inl ⟨by omega, rfl⟩) rfl dX3_digits_15
  · skip
    refine lv_lload_n S.1 S.2.1 dX3_digits_7 rfl (lv_at hl 1 rfl) ?_
    refine z_calliS (n := 1) (As := [.long (lI bz)]) (rest := []) (wr := [(h, .inr (3, [.ref hb, .int (zI n), .int (zI P), .ref ht, .int (zI len)])), (hb, .inl (cB, 1200, .inl (zA r))), (ht, .inl (cT, 420, .inl (zA tx)))]) (wn := (fun (u : Unit) => [(h, .inr (3, [.ref hb, .int (zI n), .int (zI P), .ref ht, .int (zI len)])), (hb, .inl (cB, 1200, .inl (zA r))), (ht, .inl (cT, 420, .inl (zA tx)))])) S w (c_X3_none l D bz (by omega)) gX3_digits_X3_none (by decide +kernel) rfl ⟨rfl, rfl⟩ ⟨Nat.le_of_ble_eq_true rfl, Nat.le_of_ble_eq_true rfl⟩ [] [] [0, 1, 2] [0, 1, 2] rfl rfl rfl rfl rfl (by decide) (fun u => rfl) rfl rfl hl.1 (Nat.le_of_ble_eq_true rfl) ⟨Nat.le_of_ble_eq_true rfl, Nat.le_of_ble_eq_true rfl⟩ rfl dX3_digits_8 (fun z8 _ H locs p8 w => ?_)
    have p8 : (z8 = 1 ∧ (xE bz = 2047 ∧ bz % 4503599627370496 ≠ 0)) ∨ (z8 = 0 ∧ ¬ (xE bz = 2047 ∧ bz % 4503599627370496 ≠ 0)) := p8
    have w : zW D _ _ s [(h, .inr (3, [.ref hb, .int (zI n), .int (zI P), .ref ht, .int (zI len)])), (hb, .inl (cB, 1200, .inl (zA r))), (ht, .inl (cT, 420, .inl (zA tx)))] H locs := w
    refine z_if_eq (tgt := 16) S dX3_digits_11 (by decide) (by omega) (fun h11 => ?_) (fun h11 => ?_)
    · skip
      refine lv_aload_n S.1 S.2.1 dX3_digits_16 rfl (lv_at hl 0 rfl) ?_
      refine lv_lload_n S.1 S.2.1 dX3_digits_17 rfl (lv_at hl 1 rfl) ?_
      refine z_callvV (C := RX3) (n := 1) (As := [.long (lI bz)]) (rest := []) (wr := []) (wn := (fun (u : (Nat → Int) × Int × Int) => [(h, .inr (3, [.ref hb, .int (zI u.2.1), .int (zI u.2.2), .ref ht, .int (zI len)])), (hb, .inl (cB, 1200, .inl (zA u.1))), (ht, .inl (cT, 420, .inl (zA tx)))])) S w (c_X3_spread l D cB cT h hb ht r n P tx len bz (by omega) (by omega)) gX3_digits_X3_spread (by decide +kernel) rfl ⟨rfl, rfl⟩ ⟨Nat.le_of_ble_eq_true rfl, Nat.le_of_ble_eq_true rfl⟩ [0, 1] [0, 1, 2] [] [0, 1, 2] rfl rfl rfl rfl rfl (by decide) (fun u => rfl) rfl rfl rfl rfl rfl hl.1 (Nat.le_of_ble_eq_true rfl) ⟨Nat.le_of_ble_eq_true rfl, Nat.le_of_ble_eq_true rfl⟩ rfl dX3_digits_18 (fun u H locs p18 w => ?_)
      obtain ⟨r18, n18, P18⟩ := u
      have p18 : mRep r18 n18 P18 (xX bz) ∧ n18 ≤ 1190 ∧ (-1100 ≤ P18 ∧ P18 ≤ 1100) := p18
      have w : zW D _ _ s [(h, .inr (3, [.ref hb, .int (zI n18), .int (zI P18), .ref ht, .int (zI len)])), (hb, .inl (cB, 1200, .inl (zA r18))), (ht, .inl (cT, 420, .inl (zA tx)))] H locs := w
      obtain ⟨a1, a2, a3⟩ := p18
      refine lv_aload_n S.1 S.2.1 dX3_digits_21 rfl (lv_at hl 0 rfl) ?_
      refine z_get (ci := 3) (C := RX3) (T := TX3) (N := 5) S w 0 rfl rfl in_X3_digits_X3 1 (by decide) ln_X3_digits_23 rfl rfl dX3_digits_22 ?_
      exact z_iret S hr hlk w (zNar_int _) (r18, n18, P18) (Or.inr ⟨by omega, sg_mRep a1⟩) rfl dX3_digits_25
    · skip
      refine z_iconst S dX3_digits_14 ?_
      exact z_iret S hr hlk w (zNar_int _) (r, n, P) (Or.inl ⟨by omega, rfl⟩) rfl dX3_digits_15
