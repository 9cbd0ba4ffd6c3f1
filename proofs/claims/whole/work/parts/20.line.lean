set_option maxRecDepth 20000 in
theorem ln_X0_length_15 : Cond.fieldLink RX0 15 "DecimalText$Line" "length" "I" ∈ wsX0_length := by decide +kernel
theorem in_X0_length_X0 : ∀ w ∈ u_ws RX0 TX0 2, w ∈ wsX0_length := by decide +kernel
set_option maxHeartbeats 4000000 in
set_option maxRecDepth 100000 in
theorem c_X0_length (l : Launch) (D : va_G) (cC : ClassId) (h : Nat) (hc : Nat) (C : Nat → Int) (len : Int)  : zMi (T := Unit) l yX0_length wsX0_length ({ frames := 0, cells := 0, slots := 0, locals := 0 } : Room) D [(cC, .char)] [.ref h] [(h, .inr (0, [.ref hc, .int (zI len)])), (hc, .inl (cC, 400, .inl (zA C)))] (fun (z : Int) (u : Unit) => z = len) (fun (u : Unit) => [(h, .inr (0, [.ref hc, .int (zI len)])), (hc, .inl (cC, 400, .inl (zA C)))]) 0 0 := by
  refine zMi.of (bytes := cX0_length) (nL := 1) (own := RX0) (by decide) rfl rfl (Nat.le_of_ble_eq_true rfl) ?_
  intro p e s m below meth c ls S hr hlk hnm w hl
  have hl : lv_has ls 1 [(0, .ref h)] := hl
  refine lv_aload_n S.1 S.2.1 dX0_length_0 rfl (lv_at hl 0 rfl) ?_
  refine z_get (ci := 0) (C := RX0) (T := TX0) (N := 2) S w 0 rfl rfl in_X0_length_X0 1 (by decide) ln_X0_length_15 rfl rfl dX0_length_1 ?_
  exact z_iret S hr hlk w (zNar_int _) () rfl rfl dX0_length_4

set_option maxRecDepth 20000 in
theorem ln_X0_codeAt_15 : Cond.fieldLink RX0 15 "DecimalText$Line" "length" "I" ∈ wsX0_codeAt := by decide +kernel
theorem in_X0_codeAt_X0 : ∀ w ∈ u_ws RX0 TX0 2, w ∈ wsX0_codeAt := by decide +kernel
set_option maxRecDepth 20000 in
theorem ln_X0_codeAt_9 : Cond.fieldLink RX0 9 "DecimalText$Line" "codes" "[C" ∈ wsX0_codeAt := by decide +kernel
set_option maxHeartbeats 4000000 in
set_option maxRecDepth 100000 in
theorem c_X0_codeAt (l : Launch) (D : va_G) (cC : ClassId) (h : Nat) (hc : Nat) (C : Nat → Int) (len : Int) (i : Int) (hlen : 0 ≤ len ∧ len ≤ 400) (hi : -2147483648 ≤ i ∧ i ≤ 2147483647) : zMi (T := Unit) l yX0_codeAt wsX0_codeAt ({ frames := 0, cells := 0, slots := 0, locals := 0 } : Room) D [(cC, .char)] [.ref h, .int (zI i)] [(h, .inr (0, [.ref hc, .int (zI len)])), (hc, .inl (cC, 400, .inl (zA C)))] (fun (z : Int) (u : Unit) => z = (if 0 ≤ i ∧ i < len then C i.toNat else -1)) (fun (u : Unit) => [(h, .inr (0, [.ref hc, .int (zI len)])), (hc, .inl (cC, 400, .inl (zA C)))]) 0 0 := by
  refine zMi.of (bytes := cX0_codeAt) (nL := 2) (own := RX0) (by decide) rfl rfl (Nat.le_of_ble_eq_true rfl) ?_
  intro p e s m below meth c ls S hr hlk hnm w hl
  have hl : lv_has ls 2 [(0, .ref h), (1, .int (zI i))] := hl
  refine lv_iload_n S.1 S.2.1 dX0_codeAt_0 rfl (lv_at hl 1 rfl) ?_
  refine z_if_lt (tgt := 21) S dX0_codeAt_1 (by decide) (by omega) (fun h1 => ?_) (fun h1 => ?_)
  · skip
    refine z_iconst S dX0_codeAt_21 ?_
    have k1_ : ((-1) : Int) = (if 0 ≤ i ∧ i < len then C i.toNat else -1) := by
      rw [if_neg (by omega)]
    exact z_iret S hr hlk w (zNar_int _) () k1_ rfl dX0_codeAt_22
  · skip
    refine lv_iload_n S.1 S.2.1 dX0_codeAt_4 rfl (lv_at hl 1 rfl) ?_
    refine lv_aload_n S.1 S.2.1 dX0_codeAt_5 rfl (lv_at hl 0 rfl) ?_
    refine z_get (ci := 0) (C := RX0) (T := TX0) (N := 2) S w 0 rfl rfl in_X0_codeAt_X0 1 (by decide) ln_X0_codeAt_15 rfl rfl dX0_codeAt_6 ?_
    refine z_icmp_ge (tgt := 21) S dX0_codeAt_9 (by decide) (by omega) (by omega) (fun h9 => ?_) (fun h9 => ?_)
    · skip
      refine z_iconst S dX0_codeAt_21 ?_
      have k2_ : ((-1) : Int) = (if 0 ≤ i ∧ i < len then C i.toNat else -1) := by
        rw [if_neg (by omega)]
      exact z_iret S hr hlk w (zNar_int _) () k2_ rfl dX0_codeAt_22
    · skip
      refine lv_iload_n S.1 S.2.1 dX0_codeAt_12 rfl (lv_at hl 1 rfl) ?_
      refine lv_aload_n S.1 S.2.1 dX0_codeAt_13 rfl (lv_at hl 0 rfl) ?_
      refine z_get (ci := 0) (C := RX0) (T := TX0) (N := 2) S w 0 rfl rfl in_X0_codeAt_X0 0 (by decide) ln_X0_codeAt_9 rfl rfl dX0_codeAt_14 ?_
      refine z_alen (n := 400) S w 1 0 rfl rfl dX0_codeAt_17 ?_
      refine z_icmp_lt (tgt := 23) S dX0_codeAt_18 (by decide) (by omega) (by omega) (fun h18 => ?_) (fun h18 => ?_)
      · skip
        refine lv_aload_n S.1 S.2.1 dX0_codeAt_23 rfl (lv_at hl 0 rfl) ?_
        refine z_get (ci := 0) (C := RX0) (T := TX0) (N := 2) S w 0 rfl rfl in_X0_codeAt_X0 0 (by decide) ln_X0_codeAt_9 rfl rfl dX0_codeAt_24 ?_
        refine lv_iload_n S.1 S.2.1 dX0_codeAt_27 rfl (lv_at hl 1 rfl) ?_
        refine z_cald S w 1 0 rfl rfl (by omega) (by decide) dX0_codeAt_28 ?_
        have k3_ : (C i.toNat : Int) = (if 0 ≤ i ∧ i < len then C i.toNat else -1) := by
          rw [if_pos (by omega)]
        exact z_iret S hr hlk w (zNar_int _) () k3_ rfl dX0_codeAt_29
      · skip
        refine z_iconst S dX0_codeAt_21 ?_
        have k4_ : ((-1) : Int) = (if 0 ≤ i ∧ i < len then C i.toNat else -1) := by
          rw [if_neg (by omega)]
        exact z_iret S hr hlk w (zNar_int _) () k4_ rfl dX0_codeAt_22

set_option maxRecDepth 20000 in
theorem ln_X0_clear_15 : Cond.fieldLink RX0 15 "DecimalText$Line" "length" "I" ∈ wsX0_clear := by decide +kernel
theorem in_X0_clear_X0 : ∀ w ∈ u_ws RX0 TX0 2, w ∈ wsX0_clear := by decide +kernel
set_option maxHeartbeats 4000000 in
set_option maxRecDepth 100000 in
theorem c_X0_clear (l : Launch) (D : va_G) (cC : ClassId) (h : Nat) (hc : Nat) (C : Nat → Int) (len : Int)  : zMv (T := Int) l yX0_clear wsX0_clear ({ frames := 0, cells := 0, slots := 0, locals := 0 } : Room) D [(cC, .char)] [.ref h] [(h, .inr (0, [.ref hc, .int (zI len)])), (hc, .inl (cC, 400, .inl (zA C)))] (fun (u : Int) => u = 0) (fun (u : Int) => [(h, .inr (0, [.ref hc, .int (zI u)])), (hc, .inl (cC, 400, .inl (zA C)))]) 0 0 := by
  refine zMv.of (bytes := cX0_clear) (nL := 1) (own := RX0) (by decide) rfl rfl (Nat.le_of_ble_eq_true rfl) ?_
  intro p e s m below meth c ls S hr hlk hnm w hl
  have hl : lv_has ls 1 [(0, .ref h)] := hl
  refine lv_aload_n S.1 S.2.1 dX0_clear_0 rfl (lv_at hl 0 rfl) ?_
  refine z_iconst S dX0_clear_1 ?_
  refine z_put (ci := 0) (C := RX0) (T := TX0) (N := 2) S w 0 rfl rfl in_X0_clear_X0 tyX0_ok nmX0 1 (by decide) ln_X0_clear_15 rfl rfl rfl rfl (Nat.le_of_ble_eq_true rfl) dX0_clear_2 (fun H locs w => ?_)
  have w : zW D _ _ s [(h, .inr (0, [.ref hc, .int (zI 0)])), (hc, .inl (cC, 400, .inl (zA C)))] H locs := w
  exact z_vret S hr hlk w 0 rfl rfl dX0_clear_5

set_option maxRecDepth 20000 in
theorem ln_X0_put_15 : Cond.fieldLink RX0 15 "DecimalText$Line" "length" "I" ∈ wsX0_put := by decide +kernel
theorem in_X0_put_X0 : ∀ w ∈ u_ws RX0 TX0 2, w ∈ wsX0_put := by decide +kernel
set_option maxRecDepth 20000 in
theorem ln_X0_put_9 : Cond.fieldLink RX0 9 "DecimalText$Line" "codes" "[C" ∈ wsX0_put := by decide +kernel
set_option maxHeartbeats 4000000 in
set_option maxRecDepth 100000 in
theorem c_X0_put (l : Launch) (D : va_G) (cC : ClassId) (h : Nat) (hc : Nat) (C : Nat → Int) (len : Int) (x : Int) (hlen : 0 ≤ len ∧ len < 400) (hx : 0 ≤ x ∧ x ≤ 65535) : zMv (T := (Nat → Int) × Int) l yX0_put wsX0_put ({ frames := 0, cells := 0, slots := 0, locals := 0 } : Room) D [(cC, .char)] [.ref h, .int (zI x)] [(h, .inr (0, [.ref hc, .int (zI len)])), (hc, .inl (cC, 400, .inl (zA C)))] (fun (u : (Nat → Int) × Int) => u.1 = zu C len.toNat x ∧ u.2 = len + 1) (fun (u : (Nat → Int) × Int) => [(h, .inr (0, [.ref hc, .int (zI u.2)])), (hc, .inl (cC, 400, .inl (zA u.1)))]) 0 0 := by
  refine zMv.of (bytes := cX0_put) (nL := 2) (own := RX0) (by decide) rfl rfl (Nat.le_of_ble_eq_true rfl) ?_
  intro p e s m below meth c ls S hr hlk hnm w hl
  have hl : lv_has ls 2 [(0, .ref h), (1, .int (zI x))] := hl
  refine lv_aload_n S.1 S.2.1 dX0_put_0 rfl (lv_at hl 0 rfl) ?_
  refine z_get (ci := 0) (C := RX0) (T := TX0) (N := 2) S w 0 rfl rfl in_X0_put_X0 1 (by decide) ln_X0_put_15 rfl rfl dX0_put_1 ?_
  refine z_if_lt (tgt := 39) S dX0_put_4 (by decide) (by omega) (fun h4 => ?_) (fun h4 => ?_)
  · skip
    exfalso; omega
  · skip
    refine lv_aload_n S.1 S.2.1 dX0_put_7 rfl (lv_at hl 0 rfl) ?_
    refine z_get (ci := 0) (C := RX0) (T := TX0) (N := 2) S w 0 rfl rfl in_X0_put_X0 1 (by decide) ln_X0_put_15 rfl rfl dX0_put_8 ?_
    refine lv_aload_n S.1 S.2.1 dX0_put_11 rfl (lv_at hl 0 rfl) ?_
    refine z_get (ci := 0) (C := RX0) (T := TX0) (N := 2) S w 0 rfl rfl in_X0_put_X0 0 (by decide) ln_X0_put_9 rfl rfl dX0_put_12 ?_
    refine z_alen (n := 400) S w 1 0 rfl rfl dX0_put_15 ?_
    refine z_icmp_ge (tgt := 39) S dX0_put_16 (by decide) (by omega) (by omega) (fun h16 => ?_) (fun h16 => ?_)
    · skip
      exfalso; omega
    · skip
      refine lv_aload_n S.1 S.2.1 dX0_put_19 rfl (lv_at hl 0 rfl) ?_
      refine z_get (ci := 0) (C := RX0) (T := TX0) (N := 2) S w 0 rfl rfl in_X0_put_X0 0 (by decide) ln_X0_put_9 rfl rfl dX0_put_20 ?_
      refine lv_aload_n S.1 S.2.1 dX0_put_23 rfl (lv_at hl 0 rfl) ?_
      refine z_get (ci := 0) (C := RX0) (T := TX0) (N := 2) S w 0 rfl rfl in_X0_put_X0 1 (by decide) ln_X0_put_15 rfl rfl dX0_put_24 ?_
      refine lv_iload_n S.1 S.2.1 dX0_put_27 rfl (lv_at hl 1 rfl) ?_
      refine z_cast S w 1 0 rfl rfl (by omega) (by decide) (by omega) dX0_put_28 (fun H locs w => ?_)
      have w : zW D _ _ s [(h, .inr (0, [.ref hc, .int (zI len)])), (hc, .inl (cC, 400, .inl (zA (zu C len.toNat x))))] H locs := w
      refine lv_aload_n S.1 S.2.1 dX0_put_29 rfl (lv_at hl 0 rfl) ?_
      refine lv_dup S.1 S.2.1 dX0_put_30 rfl ?_
      refine z_get (ci := 0) (C := RX0) (T := TX0) (N := 2) S w 0 rfl rfl in_X0_put_X0 1 (by decide) ln_X0_put_15 rfl rfl dX0_put_31 ?_
      refine z_iconst S dX0_put_34 ?_
      refine z_iadd S dX0_put_35 ?_
      refine z_put (ci := 0) (C := RX0) (T := TX0) (N := 2) S w 0 rfl rfl in_X0_put_X0 tyX0_ok nmX0 1 (by decide) ln_X0_put_15 rfl rfl rfl rfl (Nat.le_of_ble_eq_true rfl) dX0_put_36 (fun H locs w => ?_)
      have w : zW D _ _ s [(h, .inr (0, [.ref hc, .int (zI (len + 1))])), (hc, .inl (cC, 400, .inl (zA (zu C len.toNat x))))] H locs := w
      exact z_vret S hr hlk w (zu C len.toNat x, len + 1) ⟨rfl, rfl⟩ rfl dX0_put_39

set_option maxRecDepth 20000 in
theorem ln_X0_insert_15 : Cond.fieldLink RX0 15 "DecimalText$Line" "length" "I" ∈ wsX0_insert := by decide +kernel
theorem in_X0_insert_X0 : ∀ w ∈ u_ws RX0 TX0 2, w ∈ wsX0_insert := by decide +kernel
set_option maxRecDepth 20000 in
theorem ln_X0_insert_9 : Cond.fieldLink RX0 9 "DecimalText$Line" "codes" "[C" ∈ wsX0_insert := by decide +kernel
set_option maxHeartbeats 4000000 in
set_option maxRecDepth 100000 in
theorem c_X0_insert (l : Launch) (D : va_G) (cC : ClassId) (h : Nat) (hc : Nat) (C : Nat → Int) (len : Int) (pl : Int) (am : Int) (x : Int) (hlen : 0 ≤ len ∧ len ≤ 400) (hpl : 0 ≤ pl ∧ pl ≤ len) (ham : -1000 ≤ am ∧ am ≤ 400 - len) (hx : 0 ≤ x ∧ x ≤ 65535) (hC : ∀ j : Nat, (j : Int) < len → 0 ≤ C j ∧ C j ≤ 65535) : zMv (T := (Nat → Int) × Int) l yX0_insert wsX0_insert ({ frames := 0, cells := 0, slots := 0, locals := 0 } : Room) D [(cC, .char)] [.ref h, .int (zI pl), .int (zI am), .int (zI x)] [(h, .inr (0, [.ref hc, .int (zI len)])), (hc, .inl (cC, 400, .inl (zA C)))] (fun (u : (Nat → Int) × Int) => (am ≤ 0 → u.1 = C ∧ u.2 = len) ∧ (0 < am → u.2 = len + am ∧ ∀ j : Nat, (j : Int) < len + am → u.1 j = if (j : Int) < pl then C j else if (j : Int) < pl + am then x else C (j - am.toNat))) (fun (u : (Nat → Int) × Int) => [(h, .inr (0, [.ref hc, .int (zI u.2)])), (hc, .inl (cC, 400, .inl (zA u.1)))]) 0 0 := by
  refine zMv.of (bytes := cX0_insert) (nL := 5) (own := RX0) (by decide) rfl rfl (Nat.le_of_ble_eq_true rfl) ?_
  intro p e s m below meth c ls S hr hlk hnm w hl
  have lab70 : ∀ (nf_ : Nat) (C2 : Nat → Int) (i : Int), (pl + am - i).toNat < nf_ → (0 < am) → (pl ≤ i ∧ i ≤ pl + am) → (∀ j : Nat, (j : Int) < pl → C2 j = C j) → (∀ j : Nat, pl ≤ (j : Int) → (j : Int) < i → C2 j = x) → (∀ j : Nat, pl ≤ (j : Int) → (j : Int) < len → C2 (j + am.toNat) = C j) → ∀ (H : Heap) (locs : List Loc) (ls : Array Slot), zW D [(cC, .char)] (va_A [(h, .inr (0, [.ref hc, .int (zI len)])), (hc, .inl (cC, 400, .inl (zA C)))] s.heap.size) s [(h, .inr (0, [.ref hc, .int (zI len)])), (hc, .inl (cC, 400, .inl (zA C2)))] H locs → lv_has ls 5 [(0, .ref h), (1, .int (zI pl)), (2, .int (zI am)), (3, .int (zI x)), (4, .int (zI i))] → W p l e ({ frames := 0, cells := 0, slots := 0, locals := 0 } : Room) s m ([.ref h, .int (zI pl), .int (zI am), .int (zI x)] : List Value).toArray below meth c H locs 0 0 (MQ below (zQv D [(cC, .char)] [(h, .inr (0, [.ref hc, .int (zI len)])), (hc, .inl (cC, 400, .inl (zA C)))] s.heap.size (fun (u : (Nat → Int) × Int) => (am ≤ 0 → u.1 = C ∧ u.2 = len) ∧ (0 < am → u.2 = len + am ∧ ∀ j : Nat, (j : Int) < len + am → u.1 j = if (j : Int) < pl then C j else if (j : Int) < pl + am then x else C (j - am.toNat))) (fun (u : (Nat → Int) × Int) => [(h, .inr (0, [.ref hc, .int (zI u.2)])), (hc, .inl (cC, 400, .inl (zA u.1)))])) ([.ref h, .int (zI pl), .int (zI am), .int (zI x)] : List Value).toArray s 0 0 (va_A [(h, .inr (0, [.ref hc, .int (zI len)])), (hc, .inl (cC, 400, .inl (zA C)))] s.heap.size)) (F0 m 70 ls []) := by
    intro nf_
    induction nf_ with
    | zero => intro C2 i hmeas_; exact absurd hmeas_ (Nat.not_lt_zero _)
    | succ nf_ ih =>
      intro C2 i hmeas_ hm hi e1 e2 e3 H locs ls w hl
      refine lv_iload S.1 S.2.1 dX0_insert_70 (lv_at hl 4 rfl) ?_
      refine lv_iload_n S.1 S.2.1 dX0_insert_72 rfl (lv_at hl 1 rfl) ?_
      refine lv_iload_n S.1 S.2.1 dX0_insert_73 rfl (lv_at hl 2 rfl) ?_
      refine z_iadd S dX0_insert_74 ?_
      refine z_icmp_ge (tgt := 92) S dX0_insert_75 (by decide) (by omega) (by omega) (fun h75 => ?_) (fun h75 => ?_)
      · skip
        refine lv_aload_n S.1 S.2.1 dX0_insert_92 rfl (lv_at hl 0 rfl) ?_
        refine lv_dup S.1 S.2.1 dX0_insert_93 rfl ?_
        refine z_get (ci := 0) (C := RX0) (T := TX0) (N := 2) S w 0 rfl rfl in_X0_insert_X0 1 (by decide) ln_X0_insert_15 rfl rfl dX0_insert_94 ?_
        refine lv_iload_n S.1 S.2.1 dX0_insert_97 rfl (lv_at hl 2 rfl) ?_
        refine z_iadd S dX0_insert_98 ?_
        refine z_put (ci := 0) (C := RX0) (T := TX0) (N := 2) S w 0 rfl rfl in_X0_insert_X0 tyX0_ok nmX0 1 (by decide) ln_X0_insert_15 rfl rfl rfl rfl (Nat.le_of_ble_eq_true rfl) dX0_insert_99 (fun H locs w => ?_)
        have w : zW D _ _ s [(h, .inr (0, [.ref hc, .int (zI (len + am))])), (hc, .inl (cC, 400, .inl (zA C2)))] H locs := w
        have k1_ : (am ≤ 0 → C2 = C ∧ (len + am) = len) ∧ (0 < am → (len + am) = len + am ∧ ∀ j : Nat, (j : Int) < len + am → C2 j = if (j : Int) < pl then C j else if (j : Int) < pl + am then x else C (j - am.toNat)) := by
          refine ⟨fun q => by omega, fun _ => ⟨rfl, ?_⟩⟩
          intro j q
          by_cases q1 : (j : Int) < pl
          · rw [if_pos q1]; exact e1 j q1
          · rw [if_neg q1]
            by_cases q2 : (j : Int) < pl + am
            · rw [if_pos q2]; exact e2 j (by omega) (by omega)
            · rw [if_neg q2]
              have q3 := e3 (j - am.toNat) (by omega) (by omega)
              have q4 : j - am.toNat + am.toNat = j := by omega
              rw [q4] at q3; exact q3
        exact z_vret S hr hlk w (C2, len + am) k1_ rfl dX0_insert_102
      · skip
        refine lv_aload_n S.1 S.2.1 dX0_insert_78 rfl (lv_at hl 0 rfl) ?_
        refine z_get (ci := 0) (C := RX0) (T := TX0) (N := 2) S w 0 rfl rfl in_X0_insert_X0 0 (by decide) ln_X0_insert_9 rfl rfl dX0_insert_79 ?_
        refine lv_iload S.1 S.2.1 dX0_insert_82 (lv_at hl 4 rfl) ?_
        refine lv_iload_n S.1 S.2.1 dX0_insert_84 rfl (lv_at hl 3 rfl) ?_
        refine z_cast S w 1 0 rfl rfl (by omega) (by decide) (by omega) dX0_insert_85 (fun H locs w => ?_)
        have w : zW D _ _ s [(h, .inr (0, [.ref hc, .int (zI len)])), (hc, .inl (cC, 400, .inl (zA (zu C2 i.toNat x))))] H locs := w
        refine lv_iinc (v := zI (i + 1)) (lv' := [(4, .int (zI (i + 1))), (0, .ref h), (1, .int (zI pl)), (2, .int (zI am)), (3, .int (zI x))]) S.1 S.2.1 dX0_insert_86 hl (k := 4) rfl (zI_add i 1) (by decide) rfl (fun ls hl => ?_)
        refine lv_goto (tgt := 70) S.1 S.2.1 dX0_insert_89 (by decide) ?_
        have k2_ : ∀ j : Nat, pl ≤ (j : Int) → (j : Int) < (i + 1) → (zu C2 i.toNat x) j = x := by
          intro j q1 q2; by_cases q3 : (j : Int) = i
          · have q4 : i.toNat = j := by omega
            rw [q4, zu_s]
          · rw [zu_n _ _ (by omega)]; exact e2 j q1 (by omega)
        exact ih (zu C2 i.toNat x) (i + 1) (by omega) (by omega) (by omega) (by intro j q; rw [zu_n _ _ (by omega)]; exact e1 j q) k2_ (by intro j q1 q2; rw [zu_n _ _ (by omega)]; exact e3 j q1 q2) _ _ _ w (lv_sub hl [1, 2, 3, 4, 0] rfl)
  have lab39 : ∀ (nf_ : Nat) (C1 : Nat → Int) (i : Int), (i + 1).toNat < nf_ → (0 < am) → (pl - 1 ≤ i ∧ i ≤ len - 1) → (∀ j : Nat, (j : Int) ≤ i → C1 j = C j) → (∀ j : Nat, i < (j : Int) → (j : Int) < len → C1 (j + am.toNat) = C j) → ∀ (H : Heap) (locs : List Loc) (ls : Array Slot), zW D [(cC, .char)] (va_A [(h, .inr (0, [.ref hc, .int (zI len)])), (hc, .inl (cC, 400, .inl (zA C)))] s.heap.size) s [(h, .inr (0, [.ref hc, .int (zI len)])), (hc, .inl (cC, 400, .inl (zA C1)))] H locs → lv_has ls 5 [(0, .ref h), (1, .int (zI pl)), (2, .int (zI am)), (3, .int (zI x)), (4, .int (zI i))] → W p l e ({ frames := 0, cells := 0, slots := 0, locals := 0 } : Room) s m ([.ref h, .int (zI pl), .int (zI am), .int (zI x)] : List Value).toArray below meth c H locs 0 0 (MQ below (zQv D [(cC, .char)] [(h, .inr (0, [.ref hc, .int (zI len)])), (hc, .inl (cC, 400, .inl (zA C)))] s.heap.size (fun (u : (Nat → Int) × Int) => (am ≤ 0 → u.1 = C ∧ u.2 = len) ∧ (0 < am → u.2 = len + am ∧ ∀ j : Nat, (j : Int) < len + am → u.1 j = if (j : Int) < pl then C j else if (j : Int) < pl + am then x else C (j - am.toNat))) (fun (u : (Nat → Int) × Int) => [(h, .inr (0, [.ref hc, .int (zI u.2)])), (hc, .inl (cC, 400, .inl (zA u.1)))])) ([.ref h, .int (zI pl), .int (zI am), .int (zI x)] : List Value).toArray s 0 0 (va_A [(h, .inr (0, [.ref hc, .int (zI len)])), (hc, .inl (cC, 400, .inl (zA C)))] s.heap.size)) (F0 m 39 ls []) := by
    intro nf_
    induction nf_ with
    | zero => intro C1 i hmeas_; exact absurd hmeas_ (Nat.not_lt_zero _)
    | succ nf_ ih =>
      intro C1 i hmeas_ hm hi e1 e3 H locs ls w hl
      refine lv_iload S.1 S.2.1 dX0_insert_39 (lv_at hl 4 rfl) ?_
      refine lv_iload_n S.1 S.2.1 dX0_insert_41 rfl (lv_at hl 1 rfl) ?_
      refine z_icmp_lt (tgt := 67) S dX0_insert_42 (by decide) (by omega) (by omega) (fun h42 => ?_) (fun h42 => ?_)
      · skip
        refine lv_iload_n S.1 S.2.1 dX0_insert_67 rfl (lv_at hl 1 rfl) ?_
        refine lv_istore (lv' := [(4, .int (zI pl)), (0, .ref h), (1, .int (zI pl)), (2, .int (zI am)), (3, .int (zI x))]) S.1 S.2.1 dX0_insert_68 hl (by decide) rfl (fun ls hl => ?_)
        exact lab70 _ C1 pl (Nat.lt_succ_self _) (by omega) (by omega) (fun j q => e1 j (by omega)) (by intro j q1 q2; omega) (fun j q1 q2 => e3 j (by omega) q2) _ _ _ w (lv_sub hl [1, 2, 3, 4, 0] rfl)
      · skip
        refine lv_aload_n S.1 S.2.1 dX0_insert_45 rfl (lv_at hl 0 rfl) ?_
        refine z_get (ci := 0) (C := RX0) (T := TX0) (N := 2) S w 0 rfl rfl in_X0_insert_X0 0 (by decide) ln_X0_insert_9 rfl rfl dX0_insert_46 ?_
        refine lv_iload S.1 S.2.1 dX0_insert_49 (lv_at hl 4 rfl) ?_
        refine lv_iload_n S.1 S.2.1 dX0_insert_51 rfl (lv_at hl 2 rfl) ?_
        refine z_iadd S dX0_insert_52 ?_
        refine lv_aload_n S.1 S.2.1 dX0_insert_53 rfl (lv_at hl 0 rfl) ?_
        refine z_get (ci := 0) (C := RX0) (T := TX0) (N := 2) S w 0 rfl rfl in_X0_insert_X0 0 (by decide) ln_X0_insert_9 rfl rfl dX0_insert_54 ?_
        refine lv_iload S.1 S.2.1 dX0_insert_57 (lv_at hl 4 rfl) ?_
        refine z_cald S w 1 0 rfl rfl (by omega) (by decide) dX0_insert_59 ?_
        refine z_cast S w 1 0 rfl rfl (by omega) (by decide) (by have := hC i.toNat (by omega); rw [e1 i.toNat (by omega)]; exact this) dX0_insert_60 (fun H locs w => ?_)
        have w : zW D _ _ s [(h, .inr (0, [.ref hc, .int (zI len)])), (hc, .inl (cC, 400, .inl (zA (zu C1 (i + am).toNat (C1 i.toNat)))))] H locs := w
        refine lv_iinc (v := zI (i + (-1))) (lv' := [(4, .int (zI (i + (-1)))), (0, .ref h), (1, .int (zI pl)), (2, .int (zI am)), (3, .int (zI x))]) S.1 S.2.1 dX0_insert_61 hl (k := 4) rfl (zI_add i (-1)) (by decide) rfl (fun ls hl => ?_)
        refine lv_goto (tgt := 39) S.1 S.2.1 dX0_insert_64 (by decide) ?_
        have k3_ : ∀ j : Nat, (i + (-1)) < (j : Int) → (j : Int) < len → (zu C1 (i + am).toNat (C1 i.toNat)) (j + am.toNat) = C j := by
          intro j q1 q2; by_cases q3 : (j : Int) = i
          · have q4 : j + am.toNat = (i + am).toNat := by omega
            have q5 : i.toNat = j := by omega
            rw [q4, zu_s, q5]; exact e1 j (by omega)
          · rw [zu_n _ _ (by omega)]; exact e3 j (by omega) q2
        exact ih (zu C1 (i + am).toNat (C1 i.toNat)) (i + (-1)) (by omega) (by omega) (by omega) (by intro j q; rw [zu_n _ _ (by omega)]; exact e1 j (by omega)) k3_ _ _ _ w (lv_sub hl [1, 2, 3, 4, 0] rfl)
  have hl : lv_has ls 5 [(0, .ref h), (1, .int (zI pl)), (2, .int (zI am)), (3, .int (zI x))] := hl
  refine lv_iload_n S.1 S.2.1 dX0_insert_0 rfl (lv_at hl 2 rfl) ?_
  refine z_if_le (tgt := 30) S dX0_insert_1 (by decide) (by omega) (fun h1 => ?_) (fun h1 => ?_)
  · skip
    exact z_vret S hr hlk w (C, len) ⟨fun _ => ⟨rfl, rfl⟩, fun q => by omega⟩ rfl dX0_insert_30
  · skip
    refine lv_iload_n S.1 S.2.1 dX0_insert_4 rfl (lv_at hl 2 rfl) ?_
    refine lv_aload_n S.1 S.2.1 dX0_insert_5 rfl (lv_at hl 0 rfl) ?_
    refine z_get (ci := 0) (C := RX0) (T := TX0) (N := 2) S w 0 rfl rfl in_X0_insert_X0 0 (by decide) ln_X0_insert_9 rfl rfl dX0_insert_6 ?_
    refine z_alen (n := 400) S w 1 0 rfl rfl dX0_insert_9 ?_
    refine lv_aload_n S.1 S.2.1 dX0_insert_10 rfl (lv_at hl 0 rfl) ?_
    refine z_get (ci := 0) (C := RX0) (T := TX0) (N := 2) S w 0 rfl rfl in_X0_insert_X0 1 (by decide) ln_X0_insert_15 rfl rfl dX0_insert_11 ?_
    refine z_isub S dX0_insert_14 ?_
    refine z_icmp_gt (tgt := 30) S dX0_insert_15 (by decide) (by omega) (by omega) (fun h15 => ?_) (fun h15 => ?_)
    · skip
      exfalso; omega
    · skip
      refine lv_iload_n S.1 S.2.1 dX0_insert_18 rfl (lv_at hl 1 rfl) ?_
      refine z_if_lt (tgt := 30) S dX0_insert_19 (by decide) (by omega) (fun h19 => ?_) (fun h19 => ?_)
      · skip
        exfalso; omega
      · skip
        refine lv_iload_n S.1 S.2.1 dX0_insert_22 rfl (lv_at hl 1 rfl) ?_
        refine lv_aload_n S.1 S.2.1 dX0_insert_23 rfl (lv_at hl 0 rfl) ?_
        refine z_get (ci := 0) (C := RX0) (T := TX0) (N := 2) S w 0 rfl rfl in_X0_insert_X0 1 (by decide) ln_X0_insert_15 rfl rfl dX0_insert_24 ?_
        refine z_icmp_le (tgt := 31) S dX0_insert_27 (by decide) (by omega) (by omega) (fun h27 => ?_) (fun h27 => ?_)
        · skip
          refine lv_aload_n S.1 S.2.1 dX0_insert_31 rfl (lv_at hl 0 rfl) ?_
          refine z_get (ci := 0) (C := RX0) (T := TX0) (N := 2) S w 0 rfl rfl in_X0_insert_X0 1 (by decide) ln_X0_insert_15 rfl rfl dX0_insert_32 ?_
          refine z_iconst S dX0_insert_35 ?_
          refine z_isub S dX0_insert_36 ?_
          refine lv_istore (lv' := [(4, .int (zI (len - 1))), (0, .ref h), (1, .int (zI pl)), (2, .int (zI am)), (3, .int (zI x))]) S.1 S.2.1 dX0_insert_37 hl (by decide) rfl (fun ls hl => ?_)
          exact lab39 _ C (len - 1) (Nat.lt_succ_self _) (by omega) (by omega) (fun j _ => rfl) (by intro j q1 q2; omega) _ _ _ w (lv_sub hl [1, 2, 3, 4, 0] rfl)
        · skip
          exfalso; omega
