/-- the digit at a place of the row, 0 outside of it -/
def dI (r : Nat → Int) (i : Int) : Int := if 0 ≤ i ∧ i < 774 then r i.toNat else 0
theorem dI_9 {r : Nat → Int} (h : ∀ j : Nat, j < 774 → 0 ≤ r j ∧ r j ≤ 9) (i : Int) : 0 ≤ dI r i ∧ dI r i ≤ 9 := by
  unfold dI
  by_cases k : 0 ≤ i ∧ i < 774
  · rw [if_pos k]; exact h _ (by omega)
  · rw [if_neg k]; omega

set_option maxRecDepth 20000 in
theorem ln_X1_digitIn_19 : Cond.fieldLink RX1 19 "DecimalText$Worth" "row" "[I" ∈ wsX1_digitIn := by decide +kernel
theorem in_X1_digitIn_X1 : ∀ w ∈ u_ws RX1 TX1 5, w ∈ wsX1_digitIn := by decide +kernel
set_option maxHeartbeats 4000000 in
set_option maxRecDepth 100000 in
theorem c_X1_digitIn (l : Launch) (D : va_G) (cL cR : ClassId) (h : Nat) (ha : Nat) (hr1 : Nat) (L : Nat → Int) (lc : Int) (Rw : Nat → Int) (cnt : Int) (dec : Int) (i : Int) (hi : -2147483648 ≤ i ∧ i ≤ 2147483647) : zMi (T := Unit) l yX1_digitIn wsX1_digitIn ({ frames := 0, cells := 0, slots := 0, locals := 0 } : Room) D [(cL, .int), (cR, .int)] [.ref h, .int (zI i)] [(h, .inr (1, [.ref ha, .int (zI lc), .ref hr1, .int (zI cnt), .int (zI dec)])), (ha, .inl (cL, 86, .inl (zA L))), (hr1, .inl (cR, 774, .inl (zA Rw)))] (fun (z : Int) (u : Unit) => z = dI Rw i) (fun (u : Unit) => [(h, .inr (1, [.ref ha, .int (zI lc), .ref hr1, .int (zI cnt), .int (zI dec)])), (ha, .inl (cL, 86, .inl (zA L))), (hr1, .inl (cR, 774, .inl (zA Rw)))]) 0 0 := by
  refine zMi.of (bytes := cX1_digitIn) (nL := 2) (own := RX1) (by decide) rfl rfl (Nat.le_of_ble_eq_true rfl) ?_
  intro p e s m below meth c ls S hr hlk hnm w hl
  have hl : lv_has ls 2 [(0, .ref h), (1, .int (zI i))] := hl
  refine lv_iload_n S.1 S.2.1 dX1_digitIn_0 rfl (lv_at hl 1 rfl) ?_
  refine z_if_lt (tgt := 13) S dX1_digitIn_1 (by decide) (by omega) (fun h1 => ?_) (fun h1 => ?_)
  · skip
    refine z_iconst S dX1_digitIn_13 ?_
    have k1_ : (0 : Int) = dI Rw i := by
      unfold dI; rw [if_neg (by omega)]
    exact z_iret S hr hlk w (zNar_int _) () k1_ rfl dX1_digitIn_14
  · skip
    refine lv_iload_n S.1 S.2.1 dX1_digitIn_4 rfl (lv_at hl 1 rfl) ?_
    refine lv_aload_n S.1 S.2.1 dX1_digitIn_5 rfl (lv_at hl 0 rfl) ?_
    refine z_get (ci := 1) (C := RX1) (T := TX1) (N := 5) S w 0 rfl rfl in_X1_digitIn_X1 2 (by decide) ln_X1_digitIn_19 rfl rfl dX1_digitIn_6 ?_
    refine z_alen (n := 774) S w 2 1 rfl rfl dX1_digitIn_9 ?_
    refine z_icmp_lt (tgt := 15) S dX1_digitIn_10 (by decide) (by omega) (by omega) (fun h10 => ?_) (fun h10 => ?_)
    · skip
      refine lv_aload_n S.1 S.2.1 dX1_digitIn_15 rfl (lv_at hl 0 rfl) ?_
      refine z_get (ci := 1) (C := RX1) (T := TX1) (N := 5) S w 0 rfl rfl in_X1_digitIn_X1 2 (by decide) ln_X1_digitIn_19 rfl rfl dX1_digitIn_16 ?_
      refine lv_iload_n S.1 S.2.1 dX1_digitIn_19 rfl (lv_at hl 1 rfl) ?_
      refine z_iald S w 2 1 rfl rfl (by omega) (by decide) dX1_digitIn_20 ?_
      have k2_ : (Rw i.toNat : Int) = dI Rw i := by
        unfold dI; rw [if_pos (by omega)]
      exact z_iret S hr hlk w (zNar_int _) () k2_ rfl dX1_digitIn_21
    · skip
      refine z_iconst S dX1_digitIn_13 ?_
      have k3_ : (0 : Int) = dI Rw i := by
        unfold dI; rw [if_neg (by omega)]
      exact z_iret S hr hlk w (zNar_int _) () k3_ rfl dX1_digitIn_14

set_option maxRecDepth 20000 in
theorem ln_X1_lowestIndex_22 : Cond.fieldLink RX1 22 "DecimalText$Worth" "count" "I" ∈ wsX1_lowestIndex := by decide +kernel
theorem in_X1_lowestIndex_X1 : ∀ w ∈ u_ws RX1 TX1 5, w ∈ wsX1_lowestIndex := by decide +kernel
set_option maxHeartbeats 4000000 in
set_option maxRecDepth 100000 in
theorem c_X1_lowestIndex (l : Launch) (D : va_G) (cL cR : ClassId) (h : Nat) (ha : Nat) (hr1 : Nat) (L : Nat → Int) (lc : Int) (Rw : Nat → Int) (cnt : Int) (dec : Int) (hcnt : 0 ≤ cnt ∧ cnt ≤ 774) (h9 : ∀ j : Nat, j < 774 → 0 ≤ Rw j ∧ Rw j ≤ 9) : zMi (T := Unit) l yX1_lowestIndex wsX1_lowestIndex ({ frames := 1, cells := 0, slots := 0, locals := 21 } : Room) D [(cL, .int), (cR, .int)] [.ref h] [(h, .inr (1, [.ref ha, .int (zI lc), .ref hr1, .int (zI cnt), .int (zI dec)])), (ha, .inl (cL, 86, .inl (zA L))), (hr1, .inl (cR, 774, .inl (zA Rw)))] (fun (z : Int) (u : Unit) => (0 ≤ z ∧ z ≤ cnt) ∧ (∀ j : Nat, (j : Int) < z → Rw j = 0) ∧ (z < cnt → Rw (z).toNat ≠ 0)) (fun (u : Unit) => [(h, .inr (1, [.ref ha, .int (zI lc), .ref hr1, .int (zI cnt), .int (zI dec)])), (ha, .inl (cL, 86, .inl (zA L))), (hr1, .inl (cR, 774, .inl (zA Rw)))]) 0 0 := by
  refine zMi.of (bytes := cX1_lowestIndex) (nL := 2) (own := RX1) (by decide) rfl rfl (Nat.le_of_ble_eq_true rfl) ?_
  intro p e s m below meth c ls S hr hlk hnm w hl
  have lab2 : ∀ (nf_ : Nat) (i : Int), (cnt - i).toNat < nf_ → (0 ≤ i ∧ i ≤ cnt) → (∀ j : Nat, (j : Int) < i → Rw j = 0) → ∀ (H : Heap) (locs : List Loc) (ls : Array Slot), zW D [(cL, .int), (cR, .int)] (va_A [(h, .inr (1, [.ref ha, .int (zI lc), .ref hr1, .int (zI cnt), .int (zI dec)])), (ha, .inl (cL, 86, .inl (zA L))), (hr1, .inl (cR, 774, .inl (zA Rw)))] s.heap.size) s [(h, .inr (1, [.ref ha, .int (zI lc), .ref hr1, .int (zI cnt), .int (zI dec)])), (ha, .inl (cL, 86, .inl (zA L))), (hr1, .inl (cR, 774, .inl (zA Rw)))] H locs → lv_has ls 2 [(0, .ref h), (1, .int (zI i))] → W p l e ({ frames := 1, cells := 0, slots := 0, locals := 21 } : Room) s m ([.ref h] : List Value).toArray below meth c H locs 0 0 (MQ below (zQi D [(cL, .int), (cR, .int)] [(h, .inr (1, [.ref ha, .int (zI lc), .ref hr1, .int (zI cnt), .int (zI dec)])), (ha, .inl (cL, 86, .inl (zA L))), (hr1, .inl (cR, 774, .inl (zA Rw)))] s.heap.size (fun (z : Int) (u : Unit) => (0 ≤ z ∧ z ≤ cnt) ∧ (∀ j : Nat, (j : Int) < z → Rw j = 0) ∧ (z < cnt → Rw (z).toNat ≠ 0)) (fun (u : Unit) => [(h, .inr (1, [.ref ha, .int (zI lc), .ref hr1, .int (zI cnt), .int (zI dec)])), (ha, .inl (cL, 86, .inl (zA L))), (hr1, .inl (cR, 774, .inl (zA Rw)))])) ([.ref h] : List Value).toArray s 0 0 (va_A [(h, .inr (1, [.ref ha, .int (zI lc), .ref hr1, .int (zI cnt), .int (zI dec)])), (ha, .inl (cL, 86, .inl (zA L))), (hr1, .inl (cR, 774, .inl (zA Rw)))] s.heap.size)) (F0 m 2 ls []) := by
    intro nf_
    induction nf_ with
    | zero => intro i hmeas_; exact absurd hmeas_ (Nat.not_lt_zero _)
    | succ nf_ ih =>
      intro i hmeas_ hi e1 H locs ls w hl
      refine lv_iload_n S.1 S.2.1 dX1_lowestIndex_2 rfl (lv_at hl 1 rfl) ?_
      refine lv_aload_n S.1 S.2.1 dX1_lowestIndex_3 rfl (lv_at hl 0 rfl) ?_
      refine z_get (ci := 1) (C := RX1) (T := TX1) (N := 5) S w 0 rfl rfl in_X1_lowestIndex_X1 3 (by decide) ln_X1_lowestIndex_22 rfl rfl dX1_lowestIndex_4 ?_
      refine z_icmp_ge (tgt := 24) S dX1_lowestIndex_7 (by decide) (by omega) (by omega) (fun h7 => ?_) (fun h7 => ?_)
      · skip
        refine lv_iload_n S.1 S.2.1 dX1_lowestIndex_24 rfl (lv_at hl 1 rfl) ?_
        have k1_ : (0 ≤ (i : Int) ∧ (i : Int) ≤ cnt) ∧ (∀ j : Nat, (j : Int) < (i : Int) → Rw j = 0) ∧ ((i : Int) < cnt → Rw ((i : Int)).toNat ≠ 0) := by
          refine ⟨hi, e1, fun q => ?_⟩
          first
            | (exfalso; omega)
            | (have q4 : dI Rw i = Rw i.toNat := if_pos (by omega)
               rw [← q4, ← p12]; exact h15)
        exact z_iret S hr hlk w (zNar_int _) () k1_ rfl dX1_lowestIndex_25
      · skip
        refine lv_aload_n S.1 S.2.1 dX1_lowestIndex_10 rfl (lv_at hl 0 rfl) ?_
        refine lv_iload_n S.1 S.2.1 dX1_lowestIndex_11 rfl (lv_at hl 1 rfl) ?_
        refine z_calliV (C := RX1) (n := 1) (As := [.int (zI i)]) (rest := []) (wr := []) (wn := (fun (u : Unit) => [(h, .inr (1, [.ref ha, .int (zI lc), .ref hr1, .int (zI cnt), .int (zI dec)])), (ha, .inl (cL, 86, .inl (zA L))), (hr1, .inl (cR, 774, .inl (zA Rw)))])) S w (c_X1_digitIn l D cL cR h ha hr1 L lc Rw cnt dec i (by omega)) gX1_lowestIndex_X1_digitIn (by decide +kernel) rfl ⟨rfl, rfl⟩ ⟨Nat.le_of_ble_eq_true rfl, Nat.le_of_ble_eq_true rfl⟩ [0, 1] [0, 1, 2] [] [0, 1, 2] rfl rfl rfl rfl rfl (by decide) (fun u => rfl) rfl rfl rfl rfl rfl hl.1 (Nat.le_of_ble_eq_true rfl) ⟨Nat.le_of_ble_eq_true rfl, Nat.le_of_ble_eq_true rfl⟩ rfl dX1_lowestIndex_12 (fun z12 _ H locs p12 w => ?_)
        have p12 : z12 = dI Rw i := p12
        have w : zW D _ _ s [(h, .inr (1, [.ref ha, .int (zI lc), .ref hr1, .int (zI cnt), .int (zI dec)])), (ha, .inl (cL, 86, .inl (zA L))), (hr1, .inl (cR, 774, .inl (zA Rw)))] H locs := w
        refine z_if_ne (tgt := 24) S dX1_lowestIndex_15 (by decide) (by have := dI_9 h9 i; omega) (fun h15 => ?_) (fun h15 => ?_)
        · skip
          refine lv_iload_n S.1 S.2.1 dX1_lowestIndex_24 rfl (lv_at hl 1 rfl) ?_
          have k2_ : (0 ≤ (i : Int) ∧ (i : Int) ≤ cnt) ∧ (∀ j : Nat, (j : Int) < (i : Int) → Rw j = 0) ∧ ((i : Int) < cnt → Rw ((i : Int)).toNat ≠ 0) := by
            refine ⟨hi, e1, fun q => ?_⟩
            first
              | (exfalso; omega)
              | (have q4 : dI Rw i = Rw i.toNat := if_pos (by omega)
                 rw [← q4, ← p12]; exact h15)
          exact z_iret S hr hlk w (zNar_int _) () k2_ rfl dX1_lowestIndex_25
        · skip
          refine lv_iinc (v := zI (i + 1)) (lv' := [(1, .int (zI (i + 1))), (0, .ref h)]) S.1 S.2.1 dX1_lowestIndex_18 hl (k := 1) rfl (zI_add i 1) (by decide) rfl (fun ls hl => ?_)
          refine lv_goto (tgt := 2) S.1 S.2.1 dX1_lowestIndex_21 (by decide) ?_
          have k3_ : ∀ j : Nat, (j : Int) < (i + 1) → Rw j = 0 := by
            intro j q
            by_cases q2 : (j : Int) = i
            · have q3 : i.toNat = j := by omega
              have q4 : dI Rw i = Rw i.toNat := if_pos (by omega)
              rw [← q3, ← q4, ← p12]; exact h15
            · exact e1 j (by omega)
          exact ih (i + 1) (by omega) (by omega) k3_ _ _ _ w (lv_sub hl [1, 0] rfl)
  have hl : lv_has ls 2 [(0, .ref h)] := hl
  refine z_iconst S dX1_lowestIndex_0 ?_
  refine lv_istore_n (lv' := [(1, .int (zI 0)), (0, .ref h)]) S.1 S.2.1 dX1_lowestIndex_1 rfl hl (by decide) rfl (fun ls hl => ?_)
  exact lab2 _ 0 (Nat.lt_succ_self _) (by omega) (fun j q => by omega) _ _ _ w (lv_sub hl [1, 0] rfl)

set_option maxRecDepth 20000 in
theorem ln_X1_digitCount_22 : Cond.fieldLink RX1 22 "DecimalText$Worth" "count" "I" ∈ wsX1_digitCount := by decide +kernel
theorem in_X1_digitCount_X1 : ∀ w ∈ u_ws RX1 TX1 5, w ∈ wsX1_digitCount := by decide +kernel
set_option maxHeartbeats 4000000 in
set_option maxRecDepth 100000 in
theorem c_X1_digitCount (l : Launch) (D : va_G) (cL cR : ClassId) (h : Nat) (ha : Nat) (hr1 : Nat) (L : Nat → Int) (lc : Int) (Rw : Nat → Int) (cnt : Int) (dec : Int) (hcnt : 0 ≤ cnt ∧ cnt ≤ 774) (h9 : ∀ j : Nat, j < 774 → 0 ≤ Rw j ∧ Rw j ≤ 9) : zMi (T := Unit) l yX1_digitCount wsX1_digitCount ({ frames := 2, cells := 0, slots := 0, locals := 42 } : Room) D [(cL, .int), (cR, .int)] [.ref h] [(h, .inr (1, [.ref ha, .int (zI lc), .ref hr1, .int (zI cnt), .int (zI dec)])), (ha, .inl (cL, 86, .inl (zA L))), (hr1, .inl (cR, 774, .inl (zA Rw)))] (fun (z : Int) (u : Unit) => ∃ k : Int, z = cnt - k ∧ (0 ≤ k ∧ k ≤ cnt) ∧ (∀ j : Nat, (j : Int) < k → Rw j = 0) ∧ (k < cnt → Rw k.toNat ≠ 0)) (fun (u : Unit) => [(h, .inr (1, [.ref ha, .int (zI lc), .ref hr1, .int (zI cnt), .int (zI dec)])), (ha, .inl (cL, 86, .inl (zA L))), (hr1, .inl (cR, 774, .inl (zA Rw)))]) 0 0 := by
  refine zMi.of (bytes := cX1_digitCount) (nL := 1) (own := RX1) (by decide) rfl rfl (Nat.le_of_ble_eq_true rfl) ?_
  intro p e s m below meth c ls S hr hlk hnm w hl
  have hl : lv_has ls 1 [(0, .ref h)] := hl
  refine lv_aload_n S.1 S.2.1 dX1_digitCount_0 rfl (lv_at hl 0 rfl) ?_
  refine z_get (ci := 1) (C := RX1) (T := TX1) (N := 5) S w 0 rfl rfl in_X1_digitCount_X1 3 (by decide) ln_X1_digitCount_22 rfl rfl dX1_digitCount_1 ?_
  refine lv_aload_n S.1 S.2.1 dX1_digitCount_4 rfl (lv_at hl 0 rfl) ?_
  refine z_calliV (C := RX1) (n := 0) (As := []) (rest := [.int (zI cnt)]) (wr := []) (wn := (fun (u : Unit) => [(h, .inr (1, [.ref ha, .int (zI lc), .ref hr1, .int (zI cnt), .int (zI dec)])), (ha, .inl (cL, 86, .inl (zA L))), (hr1, .inl (cR, 774, .inl (zA Rw)))])) S w (c_X1_lowestIndex l D cL cR h ha hr1 L lc Rw cnt dec (by omega) h9) gX1_digitCount_X1_lowestIndex (by decide +kernel) rfl ⟨rfl, rfl⟩ ⟨Nat.le_of_ble_eq_true rfl, Nat.le_of_ble_eq_true rfl⟩ [0, 1] [0, 1, 2] [] [0, 1, 2] rfl rfl rfl rfl rfl (by decide) (fun u => rfl) rfl rfl rfl rfl rfl hl.1 (Nat.le_of_ble_eq_true rfl) ⟨Nat.le_of_ble_eq_true rfl, Nat.le_of_ble_eq_true rfl⟩ rfl dX1_digitCount_5 (fun z5 _ H locs p5 w => ?_)
  have p5 : (0 ≤ z5 ∧ z5 ≤ cnt) ∧ (∀ j : Nat, (j : Int) < z5 → Rw j = 0) ∧ (z5 < cnt → Rw (z5).toNat ≠ 0) := p5
  have w : zW D _ _ s [(h, .inr (1, [.ref ha, .int (zI lc), .ref hr1, .int (zI cnt), .int (zI dec)])), (ha, .inl (cL, 86, .inl (zA L))), (hr1, .inl (cR, 774, .inl (zA Rw)))] H locs := w
  refine z_isub S dX1_digitCount_8 ?_
  exact z_iret S hr hlk w (zNar_int _) () ⟨z5, rfl, p5⟩ rfl dX1_digitCount_9

set_option maxRecDepth 20000 in
theorem ln_X1_highestPower_22 : Cond.fieldLink RX1 22 "DecimalText$Worth" "count" "I" ∈ wsX1_highestPower := by decide +kernel
theorem in_X1_highestPower_X1 : ∀ w ∈ u_ws RX1 TX1 5, w ∈ wsX1_highestPower := by decide +kernel
set_option maxRecDepth 20000 in
theorem ln_X1_highestPower_25 : Cond.fieldLink RX1 25 "DecimalText$Worth" "decimals" "I" ∈ wsX1_highestPower := by decide +kernel
set_option maxHeartbeats 4000000 in
set_option maxRecDepth 100000 in
theorem c_X1_highestPower (l : Launch) (D : va_G) (cL cR : ClassId) (h : Nat) (ha : Nat) (hr1 : Nat) (L : Nat → Int) (lc : Int) (Rw : Nat → Int) (cnt : Int) (dec : Int) (hcnt : 0 ≤ cnt ∧ cnt ≤ 774) (hdec : 0 ≤ dec ∧ dec ≤ 1074) : zMi (T := Unit) l yX1_highestPower wsX1_highestPower ({ frames := 0, cells := 0, slots := 0, locals := 0 } : Room) D [(cL, .int), (cR, .int)] [.ref h] [(h, .inr (1, [.ref ha, .int (zI lc), .ref hr1, .int (zI cnt), .int (zI dec)])), (ha, .inl (cL, 86, .inl (zA L))), (hr1, .inl (cR, 774, .inl (zA Rw)))] (fun (z : Int) (u : Unit) => z = (if cnt = 0 then 0 else cnt - 1 - dec)) (fun (u : Unit) => [(h, .inr (1, [.ref ha, .int (zI lc), .ref hr1, .int (zI cnt), .int (zI dec)])), (ha, .inl (cL, 86, .inl (zA L))), (hr1, .inl (cR, 774, .inl (zA Rw)))]) 0 0 := by
  refine zMi.of (bytes := cX1_highestPower) (nL := 1) (own := RX1) (by decide) rfl rfl (Nat.le_of_ble_eq_true rfl) ?_
  intro p e s m below meth c ls S hr hlk hnm w hl
  have hl : lv_has ls 1 [(0, .ref h)] := hl
  refine lv_aload_n S.1 S.2.1 dX1_highestPower_0 rfl (lv_at hl 0 rfl) ?_
  refine z_get (ci := 1) (C := RX1) (T := TX1) (N := 5) S w 0 rfl rfl in_X1_highestPower_X1 3 (by decide) ln_X1_highestPower_22 rfl rfl dX1_highestPower_1 ?_
  refine z_if_ne (tgt := 11) S dX1_highestPower_4 (by decide) (by omega) (fun h4 => ?_) (fun h4 => ?_)
  · skip
    refine lv_aload_n S.1 S.2.1 dX1_highestPower_11 rfl (lv_at hl 0 rfl) ?_
    refine z_get (ci := 1) (C := RX1) (T := TX1) (N := 5) S w 0 rfl rfl in_X1_highestPower_X1 3 (by decide) ln_X1_highestPower_22 rfl rfl dX1_highestPower_12 ?_
    refine z_iconst S dX1_highestPower_15 ?_
    refine z_isub S dX1_highestPower_16 ?_
    refine lv_aload_n S.1 S.2.1 dX1_highestPower_17 rfl (lv_at hl 0 rfl) ?_
    refine z_get (ci := 1) (C := RX1) (T := TX1) (N := 5) S w 0 rfl rfl in_X1_highestPower_X1 4 (by decide) ln_X1_highestPower_25 rfl rfl dX1_highestPower_18 ?_
    refine z_isub S dX1_highestPower_21 ?_
    have k1_ : ((cnt - 1) - dec : Int) = (if cnt = 0 then 0 else cnt - 1 - dec) := by
      rw [if_neg (by omega)]
    exact z_iret S hr hlk w (zNar_int _) () k1_ rfl dX1_highestPower_22
  · skip
    refine z_iconst S dX1_highestPower_7 ?_
    refine lv_goto (tgt := 22) S.1 S.2.1 dX1_highestPower_8 (by decide) ?_
    have k2_ : (0 : Int) = (if cnt = 0 then 0 else cnt - 1 - dec) := by
      rw [if_pos (by omega)]
    exact z_iret S hr hlk w (zNar_int _) () k2_ rfl dX1_highestPower_22

set_option maxRecDepth 20000 in
theorem ln_X1_digitOf_25 : Cond.fieldLink RX1 25 "DecimalText$Worth" "decimals" "I" ∈ wsX1_digitOf := by decide +kernel
theorem in_X1_digitOf_X1 : ∀ w ∈ u_ws RX1 TX1 5, w ∈ wsX1_digitOf := by decide +kernel
set_option maxHeartbeats 4000000 in
set_option maxRecDepth 100000 in
theorem c_X1_digitOf (l : Launch) (D : va_G) (cL cR : ClassId) (h : Nat) (ha : Nat) (hr1 : Nat) (L : Nat → Int) (lc : Int) (Rw : Nat → Int) (cnt : Int) (dec : Int) (po : Int) (hpo : -2000 ≤ po ∧ po ≤ 2000) (hdec : 0 ≤ dec ∧ dec ≤ 1074) : zMi (T := Unit) l yX1_digitOf wsX1_digitOf ({ frames := 1, cells := 0, slots := 0, locals := 21 } : Room) D [(cL, .int), (cR, .int)] [.ref h, .int (zI po)] [(h, .inr (1, [.ref ha, .int (zI lc), .ref hr1, .int (zI cnt), .int (zI dec)])), (ha, .inl (cL, 86, .inl (zA L))), (hr1, .inl (cR, 774, .inl (zA Rw)))] (fun (z : Int) (u : Unit) => z = dI Rw (po + dec)) (fun (u : Unit) => [(h, .inr (1, [.ref ha, .int (zI lc), .ref hr1, .int (zI cnt), .int (zI dec)])), (ha, .inl (cL, 86, .inl (zA L))), (hr1, .inl (cR, 774, .inl (zA Rw)))]) 0 0 := by
  refine zMi.of (bytes := cX1_digitOf) (nL := 2) (own := RX1) (by decide) rfl rfl (Nat.le_of_ble_eq_true rfl) ?_
  intro p e s m below meth c ls S hr hlk hnm w hl
  have hl : lv_has ls 2 [(0, .ref h), (1, .int (zI po))] := hl
  refine lv_aload_n S.1 S.2.1 dX1_digitOf_0 rfl (lv_at hl 0 rfl) ?_
  refine lv_iload_n S.1 S.2.1 dX1_digitOf_1 rfl (lv_at hl 1 rfl) ?_
  refine lv_aload_n S.1 S.2.1 dX1_digitOf_2 rfl (lv_at hl 0 rfl) ?_
  refine z_get (ci := 1) (C := RX1) (T := TX1) (N := 5) S w 0 rfl rfl in_X1_digitOf_X1 4 (by decide) ln_X1_digitOf_25 rfl rfl dX1_digitOf_3 ?_
  refine z_iadd S dX1_digitOf_6 ?_
  refine z_calliV (C := RX1) (n := 1) (As := [.int (zI (po + dec))]) (rest := []) (wr := []) (wn := (fun (u : Unit) => [(h, .inr (1, [.ref ha, .int (zI lc), .ref hr1, .int (zI cnt), .int (zI dec)])), (ha, .inl (cL, 86, .inl (zA L))), (hr1, .inl (cR, 774, .inl (zA Rw)))])) S w (c_X1_digitIn l D cL cR h ha hr1 L lc Rw cnt dec (po + dec) (by omega)) gX1_digitOf_X1_digitIn (by decide +kernel) rfl ⟨rfl, rfl⟩ ⟨Nat.le_of_ble_eq_true rfl, Nat.le_of_ble_eq_true rfl⟩ [0, 1] [0, 1, 2] [] [0, 1, 2] rfl rfl rfl rfl rfl (by decide) (fun u => rfl) rfl rfl rfl rfl rfl hl.1 (Nat.le_of_ble_eq_true rfl) ⟨Nat.le_of_ble_eq_true rfl, Nat.le_of_ble_eq_true rfl⟩ rfl dX1_digitOf_7 (fun z7 _ H locs p7 w => ?_)
  have p7 : z7 = dI Rw (po + dec) := p7
  have w : zW D _ _ s [(h, .inr (1, [.ref ha, .int (zI lc), .ref hr1, .int (zI cnt), .int (zI dec)])), (ha, .inl (cL, 86, .inl (zA L))), (hr1, .inl (cR, 774, .inl (zA Rw)))] H locs := w
  exact z_iret S hr hlk w (zNar_int _) () p7 rfl dX1_digitOf_10

set_option maxHeartbeats 4000000 in
set_option maxRecDepth 100000 in
theorem c_X1_isNearerAbove (l : Launch) (D : va_G) (cL cR : ClassId) (h : Nat) (ha : Nat) (hr1 : Nat) (L : Nat → Int) (lc : Int) (Rw : Nat → Int) (cnt : Int) (dec : Int) (cut : Int) (hcut : 0 < cut ∧ cut ≤ 3000) (hcnt : 0 ≤ cnt ∧ cnt ≤ 774) (h9 : ∀ j : Nat, j < 774 → 0 ≤ Rw j ∧ Rw j ≤ 9) (hz : ∀ j : Nat, cnt ≤ (j : Int) → j < 774 → Rw j = 0) : zMi (T := Unit) l yX1_isNearerAbove wsX1_isNearerAbove ({ frames := 2, cells := 0, slots := 0, locals := 42 } : Room) D [(cL, .int), (cR, .int)] [.ref h, .int (zI cut)] [(h, .inr (1, [.ref ha, .int (zI lc), .ref hr1, .int (zI cnt), .int (zI dec)])), (ha, .inl (cL, 86, .inl (zA L))), (hr1, .inl (cR, 774, .inl (zA Rw)))] (fun (z : Int) (u : Unit) => (z = 1 ∧ (5 < dI Rw (cut - 1) ∨ (dI Rw (cut - 1) = 5 ∧ ((∃ j : Nat, (j : Int) < cut - 1 ∧ Rw j ≠ 0) ∨ dI Rw cut % 2 = 1)))) ∨ (z = 0 ∧ ¬ (5 < dI Rw (cut - 1) ∨ (dI Rw (cut - 1) = 5 ∧ ((∃ j : Nat, (j : Int) < cut - 1 ∧ Rw j ≠ 0) ∨ dI Rw cut % 2 = 1))))) (fun (u : Unit) => [(h, .inr (1, [.ref ha, .int (zI lc), .ref hr1, .int (zI cnt), .int (zI dec)])), (ha, .inl (cL, 86, .inl (zA L))), (hr1, .inl (cR, 774, .inl (zA Rw)))]) 0 0 := by
  refine zMi.of (bytes := cX1_isNearerAbove) (nL := 4) (own := RX1) (by decide) rfl rfl (Nat.le_of_ble_eq_true rfl) ?_
  intro p e s m below meth c ls S hr hlk hnm w hl
  have hl : lv_has ls 4 [(0, .ref h), (1, .int (zI cut))] := hl
  refine lv_aload_n S.1 S.2.1 dX1_isNearerAbove_0 rfl (lv_at hl 0 rfl) ?_
  refine lv_iload_n S.1 S.2.1 dX1_isNearerAbove_1 rfl (lv_at hl 1 rfl) ?_
  refine z_iconst S dX1_isNearerAbove_2 ?_
  refine z_isub S dX1_isNearerAbove_3 ?_
  refine z_calliV (C := RX1) (n := 1) (As := [.int (zI (cut - 1))]) (rest := []) (wr := []) (wn := (fun (u : Unit) => [(h, .inr (1, [.ref ha, .int (zI lc), .ref hr1, .int (zI cnt), .int (zI dec)])), (ha, .inl (cL, 86, .inl (zA L))), (hr1, .inl (cR, 774, .inl (zA Rw)))])) S w (c_X1_digitIn l D cL cR h ha hr1 L lc Rw cnt dec (cut - 1) (by omega)) gX1_isNearerAbove_X1_digitIn (by decide +kernel) rfl ⟨rfl, rfl⟩ ⟨Nat.le_of_ble_eq_true rfl, Nat.le_of_ble_eq_true rfl⟩ [0, 1] [0, 1, 2] [] [0, 1, 2] rfl rfl rfl rfl rfl (by decide) (fun u => rfl) rfl rfl rfl rfl rfl hl.1 (Nat.le_of_ble_eq_true rfl) ⟨Nat.le_of_ble_eq_true rfl, Nat.le_of_ble_eq_true rfl⟩ rfl dX1_isNearerAbove_4 (fun z4 _ H locs p4 w => ?_)
  have p4 : z4 = dI Rw (cut - 1) := p4
  have w : zW D _ _ s [(h, .inr (1, [.ref ha, .int (zI lc), .ref hr1, .int (zI cnt), .int (zI dec)])), (ha, .inl (cL, 86, .inl (zA L))), (hr1, .inl (cR, 774, .inl (zA Rw)))] H locs := w
  have b4 := dI_9 h9 (cut - 1)
  rw [← p4] at b4
  refine lv_istore_n (lv' := [(2, .int (zI z4)), (0, .ref h), (1, .int (zI cut))]) S.1 S.2.1 dX1_isNearerAbove_7 rfl hl (by decide) rfl (fun ls hl => ?_)
  refine lv_iload_n S.1 S.2.1 dX1_isNearerAbove_8 rfl (lv_at hl 0 rfl) ?_
  refine z_iconst S dX1_isNearerAbove_9 ?_
  refine z_icmp_eq (tgt := 24) S dX1_isNearerAbove_10 (by decide) (by omega) (by omega) (fun h10 => ?_) (fun h10 => ?_)
  · skip
    refine lv_aload_n S.1 S.2.1 dX1_isNearerAbove_24 rfl (lv_at hl 1 rfl) ?_
    refine z_calliV (C := RX1) (n := 0) (As := []) (rest := []) (wr := []) (wn := (fun (u : Unit) => [(h, .inr (1, [.ref ha, .int (zI lc), .ref hr1, .int (zI cnt), .int (zI dec)])), (ha, .inl (cL, 86, .inl (zA L))), (hr1, .inl (cR, 774, .inl (zA Rw)))])) S w (c_X1_lowestIndex l D cL cR h ha hr1 L lc Rw cnt dec (by omega) h9) gX1_isNearerAbove_X1_lowestIndex (by decide +kernel) rfl ⟨rfl, rfl⟩ ⟨Nat.le_of_ble_eq_true rfl, Nat.le_of_ble_eq_true rfl⟩ [0, 1] [0, 1, 2] [] [0, 1, 2] rfl rfl rfl rfl rfl (by decide) (fun u => rfl) rfl rfl rfl rfl rfl hl.1 (Nat.le_of_ble_eq_true rfl) ⟨Nat.le_of_ble_eq_true rfl, Nat.le_of_ble_eq_true rfl⟩ rfl dX1_isNearerAbove_25 (fun z25 _ H locs p25 w => ?_)
    have p25 : (0 ≤ z25 ∧ z25 ≤ cnt) ∧ (∀ j : Nat, (j : Int) < z25 → Rw j = 0) ∧ (z25 < cnt → Rw (z25).toNat ≠ 0) := p25
    have w : zW D _ _ s [(h, .inr (1, [.ref ha, .int (zI lc), .ref hr1, .int (zI cnt), .int (zI dec)])), (ha, .inl (cL, 86, .inl (zA L))), (hr1, .inl (cR, 774, .inl (zA Rw)))] H locs := w
    obtain ⟨l1, l2, l3⟩ := p25
    refine lv_iload_n S.1 S.2.1 dX1_isNearerAbove_28 rfl (lv_at hl 2 rfl) ?_
    refine z_iconst S dX1_isNearerAbove_29 ?_
    refine z_isub S dX1_isNearerAbove_30 ?_
    refine z_icmp_ne (tgt := 38) S dX1_isNearerAbove_31 (by decide) (by omega) (by omega) (fun h31 => ?_) (fun h31 => ?_)
    · skip
      refine z_iconst S dX1_isNearerAbove_38 ?_
      refine lv_istore_n (lv' := [(3, .int (zI 0)), (2, .int (zI z4)), (0, .ref h), (1, .int (zI cut))]) S.1 S.2.1 dX1_isNearerAbove_39 rfl hl (by decide) rfl (fun ls hl => ?_)
      refine lv_iload_n S.1 S.2.1 dX1_isNearerAbove_40 rfl (lv_at hl 0 rfl) ?_
      refine z_if_eq (tgt := 55) S dX1_isNearerAbove_41 (by decide) (by omega) (fun h41 => ?_) (fun h41 => ?_)
      · skip
        refine z_iconst S dX1_isNearerAbove_55 ?_
        refine lv_goto (tgt := 60) S.1 S.2.1 dX1_isNearerAbove_56 (by decide) ?_
        have k1_ : ((1 : Int) = 1 ∧ (5 < dI Rw (cut - 1) ∨ (dI Rw (cut - 1) = 5 ∧ ((∃ j : Nat, (j : Int) < cut - 1 ∧ Rw j ≠ 0) ∨ dI Rw cut % 2 = 1)))) ∨ ((1 : Int) = 0 ∧ ¬ (5 < dI Rw (cut - 1) ∨ (dI Rw (cut - 1) = 5 ∧ ((∃ j : Nat, (j : Int) < cut - 1 ∧ Rw j ≠ 0) ∨ dI Rw cut % 2 = 1)))) := by
          have q : dI Rw (cut - 1) = 5 := by omega
          have qi : (cut - 1).toNat < 774 ∧ Rw (cut - 1).toNat = 5 := by
            unfold dI at q
            by_cases k : 0 ≤ cut - 1 ∧ cut - 1 < 774
            · rw [if_pos k] at q; exact ⟨by omega, q⟩
            · rw [if_neg k] at q; omega
          rw [q]
          first
            | (refine Or.inl ⟨rfl, Or.inr ⟨rfl, Or.inr ?_⟩⟩; rw [← p46]; omega)
            | (refine Or.inr ⟨rfl, fun k => ?_⟩
               rcases k with k | ⟨-, ⟨j, k1, k2⟩ | k⟩
               · omega
               · exact k2 (l2 j (by omega))
               · rw [← p46] at k; omega)
            | (refine Or.inl ⟨rfl, Or.inr ⟨rfl, Or.inl ?_⟩⟩
               have k1 : z25 < cnt := by
                 apply Int.not_le.mp
                 intro k1
                 have k2 : (cut - 1) < cnt := by
                   apply Int.not_le.mp
                   intro k2
                   have := hz (cut - 1).toNat (by omega) qi.1
                   omega
                 have := l2 (cut - 1).toNat (by omega)
                 omega
               have k3 : z25 < cut - 1 := by
                 apply Int.not_le.mp
                 intro k4
                 have := l2 (cut - 1).toNat (by omega)
                 omega
               exact ⟨z25.toNat, by omega, l3 k1⟩)
        exact z_iret S hr hlk w zNar_b1 () k1_ rfl dX1_isNearerAbove_60
      · skip
        refine lv_aload_n S.1 S.2.1 dX1_isNearerAbove_44 rfl (lv_at hl 2 rfl) ?_
        refine lv_iload_n S.1 S.2.1 dX1_isNearerAbove_45 rfl (lv_at hl 3 rfl) ?_
        refine z_calliV (C := RX1) (n := 1) (As := [.int (zI cut)]) (rest := []) (wr := []) (wn := (fun (u : Unit) => [(h, .inr (1, [.ref ha, .int (zI lc), .ref hr1, .int (zI cnt), .int (zI dec)])), (ha, .inl (cL, 86, .inl (zA L))), (hr1, .inl (cR, 774, .inl (zA Rw)))])) S w (c_X1_digitIn l D cL cR h ha hr1 L lc Rw cnt dec cut (by omega)) gX1_isNearerAbove_X1_digitIn (by decide +kernel) rfl ⟨rfl, rfl⟩ ⟨Nat.le_of_ble_eq_true rfl, Nat.le_of_ble_eq_true rfl⟩ [0, 1] [0, 1, 2] [] [0, 1, 2] rfl rfl rfl rfl rfl (by decide) (fun u => rfl) rfl rfl rfl rfl rfl hl.1 (Nat.le_of_ble_eq_true rfl) ⟨Nat.le_of_ble_eq_true rfl, Nat.le_of_ble_eq_true rfl⟩ rfl dX1_isNearerAbove_46 (fun z46 _ H locs p46 w => ?_)
        have p46 : z46 = dI Rw cut := p46
        have w : zW D _ _ s [(h, .inr (1, [.ref ha, .int (zI lc), .ref hr1, .int (zI cnt), .int (zI dec)])), (ha, .inl (cL, 86, .inl (zA L))), (hr1, .inl (cR, 774, .inl (zA Rw)))] H locs := w
        have b46 := dI_9 h9 cut
        rw [← p46] at b46
        refine z_iconst S dX1_isNearerAbove_49 ?_
        refine z_irem S dX1_isNearerAbove_50 (by omega) (by omega) ?_
        refine z_iconst S dX1_isNearerAbove_51 ?_
        refine z_icmp_ne (tgt := 59) S dX1_isNearerAbove_52 (by decide) (by omega) (by omega) (fun h52 => ?_) (fun h52 => ?_)
        · skip
          refine z_iconst S dX1_isNearerAbove_59 ?_
          have k2_ : ((0 : Int) = 1 ∧ (5 < dI Rw (cut - 1) ∨ (dI Rw (cut - 1) = 5 ∧ ((∃ j : Nat, (j : Int) < cut - 1 ∧ Rw j ≠ 0) ∨ dI Rw cut % 2 = 1)))) ∨ ((0 : Int) = 0 ∧ ¬ (5 < dI Rw (cut - 1) ∨ (dI Rw (cut - 1) = 5 ∧ ((∃ j : Nat, (j : Int) < cut - 1 ∧ Rw j ≠ 0) ∨ dI Rw cut % 2 = 1)))) := by
            have q : dI Rw (cut - 1) = 5 := by omega
            have qi : (cut - 1).toNat < 774 ∧ Rw (cut - 1).toNat = 5 := by
              unfold dI at q
              by_cases k : 0 ≤ cut - 1 ∧ cut - 1 < 774
              · rw [if_pos k] at q; exact ⟨by omega, q⟩
              · rw [if_neg k] at q; omega
            rw [q]
            first
              | (refine Or.inl ⟨rfl, Or.inr ⟨rfl, Or.inr ?_⟩⟩; rw [← p46]; omega)
              | (refine Or.inr ⟨rfl, fun k => ?_⟩
                 rcases k with k | ⟨-, ⟨j, k1, k2⟩ | k⟩
                 · omega
                 · exact k2 (l2 j (by omega))
                 · rw [← p46] at k; omega)
              | (refine Or.inl ⟨rfl, Or.inr ⟨rfl, Or.inl ?_⟩⟩
                 have k1 : z25 < cnt := by
                   apply Int.not_le.mp
                   intro k1
                   have k2 : (cut - 1) < cnt := by
                     apply Int.not_le.mp
                     intro k2
                     have := hz (cut - 1).toNat (by omega) qi.1
                     omega
                   have := l2 (cut - 1).toNat (by omega)
                   omega
                 have k3 : z25 < cut - 1 := by
                   apply Int.not_le.mp
                   intro k4
                   have := l2 (cut - 1).toNat (by omega)
                   omega
                 exact ⟨z25.toNat, by omega, l3 k1⟩)
          exact z_iret S hr hlk w zNar_b0 () k2_ rfl dX1_isNearerAbove_60
        · skip
          refine z_iconst S dX1_isNearerAbove_55 ?_
          refine lv_goto (tgt := 60) S.1 S.2.1 dX1_isNearerAbove_56 (by decide) ?_
          have k3_ : ((1 : Int) = 1 ∧ (5 < dI Rw (cut - 1) ∨ (dI Rw (cut - 1) = 5 ∧ ((∃ j : Nat, (j : Int) < cut - 1 ∧ Rw j ≠ 0) ∨ dI Rw cut % 2 = 1)))) ∨ ((1 : Int) = 0 ∧ ¬ (5 < dI Rw (cut - 1) ∨ (dI Rw (cut - 1) = 5 ∧ ((∃ j : Nat, (j : Int) < cut - 1 ∧ Rw j ≠ 0) ∨ dI Rw cut % 2 = 1)))) := by
            have q : dI Rw (cut - 1) = 5 := by omega
            have qi : (cut - 1).toNat < 774 ∧ Rw (cut - 1).toNat = 5 := by
              unfold dI at q
              by_cases k : 0 ≤ cut - 1 ∧ cut - 1 < 774
              · rw [if_pos k] at q; exact ⟨by omega, q⟩
              · rw [if_neg k] at q; omega
            rw [q]
            first
              | (refine Or.inl ⟨rfl, Or.inr ⟨rfl, Or.inr ?_⟩⟩; rw [← p46]; omega)
              | (refine Or.inr ⟨rfl, fun k => ?_⟩
                 rcases k with k | ⟨-, ⟨j, k1, k2⟩ | k⟩
                 · omega
                 · exact k2 (l2 j (by omega))
                 · rw [← p46] at k; omega)
              | (refine Or.inl ⟨rfl, Or.inr ⟨rfl, Or.inl ?_⟩⟩
                 have k1 : z25 < cnt := by
                   apply Int.not_le.mp
                   intro k1
                   have k2 : (cut - 1) < cnt := by
                     apply Int.not_le.mp
                     intro k2
                     have := hz (cut - 1).toNat (by omega) qi.1
                     omega
                   have := l2 (cut - 1).toNat (by omega)
                   omega
                 have k3 : z25 < cut - 1 := by
                   apply Int.not_le.mp
                   intro k4
                   have := l2 (cut - 1).toNat (by omega)
                   omega
                 exact ⟨z25.toNat, by omega, l3 k1⟩)
          exact z_iret S hr hlk w zNar_b1 () k3_ rfl dX1_isNearerAbove_60
    · skip
      refine z_iconst S dX1_isNearerAbove_34 ?_
      refine lv_goto (tgt := 39) S.1 S.2.1 dX1_isNearerAbove_35 (by decide) ?_
      refine lv_istore_n (lv' := [(3, .int (zI 1)), (2, .int (zI z4)), (0, .ref h), (1, .int (zI cut))]) S.1 S.2.1 dX1_isNearerAbove_39 rfl hl (by decide) rfl (fun ls hl => ?_)
      refine lv_iload_n S.1 S.2.1 dX1_isNearerAbove_40 rfl (lv_at hl 0 rfl) ?_
      refine z_if_eq (tgt := 55) S dX1_isNearerAbove_41 (by decide) (by omega) (fun h41 => ?_) (fun h41 => ?_)
      · skip
        refine z_iconst S dX1_isNearerAbove_55 ?_
        refine lv_goto (tgt := 60) S.1 S.2.1 dX1_isNearerAbove_56 (by decide) ?_
        have k4_ : ((1 : Int) = 1 ∧ (5 < dI Rw (cut - 1) ∨ (dI Rw (cut - 1) = 5 ∧ ((∃ j : Nat, (j : Int) < cut - 1 ∧ Rw j ≠ 0) ∨ dI Rw cut % 2 = 1)))) ∨ ((1 : Int) = 0 ∧ ¬ (5 < dI Rw (cut - 1) ∨ (dI Rw (cut - 1) = 5 ∧ ((∃ j : Nat, (j : Int) < cut - 1 ∧ Rw j ≠ 0) ∨ dI Rw cut % 2 = 1)))) := by
          have q : dI Rw (cut - 1) = 5 := by omega
          have qi : (cut - 1).toNat < 774 ∧ Rw (cut - 1).toNat = 5 := by
            unfold dI at q
            by_cases k : 0 ≤ cut - 1 ∧ cut - 1 < 774
            · rw [if_pos k] at q; exact ⟨by omega, q⟩
            · rw [if_neg k] at q; omega
          rw [q]
          first
            | (refine Or.inl ⟨rfl, Or.inr ⟨rfl, Or.inr ?_⟩⟩; rw [← p46]; omega)
            | (refine Or.inr ⟨rfl, fun k => ?_⟩
               rcases k with k | ⟨-, ⟨j, k1, k2⟩ | k⟩
               · omega
               · exact k2 (l2 j (by omega))
               · rw [← p46] at k; omega)
            | (refine Or.inl ⟨rfl, Or.inr ⟨rfl, Or.inl ?_⟩⟩
               have k1 : z25 < cnt := by
                 apply Int.not_le.mp
                 intro k1
                 have k2 : (cut - 1) < cnt := by
                   apply Int.not_le.mp
                   intro k2
                   have := hz (cut - 1).toNat (by omega) qi.1
                   omega
                 have := l2 (cut - 1).toNat (by omega)
                 omega
               have k3 : z25 < cut - 1 := by
                 apply Int.not_le.mp
                 intro k4
                 have := l2 (cut - 1).toNat (by omega)
                 omega
               exact ⟨z25.toNat, by omega, l3 k1⟩)
        exact z_iret S hr hlk w zNar_b1 () k4_ rfl dX1_isNearerAbove_60
      · skip
        refine lv_aload_n S.1 S.2.1 dX1_isNearerAbove_44 rfl (lv_at hl 2 rfl) ?_
        refine lv_iload_n S.1 S.2.1 dX1_isNearerAbove_45 rfl (lv_at hl 3 rfl) ?_
        refine z_calliV (C := RX1) (n := 1) (As := [.int (zI cut)]) (rest := []) (wr := []) (wn := (fun (u : Unit) => [(h, .inr (1, [.ref ha, .int (zI lc), .ref hr1, .int (zI cnt), .int (zI dec)])), (ha, .inl (cL, 86, .inl (zA L))), (hr1, .inl (cR, 774, .inl (zA Rw)))])) S w (c_X1_digitIn l D cL cR h ha hr1 L lc Rw cnt dec cut (by omega)) gX1_isNearerAbove_X1_digitIn (by decide +kernel) rfl ⟨rfl, rfl⟩ ⟨Nat.le_of_ble_eq_true rfl, Nat.le_of_ble_eq_true rfl⟩ [0, 1] [0, 1, 2] [] [0, 1, 2] rfl rfl rfl rfl rfl (by decide) (fun u => rfl) rfl rfl rfl rfl rfl hl.1 (Nat.le_of_ble_eq_true rfl) ⟨Nat.le_of_ble_eq_true rfl, Nat.le_of_ble_eq_true rfl⟩ rfl dX1_isNearerAbove_46 (fun z46 _ H locs p46 w => ?_)
        have p46 : z46 = dI Rw cut := p46
        have w : zW D _ _ s [(h, .inr (1, [.ref ha, .int (zI lc), .ref hr1, .int (zI cnt), .int (zI dec)])), (ha, .inl (cL, 86, .inl (zA L))), (hr1, .inl (cR, 774, .inl (zA Rw)))] H locs := w
        have b46 := dI_9 h9 cut
        rw [← p46] at b46
        refine z_iconst S dX1_isNearerAbove_49 ?_
        refine z_irem S dX1_isNearerAbove_50 (by omega) (by omega) ?_
        refine z_iconst S dX1_isNearerAbove_51 ?_
        refine z_icmp_ne (tgt := 59) S dX1_isNearerAbove_52 (by decide) (by omega) (by omega) (fun h52 => ?_) (fun h52 => ?_)
        · skip
          refine z_iconst S dX1_isNearerAbove_59 ?_
          have k5_ : ((0 : Int) = 1 ∧ (5 < dI Rw (cut - 1) ∨ (dI Rw (cut - 1) = 5 ∧ ((∃ j : Nat, (j : Int) < cut - 1 ∧ Rw j ≠ 0) ∨ dI Rw cut % 2 = 1)))) ∨ ((0 : Int) = 0 ∧ ¬ (5 < dI Rw (cut - 1) ∨ (dI Rw (cut - 1) = 5 ∧ ((∃ j : Nat, (j : Int) < cut - 1 ∧ Rw j ≠ 0) ∨ dI Rw cut % 2 = 1)))) := by
            have q : dI Rw (cut - 1) = 5 := by omega
            have qi : (cut - 1).toNat < 774 ∧ Rw (cut - 1).toNat = 5 := by
              unfold dI at q
              by_cases k : 0 ≤ cut - 1 ∧ cut - 1 < 774
              · rw [if_pos k] at q; exact ⟨by omega, q⟩
              · rw [if_neg k] at q; omega
            rw [q]
            first
              | (refine Or.inl ⟨rfl, Or.inr ⟨rfl, Or.inr ?_⟩⟩; rw [← p46]; omega)
              | (refine Or.inr ⟨rfl, fun k => ?_⟩
                 rcases k with k | ⟨-, ⟨j, k1, k2⟩ | k⟩
                 · omega
                 · exact k2 (l2 j (by omega))
                 · rw [← p46] at k; omega)
              | (refine Or.inl ⟨rfl, Or.inr ⟨rfl, Or.inl ?_⟩⟩
                 have k1 : z25 < cnt := by
                   apply Int.not_le.mp
                   intro k1
                   have k2 : (cut - 1) < cnt := by
                     apply Int.not_le.mp
                     intro k2
                     have := hz (cut - 1).toNat (by omega) qi.1
                     omega
                   have := l2 (cut - 1).toNat (by omega)
                   omega
                 have k3 : z25 < cut - 1 := by
                   apply Int.not_le.mp
                   intro k4
                   have := l2 (cut - 1).toNat (by omega)
                   omega
                 exact ⟨z25.toNat, by omega, l3 k1⟩)
          exact z_iret S hr hlk w zNar_b0 () k5_ rfl dX1_isNearerAbove_60
        · skip
          refine z_iconst S dX1_isNearerAbove_55 ?_
          refine lv_goto (tgt := 60) S.1 S.2.1 dX1_isNearerAbove_56 (by decide) ?_
          have k6_ : ((1 : Int) = 1 ∧ (5 < dI Rw (cut - 1) ∨ (dI Rw (cut - 1) = 5 ∧ ((∃ j : Nat, (j : Int) < cut - 1 ∧ Rw j ≠ 0) ∨ dI Rw cut % 2 = 1)))) ∨ ((1 : Int) = 0 ∧ ¬ (5 < dI Rw (cut - 1) ∨ (dI Rw (cut - 1) = 5 ∧ ((∃ j : Nat, (j : Int) < cut - 1 ∧ Rw j ≠ 0) ∨ dI Rw cut % 2 = 1)))) := by
            have q : dI Rw (cut - 1) = 5 := by omega
            have qi : (cut - 1).toNat < 774 ∧ Rw (cut - 1).toNat = 5 := by
              unfold dI at q
              by_cases k : 0 ≤ cut - 1 ∧ cut - 1 < 774
              · rw [if_pos k] at q; exact ⟨by omega, q⟩
              · rw [if_neg k] at q; omega
            rw [q]
            first
              | (refine Or.inl ⟨rfl, Or.inr ⟨rfl, Or.inr ?_⟩⟩; rw [← p46]; omega)
              | (refine Or.inr ⟨rfl, fun k => ?_⟩
                 rcases k with k | ⟨-, ⟨j, k1, k2⟩ | k⟩
                 · omega
                 · exact k2 (l2 j (by omega))
                 · rw [← p46] at k; omega)
              | (refine Or.inl ⟨rfl, Or.inr ⟨rfl, Or.inl ?_⟩⟩
                 have k1 : z25 < cnt := by
                   apply Int.not_le.mp
                   intro k1
                   have k2 : (cut - 1) < cnt := by
                     apply Int.not_le.mp
                     intro k2
                     have := hz (cut - 1).toNat (by omega) qi.1
                     omega
                   have := l2 (cut - 1).toNat (by omega)
                   omega
                 have k3 : z25 < cut - 1 := by
                   apply Int.not_le.mp
                   intro k4
                   have := l2 (cut - 1).toNat (by omega)
                   omega
                 exact ⟨z25.toNat, by omega, l3 k1⟩)
          exact z_iret S hr hlk w zNar_b1 () k6_ rfl dX1_isNearerAbove_60
  · skip
    refine lv_iload_n S.1 S.2.1 dX1_isNearerAbove_13 rfl (lv_at hl 0 rfl) ?_
    refine z_iconst S dX1_isNearerAbove_14 ?_
    refine z_icmp_le (tgt := 22) S dX1_isNearerAbove_15 (by decide) (by omega) (by omega) (fun h15 => ?_) (fun h15 => ?_)
    · skip
      refine z_iconst S dX1_isNearerAbove_22 ?_
      have k7_ : ((0 : Int) = 1 ∧ (5 < dI Rw (cut - 1) ∨ (dI Rw (cut - 1) = 5 ∧ ((∃ j : Nat, (j : Int) < cut - 1 ∧ Rw j ≠ 0) ∨ dI Rw cut % 2 = 1)))) ∨ ((0 : Int) = 0 ∧ ¬ (5 < dI Rw (cut - 1) ∨ (dI Rw (cut - 1) = 5 ∧ ((∃ j : Nat, (j : Int) < cut - 1 ∧ Rw j ≠ 0) ∨ dI Rw cut % 2 = 1)))) := by
        have q : dI Rw (cut - 1) = z4 := p4.symm
        rw [q]
        first
          | exact Or.inl ⟨rfl, Or.inl (by omega)⟩
          | exact Or.inr ⟨rfl, fun k => by rcases k with k | k <;> omega⟩
      exact z_iret S hr hlk w zNar_b0 () k7_ rfl dX1_isNearerAbove_23
    · skip
      refine z_iconst S dX1_isNearerAbove_18 ?_
      refine lv_goto (tgt := 23) S.1 S.2.1 dX1_isNearerAbove_19 (by decide) ?_
      have k8_ : ((1 : Int) = 1 ∧ (5 < dI Rw (cut - 1) ∨ (dI Rw (cut - 1) = 5 ∧ ((∃ j : Nat, (j : Int) < cut - 1 ∧ Rw j ≠ 0) ∨ dI Rw cut % 2 = 1)))) ∨ ((1 : Int) = 0 ∧ ¬ (5 < dI Rw (cut - 1) ∨ (dI Rw (cut - 1) = 5 ∧ ((∃ j : Nat, (j : Int) < cut - 1 ∧ Rw j ≠ 0) ∨ dI Rw cut % 2 = 1)))) := by
        have q : dI Rw (cut - 1) = z4 := p4.symm
        rw [q]
        first
          | exact Or.inl ⟨rfl, Or.inl (by omega)⟩
          | exact Or.inr ⟨rfl, fun k => by rcases k with k | k <;> omega⟩
      exact z_iret S hr hlk w zNar_b1 () k8_ rfl dX1_isNearerAbove_23

set_option maxRecDepth 20000 in
theorem ln_X1_addOneAt_19 : Cond.fieldLink RX1 19 "DecimalText$Worth" "row" "[I" ∈ wsX1_addOneAt := by decide +kernel
theorem in_X1_addOneAt_X1 : ∀ w ∈ u_ws RX1 TX1 5, w ∈ wsX1_addOneAt := by decide +kernel
set_option maxRecDepth 20000 in
theorem ln_X1_addOneAt_22 : Cond.fieldLink RX1 22 "DecimalText$Worth" "count" "I" ∈ wsX1_addOneAt := by decide +kernel
set_option maxRecDepth 20000 in
theorem ml_X1_addOneAt_50 : Cond.methodLink RX1 50 Lib.Math.max.name ∈ wsX1_addOneAt := by decide +kernel
set_option maxRecDepth 20000 in
theorem st_X1_addOneAt_max : Cond.static Lib.Math.max.name ∈ wsX1_addOneAt := by decide +kernel
set_option maxRecDepth 20000 in
theorem ini_X1_addOneAt_Math : Cond.initialized "java/lang/Math" ∈ wsX1_addOneAt := by decide +kernel
set_option maxRecDepth 20000 in
theorem co_X1_addOneAt_max : Cond.code Lib.Math.max.name Lib.Math.max.code 2 (some .int) ∈ wsX1_addOneAt := by decide +kernel
set_option maxHeartbeats 4000000 in
set_option maxRecDepth 100000 in
theorem c_X1_addOneAt (l : Launch) (D : va_G) (cL cR : ClassId) (h : Nat) (ha : Nat) (hr1 : Nat) (L : Nat → Int) (lc : Int) (Rw : Nat → Int) (cnt : Int) (dec : Int) (i0 : Int) (hi0 : 0 ≤ i0 ∧ i0 ≤ 3000) (hcnt : 0 ≤ cnt ∧ cnt ≤ 774) (h9 : ∀ j : Nat, j < 774 → 0 ≤ Rw j ∧ Rw j ≤ 9) : zMv (T := (Nat → Int) × Int) l yX1_addOneAt wsX1_addOneAt ({ frames := 1, cells := 0, slots := 0, locals := 21 } : Room) D [(cL, .int), (cR, .int)] [.ref h, .int (zI i0)] [(h, .inr (1, [.ref ha, .int (zI lc), .ref hr1, .int (zI cnt), .int (zI dec)])), (ha, .inl (cL, 86, .inl (zA L))), (hr1, .inl (cR, 774, .inl (zA Rw)))] (fun (u : (Nat → Int) × Int) => ∃ k : Int, (i0 ≤ k) ∧ (∀ j : Nat, i0 ≤ (j : Int) → (j : Int) < k → j < 774 → Rw j = 9 ∧ u.1 j = 0) ∧ (∀ j : Nat, (j : Int) < i0 → u.1 j = Rw j) ∧ (∀ j : Nat, k < (j : Int) → u.1 j = Rw j) ∧ (k < 774 → Rw k.toNat ≠ 9 ∧ u.1 k.toNat = Rw k.toNat + 1 ∧ ((cnt < k + 1 ∧ u.2 = k + 1) ∨ (k + 1 ≤ cnt ∧ u.2 = cnt))) ∧ (774 ≤ k → u.2 = cnt ∧ (i0 ≤ 774 → k = 774))) (fun (u : (Nat → Int) × Int) => [(h, .inr (1, [.ref ha, .int (zI lc), .ref hr1, .int (zI u.2), .int (zI dec)])), (ha, .inl (cL, 86, .inl (zA L))), (hr1, .inl (cR, 774, .inl (zA u.1)))]) 0 0 := by
  refine zMv.of (bytes := cX1_addOneAt) (nL := 3) (own := RX1) (by decide) rfl rfl (Nat.le_of_ble_eq_true rfl) ?_
  intro p e s m below meth c ls S hr hlk hnm w hl
  have lab2 : ∀ (nf_ : Nat) (R1 : Nat → Int) (i : Int), (774 - i).toNat < nf_ → (i0 ≤ i ∧ (i ≤ 774 ∨ i = i0)) → (∀ j : Nat, i0 ≤ (j : Int) → (j : Int) < i → j < 774 → Rw j = 9 ∧ R1 j = 0) → (∀ j : Nat, (j : Int) < i0 → R1 j = Rw j) → (∀ j : Nat, i ≤ (j : Int) → R1 j = Rw j) → ∀ (H : Heap) (locs : List Loc) (ls : Array Slot), zW D [(cL, .int), (cR, .int)] (va_A [(h, .inr (1, [.ref ha, .int (zI lc), .ref hr1, .int (zI cnt), .int (zI dec)])), (ha, .inl (cL, 86, .inl (zA L))), (hr1, .inl (cR, 774, .inl (zA Rw)))] s.heap.size) s [(h, .inr (1, [.ref ha, .int (zI lc), .ref hr1, .int (zI cnt), .int (zI dec)])), (ha, .inl (cL, 86, .inl (zA L))), (hr1, .inl (cR, 774, .inl (zA R1)))] H locs → lv_has ls 3 [(0, .ref h), (2, .int (zI i))] → W p l e ({ frames := 1, cells := 0, slots := 0, locals := 21 } : Room) s m ([.ref h, .int (zI i0)] : List Value).toArray below meth c H locs 0 0 (MQ below (zQv D [(cL, .int), (cR, .int)] [(h, .inr (1, [.ref ha, .int (zI lc), .ref hr1, .int (zI cnt), .int (zI dec)])), (ha, .inl (cL, 86, .inl (zA L))), (hr1, .inl (cR, 774, .inl (zA Rw)))] s.heap.size (fun (u : (Nat → Int) × Int) => ∃ k : Int, (i0 ≤ k) ∧ (∀ j : Nat, i0 ≤ (j : Int) → (j : Int) < k → j < 774 → Rw j = 9 ∧ u.1 j = 0) ∧ (∀ j : Nat, (j : Int) < i0 → u.1 j = Rw j) ∧ (∀ j : Nat, k < (j : Int) → u.1 j = Rw j) ∧ (k < 774 → Rw k.toNat ≠ 9 ∧ u.1 k.toNat = Rw k.toNat + 1 ∧ ((cnt < k + 1 ∧ u.2 = k + 1) ∨ (k + 1 ≤ cnt ∧ u.2 = cnt))) ∧ (774 ≤ k → u.2 = cnt ∧ (i0 ≤ 774 → k = 774))) (fun (u : (Nat → Int) × Int) => [(h, .inr (1, [.ref ha, .int (zI lc), .ref hr1, .int (zI u.2), .int (zI dec)])), (ha, .inl (cL, 86, .inl (zA L))), (hr1, .inl (cR, 774, .inl (zA u.1)))])) ([.ref h, .int (zI i0)] : List Value).toArray s 0 0 (va_A [(h, .inr (1, [.ref ha, .int (zI lc), .ref hr1, .int (zI cnt), .int (zI dec)])), (ha, .inl (cL, 86, .inl (zA L))), (hr1, .inl (cR, 774, .inl (zA Rw)))] s.heap.size)) (F0 m 2 ls []) := by
    intro nf_
    induction nf_ with
    | zero => intro R1 i hmeas_; exact absurd hmeas_ (Nat.not_lt_zero _)
    | succ nf_ ih =>
      intro R1 i hmeas_ hi e1 e2 e3 H locs ls w hl
      refine lv_iload_n S.1 S.2.1 dX1_addOneAt_2 rfl (lv_at hl 1 rfl) ?_
      refine lv_aload_n S.1 S.2.1 dX1_addOneAt_3 rfl (lv_at hl 0 rfl) ?_
      refine z_get (ci := 1) (C := RX1) (T := TX1) (N := 5) S w 0 rfl rfl in_X1_addOneAt_X1 2 (by decide) ln_X1_addOneAt_19 rfl rfl dX1_addOneAt_4 ?_
      refine z_alen (n := 774) S w 2 1 rfl rfl dX1_addOneAt_7 ?_
      refine z_icmp_ge (tgt := 34) S dX1_addOneAt_8 (by decide) (by omega) (by omega) (fun h8 => ?_) (fun h8 => ?_)
      · skip
        refine lv_iload_n S.1 S.2.1 dX1_addOneAt_34 rfl (lv_at hl 1 rfl) ?_
        refine z_if_lt (tgt := 71) S dX1_addOneAt_35 (by decide) (by omega) (fun h35 => ?_) (fun h35 => ?_)
        · skip
          exfalso; omega
        · skip
          refine lv_iload_n S.1 S.2.1 dX1_addOneAt_38 rfl (lv_at hl 1 rfl) ?_
          refine lv_aload_n S.1 S.2.1 dX1_addOneAt_39 rfl (lv_at hl 0 rfl) ?_
          refine z_get (ci := 1) (C := RX1) (T := TX1) (N := 5) S w 0 rfl rfl in_X1_addOneAt_X1 2 (by decide) ln_X1_addOneAt_19 rfl rfl dX1_addOneAt_40 ?_
          refine z_alen (n := 774) S w 2 1 rfl rfl dX1_addOneAt_43 ?_
          refine z_icmp_ge (tgt := 71) S dX1_addOneAt_44 (by decide) (by omega) (by omega) (fun h44 => ?_) (fun h44 => ?_)
          · skip
            skip
            have k1_ : ∃ k : Int, (i0 ≤ k) ∧ (∀ j : Nat, i0 ≤ (j : Int) → (j : Int) < k → j < 774 → Rw j = 9 ∧ R1 j = 0) ∧ (∀ j : Nat, (j : Int) < i0 → R1 j = Rw j) ∧ (∀ j : Nat, k < (j : Int) → R1 j = Rw j) ∧ (k < 774 → Rw k.toNat ≠ 9 ∧ R1 k.toNat = Rw k.toNat + 1 ∧ ((cnt < k + 1 ∧ cnt = k + 1) ∨ (k + 1 ≤ cnt ∧ cnt = cnt))) ∧ (774 ≤ k → cnt = cnt ∧ (i0 ≤ 774 → k = 774)) := by
              first
                | (refine ⟨i, by omega, e1, e2, fun j q => e3 j (by omega), fun q => by omega, fun q => ⟨rfl, fun q2 => by omega⟩⟩)
                | (refine ⟨i, by omega, fun j q1 q2 q3 => ?_, fun j q => ?_, fun j q => ?_, fun q => ⟨?_, ?_, by omega⟩, fun q => by omega⟩
                   · rw [zu_n _ _ (by omega)]; exact e1 j q1 q2 q3
                   · rw [zu_n _ _ (by omega)]; exact e2 j q
                   · rw [zu_n _ _ (by omega)]; exact e3 j (by omega)
                   · omega
                   · rw [zu_s, e3 _ (by omega)])
            exact z_vret S hr hlk w (R1, cnt) k1_ rfl dX1_addOneAt_71
          · skip
            refine lv_aload_n S.1 S.2.1 dX1_addOneAt_47 rfl (lv_at hl 0 rfl) ?_
            refine z_get (ci := 1) (C := RX1) (T := TX1) (N := 5) S w 0 rfl rfl in_X1_addOneAt_X1 2 (by decide) ln_X1_addOneAt_19 rfl rfl dX1_addOneAt_48 ?_
            refine lv_iload_n S.1 S.2.1 dX1_addOneAt_51 rfl (lv_at hl 1 rfl) ?_
            refine lv_dup2_11 S.1 S.2.1 dX1_addOneAt_52 rfl rfl ?_
            refine z_iald S w 2 1 rfl rfl (by omega) (by decide) dX1_addOneAt_53 ?_
            refine z_iconst S dX1_addOneAt_54 ?_
            refine z_iadd S dX1_addOneAt_55 ?_
            refine z_iast S w 2 1 rfl rfl (by omega) (by decide) dX1_addOneAt_56 (fun H locs w => ?_)
            have w : zW D _ _ s [(h, .inr (1, [.ref ha, .int (zI lc), .ref hr1, .int (zI cnt), .int (zI dec)])), (ha, .inl (cL, 86, .inl (zA L))), (hr1, .inl (cR, 774, .inl (zA (zu R1 i.toNat ((R1 i.toNat) + 1)))))] H locs := w
            refine lv_aload_n S.1 S.2.1 dX1_addOneAt_57 rfl (lv_at hl 0 rfl) ?_
            refine lv_aload_n S.1 S.2.1 dX1_addOneAt_58 rfl (lv_at hl 0 rfl) ?_
            refine z_get (ci := 1) (C := RX1) (T := TX1) (N := 5) S w 0 rfl rfl in_X1_addOneAt_X1 3 (by decide) ln_X1_addOneAt_22 rfl rfl dX1_addOneAt_59 ?_
            refine lv_iload_n S.1 S.2.1 dX1_addOneAt_62 rfl (lv_at hl 1 rfl) ?_
            refine z_iconst S dX1_addOneAt_63 ?_
            refine z_iadd S dX1_addOneAt_64 ?_
            refine z_mmax S ml_X1_addOneAt_50 st_X1_addOneAt_max ini_X1_addOneAt_Math co_X1_addOneAt_max hl.1 (Nat.le_of_ble_eq_true rfl) (Nat.le_of_ble_eq_true rfl) (Nat.le_of_ble_eq_true rfl) (Nat.le_of_ble_eq_true rfl) dX1_addOneAt_65 (by omega) (by omega) (fun m65 hm65 => ?_)
            refine z_put (ci := 1) (C := RX1) (T := TX1) (N := 5) S w 0 rfl rfl in_X1_addOneAt_X1 tyX1_ok nmX1 3 (by decide) ln_X1_addOneAt_22 rfl rfl rfl rfl (Nat.le_of_ble_eq_true rfl) dX1_addOneAt_68 (fun H locs w => ?_)
            have w : zW D _ _ s [(h, .inr (1, [.ref ha, .int (zI lc), .ref hr1, .int (zI m65), .int (zI dec)])), (ha, .inl (cL, 86, .inl (zA L))), (hr1, .inl (cR, 774, .inl (zA (zu R1 i.toNat ((R1 i.toNat) + 1)))))] H locs := w
            have k2_ : ∃ k : Int, (i0 ≤ k) ∧ (∀ j : Nat, i0 ≤ (j : Int) → (j : Int) < k → j < 774 → Rw j = 9 ∧ (zu R1 i.toNat ((R1 i.toNat) + 1)) j = 0) ∧ (∀ j : Nat, (j : Int) < i0 → (zu R1 i.toNat ((R1 i.toNat) + 1)) j = Rw j) ∧ (∀ j : Nat, k < (j : Int) → (zu R1 i.toNat ((R1 i.toNat) + 1)) j = Rw j) ∧ (k < 774 → Rw k.toNat ≠ 9 ∧ (zu R1 i.toNat ((R1 i.toNat) + 1)) k.toNat = Rw k.toNat + 1 ∧ ((cnt < k + 1 ∧ m65 = k + 1) ∨ (k + 1 ≤ cnt ∧ m65 = cnt))) ∧ (774 ≤ k → m65 = cnt ∧ (i0 ≤ 774 → k = 774)) := by
              first
                | (refine ⟨i, by omega, e1, e2, fun j q => e3 j (by omega), fun q => by omega, fun q => ⟨rfl, fun q2 => by omega⟩⟩)
                | (refine ⟨i, by omega, fun j q1 q2 q3 => ?_, fun j q => ?_, fun j q => ?_, fun q => ⟨?_, ?_, by omega⟩, fun q => by omega⟩
                   · rw [zu_n _ _ (by omega)]; exact e1 j q1 q2 q3
                   · rw [zu_n _ _ (by omega)]; exact e2 j q
                   · rw [zu_n _ _ (by omega)]; exact e3 j (by omega)
                   · omega
                   · rw [zu_s, e3 _ (by omega)])
            exact z_vret S hr hlk w (zu R1 i.toNat ((R1 i.toNat) + 1), m65) k2_ rfl dX1_addOneAt_71
      · skip
        refine lv_aload_n S.1 S.2.1 dX1_addOneAt_11 rfl (lv_at hl 0 rfl) ?_
        refine lv_iload_n S.1 S.2.1 dX1_addOneAt_12 rfl (lv_at hl 1 rfl) ?_
        refine z_calliV (C := RX1) (n := 1) (As := [.int (zI i)]) (rest := []) (wr := []) (wn := (fun (u : Unit) => [(h, .inr (1, [.ref ha, .int (zI lc), .ref hr1, .int (zI cnt), .int (zI dec)])), (ha, .inl (cL, 86, .inl (zA L))), (hr1, .inl (cR, 774, .inl (zA R1)))])) S w (c_X1_digitIn l D cL cR h ha hr1 L lc R1 cnt dec i (by omega)) gX1_addOneAt_X1_digitIn (by decide +kernel) rfl ⟨rfl, rfl⟩ ⟨Nat.le_of_ble_eq_true rfl, Nat.le_of_ble_eq_true rfl⟩ [0, 1] [0, 1, 2] [] [0, 1, 2] rfl rfl rfl rfl rfl (by decide) (fun u => rfl) rfl rfl rfl rfl rfl hl.1 (Nat.le_of_ble_eq_true rfl) ⟨Nat.le_of_ble_eq_true rfl, Nat.le_of_ble_eq_true rfl⟩ rfl dX1_addOneAt_13 (fun z13 _ H locs p13 w => ?_)
        have p13 : z13 = dI R1 i := p13
        have w : zW D _ _ s [(h, .inr (1, [.ref ha, .int (zI lc), .ref hr1, .int (zI cnt), .int (zI dec)])), (ha, .inl (cL, 86, .inl (zA L))), (hr1, .inl (cR, 774, .inl (zA R1)))] H locs := w
        have r13 : dI R1 i = Rw i.toNat := by unfold dI; rw [if_pos (by omega)]; exact e3 _ (by omega)
        have b13 := h9 i.toNat (by omega)
        rw [r13] at p13
        refine z_bipush S dX1_addOneAt_16 (by decide +kernel) ?_
        refine z_icmp_ne (tgt := 34) S dX1_addOneAt_18 (by decide) (by omega) (by omega) (fun h18 => ?_) (fun h18 => ?_)
        · skip
          refine lv_iload_n S.1 S.2.1 dX1_addOneAt_34 rfl (lv_at hl 1 rfl) ?_
          refine z_if_lt (tgt := 71) S dX1_addOneAt_35 (by decide) (by omega) (fun h35 => ?_) (fun h35 => ?_)
          · skip
            exfalso; omega
          · skip
            refine lv_iload_n S.1 S.2.1 dX1_addOneAt_38 rfl (lv_at hl 1 rfl) ?_
            refine lv_aload_n S.1 S.2.1 dX1_addOneAt_39 rfl (lv_at hl 0 rfl) ?_
            refine z_get (ci := 1) (C := RX1) (T := TX1) (N := 5) S w 0 rfl rfl in_X1_addOneAt_X1 2 (by decide) ln_X1_addOneAt_19 rfl rfl dX1_addOneAt_40 ?_
            refine z_alen (n := 774) S w 2 1 rfl rfl dX1_addOneAt_43 ?_
            refine z_icmp_ge (tgt := 71) S dX1_addOneAt_44 (by decide) (by omega) (by omega) (fun h44 => ?_) (fun h44 => ?_)
            · skip
              skip
              have k3_ : ∃ k : Int, (i0 ≤ k) ∧ (∀ j : Nat, i0 ≤ (j : Int) → (j : Int) < k → j < 774 → Rw j = 9 ∧ R1 j = 0) ∧ (∀ j : Nat, (j : Int) < i0 → R1 j = Rw j) ∧ (∀ j : Nat, k < (j : Int) → R1 j = Rw j) ∧ (k < 774 → Rw k.toNat ≠ 9 ∧ R1 k.toNat = Rw k.toNat + 1 ∧ ((cnt < k + 1 ∧ cnt = k + 1) ∨ (k + 1 ≤ cnt ∧ cnt = cnt))) ∧ (774 ≤ k → cnt = cnt ∧ (i0 ≤ 774 → k = 774)) := by
                first
                  | (refine ⟨i, by omega, e1, e2, fun j q => e3 j (by omega), fun q => by omega, fun q => ⟨rfl, fun q2 => by omega⟩⟩)
                  | (refine ⟨i, by omega, fun j q1 q2 q3 => ?_, fun j q => ?_, fun j q => ?_, fun q => ⟨?_, ?_, by omega⟩, fun q => by omega⟩
                     · rw [zu_n _ _ (by omega)]; exact e1 j q1 q2 q3
                     · rw [zu_n _ _ (by omega)]; exact e2 j q
                     · rw [zu_n _ _ (by omega)]; exact e3 j (by omega)
                     · omega
                     · rw [zu_s, e3 _ (by omega)])
              exact z_vret S hr hlk w (R1, cnt) k3_ rfl dX1_addOneAt_71
            · skip
              refine lv_aload_n S.1 S.2.1 dX1_addOneAt_47 rfl (lv_at hl 0 rfl) ?_
              refine z_get (ci := 1) (C := RX1) (T := TX1) (N := 5) S w 0 rfl rfl in_X1_addOneAt_X1 2 (by decide) ln_X1_addOneAt_19 rfl rfl dX1_addOneAt_48 ?_
              refine lv_iload_n S.1 S.2.1 dX1_addOneAt_51 rfl (lv_at hl 1 rfl) ?_
              refine lv_dup2_11 S.1 S.2.1 dX1_addOneAt_52 rfl rfl ?_
              refine z_iald S w 2 1 rfl rfl (by omega) (by decide) dX1_addOneAt_53 ?_
              refine z_iconst S dX1_addOneAt_54 ?_
              refine z_iadd S dX1_addOneAt_55 ?_
              refine z_iast S w 2 1 rfl rfl (by omega) (by decide) dX1_addOneAt_56 (fun H locs w => ?_)
              have w : zW D _ _ s [(h, .inr (1, [.ref ha, .int (zI lc), .ref hr1, .int (zI cnt), .int (zI dec)])), (ha, .inl (cL, 86, .inl (zA L))), (hr1, .inl (cR, 774, .inl (zA (zu R1 i.toNat ((R1 i.toNat) + 1)))))] H locs := w
              refine lv_aload_n S.1 S.2.1 dX1_addOneAt_57 rfl (lv_at hl 0 rfl) ?_
              refine lv_aload_n S.1 S.2.1 dX1_addOneAt_58 rfl (lv_at hl 0 rfl) ?_
              refine z_get (ci := 1) (C := RX1) (T := TX1) (N := 5) S w 0 rfl rfl in_X1_addOneAt_X1 3 (by decide) ln_X1_addOneAt_22 rfl rfl dX1_addOneAt_59 ?_
              refine lv_iload_n S.1 S.2.1 dX1_addOneAt_62 rfl (lv_at hl 1 rfl) ?_
              refine z_iconst S dX1_addOneAt_63 ?_
              refine z_iadd S dX1_addOneAt_64 ?_
              refine z_mmax S ml_X1_addOneAt_50 st_X1_addOneAt_max ini_X1_addOneAt_Math co_X1_addOneAt_max hl.1 (Nat.le_of_ble_eq_true rfl) (Nat.le_of_ble_eq_true rfl) (Nat.le_of_ble_eq_true rfl) (Nat.le_of_ble_eq_true rfl) dX1_addOneAt_65 (by omega) (by omega) (fun m65 hm65 => ?_)
              refine z_put (ci := 1) (C := RX1) (T := TX1) (N := 5) S w 0 rfl rfl in_X1_addOneAt_X1 tyX1_ok nmX1 3 (by decide) ln_X1_addOneAt_22 rfl rfl rfl rfl (Nat.le_of_ble_eq_true rfl) dX1_addOneAt_68 (fun H locs w => ?_)
              have w : zW D _ _ s [(h, .inr (1, [.ref ha, .int (zI lc), .ref hr1, .int (zI m65), .int (zI dec)])), (ha, .inl (cL, 86, .inl (zA L))), (hr1, .inl (cR, 774, .inl (zA (zu R1 i.toNat ((R1 i.toNat) + 1)))))] H locs := w
              have k4_ : ∃ k : Int, (i0 ≤ k) ∧ (∀ j : Nat, i0 ≤ (j : Int) → (j : Int) < k → j < 774 → Rw j = 9 ∧ (zu R1 i.toNat ((R1 i.toNat) + 1)) j = 0) ∧ (∀ j : Nat, (j : Int) < i0 → (zu R1 i.toNat ((R1 i.toNat) + 1)) j = Rw j) ∧ (∀ j : Nat, k < (j : Int) → (zu R1 i.toNat ((R1 i.toNat) + 1)) j = Rw j) ∧ (k < 774 → Rw k.toNat ≠ 9 ∧ (zu R1 i.toNat ((R1 i.toNat) + 1)) k.toNat = Rw k.toNat + 1 ∧ ((cnt < k + 1 ∧ m65 = k + 1) ∨ (k + 1 ≤ cnt ∧ m65 = cnt))) ∧ (774 ≤ k → m65 = cnt ∧ (i0 ≤ 774 → k = 774)) := by
                first
                  | (refine ⟨i, by omega, e1, e2, fun j q => e3 j (by omega), fun q => by omega, fun q => ⟨rfl, fun q2 => by omega⟩⟩)
                  | (refine ⟨i, by omega, fun j q1 q2 q3 => ?_, fun j q => ?_, fun j q => ?_, fun q => ⟨?_, ?_, by omega⟩, fun q => by omega⟩
                     · rw [zu_n _ _ (by omega)]; exact e1 j q1 q2 q3
                     · rw [zu_n _ _ (by omega)]; exact e2 j q
                     · rw [zu_n _ _ (by omega)]; exact e3 j (by omega)
                     · omega
                     · rw [zu_s, e3 _ (by omega)])
              exact z_vret S hr hlk w (zu R1 i.toNat ((R1 i.toNat) + 1), m65) k4_ rfl dX1_addOneAt_71
        · skip
          refine lv_aload_n S.1 S.2.1 dX1_addOneAt_21 rfl (lv_at hl 0 rfl) ?_
          refine z_get (ci := 1) (C := RX1) (T := TX1) (N := 5) S w 0 rfl rfl in_X1_addOneAt_X1 2 (by decide) ln_X1_addOneAt_19 rfl rfl dX1_addOneAt_22 ?_
          refine lv_iload_n S.1 S.2.1 dX1_addOneAt_25 rfl (lv_at hl 1 rfl) ?_
          refine z_iconst S dX1_addOneAt_26 ?_
          refine z_iast S w 2 1 rfl rfl (by omega) (by decide) dX1_addOneAt_27 (fun H locs w => ?_)
          have w : zW D _ _ s [(h, .inr (1, [.ref ha, .int (zI lc), .ref hr1, .int (zI cnt), .int (zI dec)])), (ha, .inl (cL, 86, .inl (zA L))), (hr1, .inl (cR, 774, .inl (zA (zu R1 i.toNat 0))))] H locs := w
          refine lv_iinc (v := zI (i + 1)) (lv' := [(2, .int (zI (i + 1))), (0, .ref h)]) S.1 S.2.1 dX1_addOneAt_28 hl (k := 1) rfl (zI_add i 1) (by decide) rfl (fun ls hl => ?_)
          refine lv_goto (tgt := 2) S.1 S.2.1 dX1_addOneAt_31 (by decide) ?_
          have k5_ : ∀ j : Nat, i0 ≤ (j : Int) → (j : Int) < (i + 1) → j < 774 → Rw j = 9 ∧ (zu R1 i.toNat 0) j = 0 := by
            intro j q1 q2 q3
            by_cases q4 : (j : Int) = i
            · have q5 : i.toNat = j := by omega
              rw [q5, zu_s]; rw [q5] at p13; exact ⟨by omega, rfl⟩
            · rw [zu_n _ _ (by omega)]; exact e1 j q1 (by omega) q3
          exact ih (zu R1 i.toNat 0) (i + 1) (by omega) (by omega) k5_ (fun j q => by rw [zu_n _ _ (by omega)]; exact e2 j q) (fun j q => by rw [zu_n _ _ (by omega)]; exact e3 j (by omega)) _ _ _ w (lv_sub hl [1, 0] rfl)
  have hl : lv_has ls 3 [(0, .ref h), (1, .int (zI i0))] := hl
  refine lv_iload_n S.1 S.2.1 dX1_addOneAt_0 rfl (lv_at hl 1 rfl) ?_
  refine lv_istore_n (lv' := [(2, .int (zI i0)), (0, .ref h), (1, .int (zI i0))]) S.1 S.2.1 dX1_addOneAt_1 rfl hl (by decide) rfl (fun ls hl => ?_)
  exact lab2 _ Rw i0 (Nat.lt_succ_self _) (by omega) (fun j q1 q2 => by omega) (fun j q => rfl) (fun j q => rfl) _ _ _ w (lv_sub hl [1, 0] rfl)
