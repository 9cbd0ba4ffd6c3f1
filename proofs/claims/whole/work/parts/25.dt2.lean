set_option maxRecDepth 20000 in
theorem ln_X2_putDigits_12 : Cond.fieldLink RX2 12 "DecimalText" "worth" "LDecimalText$Worth;" ∈ wsX2_putDigits := by decide +kernel
theorem in_X2_putDigits_X2 : ∀ w ∈ u_ws RX2 TX2 2, w ∈ wsX2_putDigits := by decide +kernel
set_option maxHeartbeats 4000000 in
set_option maxRecDepth 100000 in
theorem c_X2_putDigits (l : Launch) (D : va_G) (cL cR cC : ClassId) (h : Nat) (hw : Nat) (ha : Nat) (hr1 : Nat) (hn : Nat) (hc : Nat) (L : Nat → Int) (lc : Int) (Rw : Nat → Int) (cnt : Int) (dec : Int) (C : Nat → Int) (len : Int) (T : List Int) (fr : Int) (to : Int) (hT : lRep C len T) (h9 : ∀ j : Nat, j < 774 → 0 ≤ Rw j ∧ Rw j ≤ 9) (hdec : 0 ≤ dec ∧ dec ≤ 1074) (hfr : -1500 ≤ fr ∧ fr ≤ 1500 ∧ -1500 ≤ to ∧ to ≤ 1500) (hlen : len ≤ 400 ∧ len + (fr - to + 1) ≤ 400) : zMv (T := (Nat → Int) × Int) l yX2_putDigits wsX2_putDigits ({ frames := 2, cells := 0, slots := 0, locals := 42 } : Room) D [(cL, .int), (cR, .int), (cC, .char)] [.ref h, .int (zI fr), .int (zI to)] [(h, .inr (2, [.ref hw, .ref hn])), (hw, .inr (1, [.ref ha, .int (zI lc), .ref hr1, .int (zI cnt), .int (zI dec)])), (ha, .inl (cL, 86, .inl (zA L))), (hr1, .inl (cR, 774, .inl (zA Rw))), (hn, .inr (0, [.ref hc, .int (zI len)])), (hc, .inl (cC, 400, .inl (zA C)))] (fun (u : (Nat → Int) × Int) => lRep u.1 u.2 (T ++ dT (fun x9 => dI Rw (x9 + dec)) fr to) ∧ u.2 = len + ((fr - to + 1).toNat : Int)) (fun (u : (Nat → Int) × Int) => [(h, .inr (2, [.ref hw, .ref hn])), (hw, .inr (1, [.ref ha, .int (zI lc), .ref hr1, .int (zI cnt), .int (zI dec)])), (ha, .inl (cL, 86, .inl (zA L))), (hr1, .inl (cR, 774, .inl (zA Rw))), (hn, .inr (0, [.ref hc, .int (zI u.2)])), (hc, .inl (cC, 400, .inl (zA u.1)))]) 0 0 := by
  refine zMv.of (bytes := cX2_putDigits) (nL := 4) (own := RX2) (by decide) rfl rfl (Nat.le_of_ble_eq_true rfl) ?_
  intro p e s m below meth c ls S hr hlk hnm w hl
  have lab2 : ∀ (nf_ : Nat) (C1 : Nat → Int) (len1 : Int) (q : Int), (q - to + 1).toNat < nf_ → ((q ≤ fr ∧ to - 1 ≤ q) ∨ q = fr) → (lRep C1 len1 (T ++ dT (fun x9 => dI Rw (x9 + dec)) fr (q + 1))) → (len1 = len + (fr - q)) → ∀ (H : Heap) (locs : List Loc) (ls : Array Slot), zW D [(cL, .int), (cR, .int), (cC, .char)] (va_A [(h, .inr (2, [.ref hw, .ref hn])), (hw, .inr (1, [.ref ha, .int (zI lc), .ref hr1, .int (zI cnt), .int (zI dec)])), (ha, .inl (cL, 86, .inl (zA L))), (hr1, .inl (cR, 774, .inl (zA Rw))), (hn, .inr (0, [.ref hc, .int (zI len)])), (hc, .inl (cC, 400, .inl (zA C)))] s.heap.size) s [(h, .inr (2, [.ref hw, .ref hn])), (hw, .inr (1, [.ref ha, .int (zI lc), .ref hr1, .int (zI cnt), .int (zI dec)])), (ha, .inl (cL, 86, .inl (zA L))), (hr1, .inl (cR, 774, .inl (zA Rw))), (hn, .inr (0, [.ref hc, .int (zI len1)])), (hc, .inl (cC, 400, .inl (zA C1)))] H locs → lv_has ls 4 [(0, .ref h), (2, .int (zI to)), (3, .int (zI q))] → W p l e ({ frames := 2, cells := 0, slots := 0, locals := 42 } : Room) s m ([.ref h, .int (zI fr), .int (zI to)] : List Value).toArray below meth c H locs 0 0 (MQ below (zQv D [(cL, .int), (cR, .int), (cC, .char)] [(h, .inr (2, [.ref hw, .ref hn])), (hw, .inr (1, [.ref ha, .int (zI lc), .ref hr1, .int (zI cnt), .int (zI dec)])), (ha, .inl (cL, 86, .inl (zA L))), (hr1, .inl (cR, 774, .inl (zA Rw))), (hn, .inr (0, [.ref hc, .int (zI len)])), (hc, .inl (cC, 400, .inl (zA C)))] s.heap.size (fun (u : (Nat → Int) × Int) => lRep u.1 u.2 (T ++ dT (fun x9 => dI Rw (x9 + dec)) fr to) ∧ u.2 = len + ((fr - to + 1).toNat : Int)) (fun (u : (Nat → Int) × Int) => [(h, .inr (2, [.ref hw, .ref hn])), (hw, .inr (1, [.ref ha, .int (zI lc), .ref hr1, .int (zI cnt), .int (zI dec)])), (ha, .inl (cL, 86, .inl (zA L))), (hr1, .inl (cR, 774, .inl (zA Rw))), (hn, .inr (0, [.ref hc, .int (zI u.2)])), (hc, .inl (cC, 400, .inl (zA u.1)))])) ([.ref h, .int (zI fr), .int (zI to)] : List Value).toArray s 0 0 (va_A [(h, .inr (2, [.ref hw, .ref hn])), (hw, .inr (1, [.ref ha, .int (zI lc), .ref hr1, .int (zI cnt), .int (zI dec)])), (ha, .inl (cL, 86, .inl (zA L))), (hr1, .inl (cR, 774, .inl (zA Rw))), (hn, .inr (0, [.ref hc, .int (zI len)])), (hc, .inl (cC, 400, .inl (zA C)))] s.heap.size)) (F0 m 2 ls []) := by
    intro nf_
    induction nf_ with
    | zero => intro C1 len1 q hmeas_; exact absurd hmeas_ (Nat.not_lt_zero _)
    | succ nf_ ih =>
      intro C1 len1 q hmeas_ hq t1 hl1 H locs ls w hl
      refine lv_iload_n S.1 S.2.1 dX2_putDigits_2 rfl (lv_at hl 2 rfl) ?_
      refine lv_iload_n S.1 S.2.1 dX2_putDigits_3 rfl (lv_at hl 1 rfl) ?_
      refine z_icmp_lt (tgt := 25) S dX2_putDigits_4 (by decide) (by omega) (by omega) (fun h4 => ?_) (fun h4 => ?_)
      · skip
        have k1_ : lRep C1 len1 (T ++ dT (fun x9 => dI Rw (x9 + dec)) fr to) ∧ len1 = len + ((fr - to + 1).toNat : Int) := by
          refine ⟨?_, by omega⟩
          by_cases k : q + 1 = to
          · rw [← k]; exact t1
          · rw [dT_nil _ (by omega : fr < to)]
            rw [dT_nil _ (by omega : fr < q + 1)] at t1
            exact t1
        exact z_vret S hr hlk w (C1, len1) k1_ rfl dX2_putDigits_25
      · skip
        refine lv_aload_n S.1 S.2.1 dX2_putDigits_7 rfl (lv_at hl 0 rfl) ?_
        refine lv_aload_n S.1 S.2.1 dX2_putDigits_8 rfl (lv_at hl 0 rfl) ?_
        refine z_get (ci := 2) (C := RX2) (T := TX2) (N := 2) S w 0 rfl rfl in_X2_putDigits_X2 0 (by decide) ln_X2_putDigits_12 rfl rfl dX2_putDigits_9 ?_
        refine lv_iload_n S.1 S.2.1 dX2_putDigits_12 rfl (lv_at hl 2 rfl) ?_
        refine z_calliV (C := RX1) (n := 1) (As := [.int (zI q)]) (rest := [.ref h]) (wr := [(h, .inr (2, [.ref hw, .ref hn])), (hn, .inr (0, [.ref hc, .int (zI len1)])), (hc, .inl (cC, 400, .inl (zA C1)))]) (wn := (fun (u : Unit) => [(h, .inr (2, [.ref hw, .ref hn])), (hw, .inr (1, [.ref ha, .int (zI lc), .ref hr1, .int (zI cnt), .int (zI dec)])), (ha, .inl (cL, 86, .inl (zA L))), (hr1, .inl (cR, 774, .inl (zA Rw))), (hn, .inr (0, [.ref hc, .int (zI len1)])), (hc, .inl (cC, 400, .inl (zA C1)))])) S w (c_X1_digitOf l D cL cR hw ha hr1 L lc Rw cnt dec q (by omega) (by omega)) gX2_putDigits_X1_digitOf (by decide +kernel) rfl ⟨rfl, rfl⟩ ⟨Nat.le_of_ble_eq_true rfl, Nat.le_of_ble_eq_true rfl⟩ [0, 1] [1, 2, 3] [0, 4, 5] [0, 3, 4, 5, 1, 2] rfl rfl rfl rfl rfl (by decide) (fun u => rfl) rfl rfl rfl rfl rfl hl.1 (Nat.le_of_ble_eq_true rfl) ⟨Nat.le_of_ble_eq_true rfl, Nat.le_of_ble_eq_true rfl⟩ rfl dX2_putDigits_13 (fun z13 _ H locs p13 w => ?_)
        have p13 : z13 = dI Rw (q + dec) := p13
        have w : zW D _ _ s [(h, .inr (2, [.ref hw, .ref hn])), (hw, .inr (1, [.ref ha, .int (zI lc), .ref hr1, .int (zI cnt), .int (zI dec)])), (ha, .inl (cL, 86, .inl (zA L))), (hr1, .inl (cR, 774, .inl (zA Rw))), (hn, .inr (0, [.ref hc, .int (zI len1)])), (hc, .inl (cC, 400, .inl (zA C1)))] H locs := w
        have b13 := dI_9 h9 (q + dec)
        rw [← p13] at b13
        refine z_callvV (C := RX2) (n := 1) (As := [.int (zI z13)]) (rest := []) (wr := [(hw, .inr (1, [.ref ha, .int (zI lc), .ref hr1, .int (zI cnt), .int (zI dec)])), (ha, .inl (cL, 86, .inl (zA L))), (hr1, .inl (cR, 774, .inl (zA Rw)))]) (wn := (fun (u : (Nat → Int) × Int) => [(h, .inr (2, [.ref hw, .ref hn])), (hw, .inr (1, [.ref ha, .int (zI lc), .ref hr1, .int (zI cnt), .int (zI dec)])), (ha, .inl (cL, 86, .inl (zA L))), (hr1, .inl (cR, 774, .inl (zA Rw))), (hn, .inr (0, [.ref hc, .int (zI u.2)])), (hc, .inl (cC, 400, .inl (zA u.1)))])) S w (c_X2_putDigit l D cC h hw hn hc C1 len1 _ z13 t1 (by omega) (by omega)) gX2_putDigits_X2_putDigit (by decide +kernel) rfl ⟨rfl, rfl⟩ ⟨Nat.le_of_ble_eq_true rfl, Nat.le_of_ble_eq_true rfl⟩ [2] [0, 4, 5] [1, 2, 3] [3, 0, 1, 2, 4, 5] rfl rfl rfl rfl rfl (by decide) (fun u => rfl) rfl rfl rfl rfl rfl hl.1 (Nat.le_of_ble_eq_true rfl) ⟨Nat.le_of_ble_eq_true rfl, Nat.le_of_ble_eq_true rfl⟩ rfl dX2_putDigits_16 (fun u H locs p16 w => ?_)
        obtain ⟨C16, len16⟩ := u
        have p16 : lRep C16 len16 (_ ++ [48 + z13]) ∧ len16 = len1 + 1 := p16
        have w : zW D _ _ s [(h, .inr (2, [.ref hw, .ref hn])), (hw, .inr (1, [.ref ha, .int (zI lc), .ref hr1, .int (zI cnt), .int (zI dec)])), (ha, .inl (cL, 86, .inl (zA L))), (hr1, .inl (cR, 774, .inl (zA Rw))), (hn, .inr (0, [.ref hc, .int (zI len16)])), (hc, .inl (cC, 400, .inl (zA C16)))] H locs := w
        refine lv_iinc (v := zI (q + (-1))) (lv' := [(3, .int (zI (q + (-1)))), (0, .ref h), (2, .int (zI to))]) S.1 S.2.1 dX2_putDigits_19 hl (k := 2) rfl (zI_add q (-1)) (by decide) rfl (fun ls hl => ?_)
        refine lv_goto (tgt := 2) S.1 S.2.1 dX2_putDigits_22 (by decide) ?_
        have k2_ : lRep C16 len16 (T ++ dT (fun x9 => dI Rw (x9 + dec)) fr ((q + (-1)) + 1)) := by
          have q1 := p16.1
          have e : q + (-1) + 1 = q := by omega
          rw [e, dT_snoc _ (by omega : q ≤ fr), ← List.append_assoc]
          rw [p13] at q1; exact q1
        exact ih C16 len16 (q + (-1)) (by omega) (by omega) k2_ (by omega) _ _ _ w (lv_sub hl [1, 2, 0] rfl)
  have hl : lv_has ls 4 [(0, .ref h), (1, .int (zI fr)), (2, .int (zI to))] := hl
  refine lv_iload_n S.1 S.2.1 dX2_putDigits_0 rfl (lv_at hl 1 rfl) ?_
  refine lv_istore_n (lv' := [(3, .int (zI fr)), (0, .ref h), (1, .int (zI fr)), (2, .int (zI to))]) S.1 S.2.1 dX2_putDigits_1 rfl hl (by decide) rfl (fun ls hl => ?_)
  exact lab2 _ C len fr (Nat.lt_succ_self _) (by omega) (by rw [dT_nil _ (by omega), List.append_nil]; exact hT) (by omega) _ _ _ w (lv_sub hl [1, 3, 0] rfl)

set_option maxRecDepth 20000 in
theorem ln_X2_putDecimals_19 : Cond.fieldLink RX2 19 "DecimalText" "line" "LDecimalText$Line;" ∈ wsX2_putDecimals := by decide +kernel
theorem in_X2_putDecimals_X2 : ∀ w ∈ u_ws RX2 TX2 2, w ∈ wsX2_putDecimals := by decide +kernel
set_option maxHeartbeats 4000000 in
set_option maxRecDepth 100000 in
theorem c_X2_putDecimals (l : Launch) (D : va_G) (cL cR cC : ClassId) (h : Nat) (hw : Nat) (ha : Nat) (hr1 : Nat) (hn : Nat) (hc : Nat) (L : Nat → Int) (lc : Int) (Rw : Nat → Int) (cnt : Int) (dec : Int) (C : Nat → Int) (len : Int) (T : List Int) (un : Int) (p1 : Int) (pt : Int) (hT : lRep C len T) (h9 : ∀ j : Nat, j < 774 → 0 ≤ Rw j ∧ Rw j ≤ 9) (hdec : 0 ≤ dec ∧ dec ≤ 1074) (hp : 0 ≤ p1 ∧ p1 ≤ 15) (hpt : pt = 0 ∨ pt = 1) (hun : -1400 ≤ un ∧ un ≤ 1400) (hlen : len ≤ 380) : zMv (T := (Nat → Int) × Int) l yX2_putDecimals wsX2_putDecimals ({ frames := 3, cells := 0, slots := 0, locals := 65 } : Room) D [(cL, .int), (cR, .int), (cC, .char)] [.ref h, .int (zI un), .int (zI p1), .int (zI pt)] [(h, .inr (2, [.ref hw, .ref hn])), (hw, .inr (1, [.ref ha, .int (zI lc), .ref hr1, .int (zI cnt), .int (zI dec)])), (ha, .inl (cL, 86, .inl (zA L))), (hr1, .inl (cR, 774, .inl (zA Rw))), (hn, .inr (0, [.ref hc, .int (zI len)])), (hc, .inl (cC, 400, .inl (zA C)))] (fun (u : (Nat → Int) × Int) => lRep u.1 u.2 (T ++ ptT pt ++ dT (fun x9 => dI Rw (x9 + dec)) (un - 1) (un - p1)) ∧ u.2 = len + ((ptT pt).length : Int) + p1) (fun (u : (Nat → Int) × Int) => [(h, .inr (2, [.ref hw, .ref hn])), (hw, .inr (1, [.ref ha, .int (zI lc), .ref hr1, .int (zI cnt), .int (zI dec)])), (ha, .inl (cL, 86, .inl (zA L))), (hr1, .inl (cR, 774, .inl (zA Rw))), (hn, .inr (0, [.ref hc, .int (zI u.2)])), (hc, .inl (cC, 400, .inl (zA u.1)))]) 0 0 := by
  refine zMv.of (bytes := cX2_putDecimals) (nL := 4) (own := RX2) (by decide) rfl rfl (Nat.le_of_ble_eq_true rfl) ?_
  intro p e s m below meth c ls S hr hlk hnm w hl
  have hl : lv_has ls 4 [(0, .ref h), (1, .int (zI un)), (2, .int (zI p1)), (3, .int (zI pt))] := hl
  have hl0 := hT.1.1
  refine lv_iload_n S.1 S.2.1 dX2_putDecimals_0 rfl (lv_at hl 3 rfl) ?_
  refine z_if_eq (tgt := 13) S dX2_putDecimals_1 (by decide) (by omega) (fun h1 => ?_) (fun h1 => ?_)
  · skip
    refine lv_aload_n S.1 S.2.1 dX2_putDecimals_13 rfl (lv_at hl 0 rfl) ?_
    refine lv_iload_n S.1 S.2.1 dX2_putDecimals_14 rfl (lv_at hl 1 rfl) ?_
    refine z_iconst S dX2_putDecimals_15 ?_
    refine z_isub S dX2_putDecimals_16 ?_
    refine lv_iload_n S.1 S.2.1 dX2_putDecimals_17 rfl (lv_at hl 1 rfl) ?_
    refine lv_iload_n S.1 S.2.1 dX2_putDecimals_18 rfl (lv_at hl 2 rfl) ?_
    refine z_isub S dX2_putDecimals_19 ?_
    refine z_callvV (C := RX2) (n := 2) (As := [.int (zI (un - 1)), .int (zI (un - p1))]) (rest := []) (wr := []) (wn := (fun (u : (Nat → Int) × Int) => [(h, .inr (2, [.ref hw, .ref hn])), (hw, .inr (1, [.ref ha, .int (zI lc), .ref hr1, .int (zI cnt), .int (zI dec)])), (ha, .inl (cL, 86, .inl (zA L))), (hr1, .inl (cR, 774, .inl (zA Rw))), (hn, .inr (0, [.ref hc, .int (zI u.2)])), (hc, .inl (cC, 400, .inl (zA u.1)))])) S w (c_X2_putDigits l D cL cR cC h hw ha hr1 hn hc L lc Rw cnt dec C len _ (un - 1) (un - p1) (by first | exact t10 | exact hT) h9 (by omega) (by omega) (by omega)) gX2_putDecimals_X2_putDigits (by decide +kernel) rfl ⟨rfl, rfl⟩ ⟨Nat.le_of_ble_eq_true rfl, Nat.le_of_ble_eq_true rfl⟩ [0, 1, 2] [0, 1, 2, 3, 4, 5] [] [0, 1, 2, 3, 4, 5] rfl rfl rfl rfl rfl (by decide) (fun u => rfl) rfl rfl rfl rfl rfl hl.1 (Nat.le_of_ble_eq_true rfl) ⟨Nat.le_of_ble_eq_true rfl, Nat.le_of_ble_eq_true rfl⟩ rfl dX2_putDecimals_20 (fun u H locs p20 w => ?_)
    obtain ⟨C20, len20⟩ := u
    have p20 : lRep C20 len20 (_ ++ dT (fun x9 => dI Rw (x9 + dec)) (un - 1) (un - p1)) ∧ len20 = len + (((un - 1) - (un - p1) + 1).toNat : Int) := p20
    have w : zW D _ _ s [(h, .inr (2, [.ref hw, .ref hn])), (hw, .inr (1, [.ref ha, .int (zI lc), .ref hr1, .int (zI cnt), .int (zI dec)])), (ha, .inl (cL, 86, .inl (zA L))), (hr1, .inl (cR, 774, .inl (zA Rw))), (hn, .inr (0, [.ref hc, .int (zI len20)])), (hc, .inl (cC, 400, .inl (zA C20)))] H locs := w
    have k1_ : lRep C20 len20 (T ++ ptT pt ++ dT (fun x9 => dI Rw (x9 + dec)) (un - 1) (un - p1)) ∧ len20 = len + ((ptT pt).length : Int) + p1 := by
      unfold ptT
      first
        | (rw [if_pos (show pt = 1 by omega)]; exact ⟨p20.1, by rw [List.length_singleton]; omega⟩)
        | (rw [if_neg (show ¬ pt = 1 by omega), List.append_nil]; exact ⟨p20.1, by rw [List.length_nil]; omega⟩)
    exact z_vret S hr hlk w (C20, len20) k1_ rfl dX2_putDecimals_23
  · skip
    refine lv_aload_n S.1 S.2.1 dX2_putDecimals_4 rfl (lv_at hl 0 rfl) ?_
    refine z_get (ci := 2) (C := RX2) (T := TX2) (N := 2) S w 0 rfl rfl in_X2_putDecimals_X2 1 (by decide) ln_X2_putDecimals_19 rfl rfl dX2_putDecimals_5 ?_
    refine z_bipush S dX2_putDecimals_8 (by decide +kernel) ?_
    refine z_callvV (C := RX0) (n := 1) (As := [.int (zI 46)]) (rest := []) (wr := [(h, .inr (2, [.ref hw, .ref hn])), (hw, .inr (1, [.ref ha, .int (zI lc), .ref hr1, .int (zI cnt), .int (zI dec)])), (ha, .inl (cL, 86, .inl (zA L))), (hr1, .inl (cR, 774, .inl (zA Rw)))]) (wn := (fun (u : (Nat → Int) × Int) => [(h, .inr (2, [.ref hw, .ref hn])), (hw, .inr (1, [.ref ha, .int (zI lc), .ref hr1, .int (zI cnt), .int (zI dec)])), (ha, .inl (cL, 86, .inl (zA L))), (hr1, .inl (cR, 774, .inl (zA Rw))), (hn, .inr (0, [.ref hc, .int (zI u.2)])), (hc, .inl (cC, 400, .inl (zA u.1)))])) S w (c_X0_put l D cC hn hc C len 46 (by omega) (by omega)) gX2_putDecimals_X0_put (by decide +kernel) rfl ⟨rfl, rfl⟩ ⟨Nat.le_of_ble_eq_true rfl, Nat.le_of_ble_eq_true rfl⟩ [2] [4, 5] [0, 1, 2, 3] [0, 1, 2, 3, 4, 5] rfl rfl rfl rfl rfl (by decide) (fun u => rfl) rfl rfl rfl rfl rfl hl.1 (Nat.le_of_ble_eq_true rfl) ⟨Nat.le_of_ble_eq_true rfl, Nat.le_of_ble_eq_true rfl⟩ rfl dX2_putDecimals_10 (fun u H locs p10 w => ?_)
    obtain ⟨C10, len10⟩ := u
    have p10 : C10 = zu C len.toNat (46 : Int) ∧ len10 = len + 1 := p10
    have w : zW D _ _ s [(h, .inr (2, [.ref hw, .ref hn])), (hw, .inr (1, [.ref ha, .int (zI lc), .ref hr1, .int (zI cnt), .int (zI dec)])), (ha, .inl (cL, 86, .inl (zA L))), (hr1, .inl (cR, 774, .inl (zA Rw))), (hn, .inr (0, [.ref hc, .int (zI len10)])), (hc, .inl (cC, 400, .inl (zA C10)))] H locs := w
    have t10 := lRep_put' hT (by omega) p10
    refine lv_aload_n S.1 S.2.1 dX2_putDecimals_13 rfl (lv_at hl 0 rfl) ?_
    refine lv_iload_n S.1 S.2.1 dX2_putDecimals_14 rfl (lv_at hl 1 rfl) ?_
    refine z_iconst S dX2_putDecimals_15 ?_
    refine z_isub S dX2_putDecimals_16 ?_
    refine lv_iload_n S.1 S.2.1 dX2_putDecimals_17 rfl (lv_at hl 1 rfl) ?_
    refine lv_iload_n S.1 S.2.1 dX2_putDecimals_18 rfl (lv_at hl 2 rfl) ?_
    refine z_isub S dX2_putDecimals_19 ?_
    refine z_callvV (C := RX2) (n := 2) (As := [.int (zI (un - 1)), .int (zI (un - p1))]) (rest := []) (wr := []) (wn := (fun (u : (Nat → Int) × Int) => [(h, .inr (2, [.ref hw, .ref hn])), (hw, .inr (1, [.ref ha, .int (zI lc), .ref hr1, .int (zI cnt), .int (zI dec)])), (ha, .inl (cL, 86, .inl (zA L))), (hr1, .inl (cR, 774, .inl (zA Rw))), (hn, .inr (0, [.ref hc, .int (zI u.2)])), (hc, .inl (cC, 400, .inl (zA u.1)))])) S w (c_X2_putDigits l D cL cR cC h hw ha hr1 hn hc L lc Rw cnt dec C10 len10 _ (un - 1) (un - p1) (by first | exact t10 | exact hT) h9 (by omega) (by omega) (by omega)) gX2_putDecimals_X2_putDigits (by decide +kernel) rfl ⟨rfl, rfl⟩ ⟨Nat.le_of_ble_eq_true rfl, Nat.le_of_ble_eq_true rfl⟩ [0, 1, 2] [0, 1, 2, 3, 4, 5] [] [0, 1, 2, 3, 4, 5] rfl rfl rfl rfl rfl (by decide) (fun u => rfl) rfl rfl rfl rfl rfl hl.1 (Nat.le_of_ble_eq_true rfl) ⟨Nat.le_of_ble_eq_true rfl, Nat.le_of_ble_eq_true rfl⟩ rfl dX2_putDecimals_20 (fun u H locs p20 w => ?_)
    obtain ⟨C20, len20⟩ := u
    have p20 : lRep C20 len20 (_ ++ dT (fun x9 => dI Rw (x9 + dec)) (un - 1) (un - p1)) ∧ len20 = len10 + (((un - 1) - (un - p1) + 1).toNat : Int) := p20
    have w : zW D _ _ s [(h, .inr (2, [.ref hw, .ref hn])), (hw, .inr (1, [.ref ha, .int (zI lc), .ref hr1, .int (zI cnt), .int (zI dec)])), (ha, .inl (cL, 86, .inl (zA L))), (hr1, .inl (cR, 774, .inl (zA Rw))), (hn, .inr (0, [.ref hc, .int (zI len20)])), (hc, .inl (cC, 400, .inl (zA C20)))] H locs := w
    have k2_ : lRep C20 len20 (T ++ ptT pt ++ dT (fun x9 => dI Rw (x9 + dec)) (un - 1) (un - p1)) ∧ len20 = len + ((ptT pt).length : Int) + p1 := by
      unfold ptT
      first
        | (rw [if_pos (show pt = 1 by omega)]; exact ⟨p20.1, by rw [List.length_singleton]; omega⟩)
        | (rw [if_neg (show ¬ pt = 1 by omega), List.append_nil]; exact ⟨p20.1, by rw [List.length_nil]; omega⟩)
    exact z_vret S hr hlk w (C20, len20) k2_ rfl dX2_putDecimals_23

set_option maxRecDepth 20000 in
theorem ln_X2_putPlain_12 : Cond.fieldLink RX2 12 "DecimalText" "worth" "LDecimalText$Worth;" ∈ wsX2_putPlain := by decide +kernel
theorem in_X2_putPlain_X2 : ∀ w ∈ u_ws RX2 TX2 2, w ∈ wsX2_putPlain := by decide +kernel
set_option maxRecDepth 20000 in
theorem ml_X2_putPlain_99 : Cond.methodLink RX2 99 Lib.Math.max.name ∈ wsX2_putPlain := by decide +kernel
set_option maxRecDepth 20000 in
theorem st_X2_putPlain_max : Cond.static Lib.Math.max.name ∈ wsX2_putPlain := by decide +kernel
set_option maxRecDepth 20000 in
theorem ini_X2_putPlain_Math : Cond.initialized "java/lang/Math" ∈ wsX2_putPlain := by decide +kernel
set_option maxRecDepth 20000 in
theorem co_X2_putPlain_max : Cond.code Lib.Math.max.name Lib.Math.max.code 2 (some .int) ∈ wsX2_putPlain := by decide +kernel
set_option maxHeartbeats 4000000 in
set_option maxRecDepth 100000 in
theorem c_X2_putPlain (l : Launch) (D : va_G) (cL cR cC : ClassId) (h : Nat) (hw : Nat) (ha : Nat) (hr1 : Nat) (hn : Nat) (hc : Nat) (L : Nat → Int) (lc : Int) (Rw : Nat → Int) (cnt : Int) (dec : Int) (C : Nat → Int) (len : Int) (T : List Int) (N : Nat) (X : Nat) (p1 : Int) (pt : Int) (hT : lRep C len T) (hrep : ∀ j : Nat, j < 774 → Rw j = (dg N j : Int)) (hcn : cnt = (ln N : Int)) (hdec : 0 ≤ dec ∧ dec ≤ 1074) (hN : N < 10 ^ 767) (hX : N * 10 ^ (1200 - dec).toNat = X) (hXb : X ≤ 2 * 10 ^ 1508) (hp : 0 ≤ p1 ∧ p1 ≤ 15) (hpt : pt = 0 ∨ pt = 1) (hlen : len ≤ 10) : zMv (T := (Nat → Int) × Int × (Nat → Int) × Int) l yX2_putPlain wsX2_putPlain ({ frames := 4, cells := 0, slots := 0, locals := 88 } : Room) D [(cL, .int), (cR, .int), (cC, .char)] [.ref h, .int (zI p1), .int (zI pt)] [(h, .inr (2, [.ref hw, .ref hn])), (hw, .inr (1, [.ref ha, .int (zI lc), .ref hr1, .int (zI cnt), .int (zI dec)])), (ha, .inl (cL, 86, .inl (zA L))), (hr1, .inl (cR, 774, .inl (zA Rw))), (hn, .inr (0, [.ref hc, .int (zI len)])), (hc, .inl (cC, 400, .inl (zA C)))] (fun (u : (Nat → Int) × Int × (Nat → Int) × Int) => lRep u.2.2.1 u.2.2.2 (T ++ plT X p1 pt) ∧ u.2.2.2 ≤ 340) (fun (u : (Nat → Int) × Int × (Nat → Int) × Int) => [(h, .inr (2, [.ref hw, .ref hn])), (hw, .inr (1, [.ref ha, .int (zI lc), .ref hr1, .int (zI u.2.1), .int (zI dec)])), (ha, .inl (cL, 86, .inl (zA L))), (hr1, .inl (cR, 774, .inl (zA u.1))), (hn, .inr (0, [.ref hc, .int (zI u.2.2.2)])), (hc, .inl (cC, 400, .inl (zA u.2.2.1)))]) 0 0 := by
  refine zMv.of (bytes := cX2_putPlain) (nL := 3) (own := RX2) (by decide) rfl rfl (Nat.le_of_ble_eq_true rfl) ?_
  intro p e s m below meth c ls S hr hlk hnm w hl
  have hl : lv_has ls 3 [(0, .ref h), (1, .int (zI p1)), (2, .int (zI pt))] := hl
  have hl0 := hT.1.1
  refine lv_aload_n S.1 S.2.1 dX2_putPlain_0 rfl (lv_at hl 0 rfl) ?_
  refine z_get (ci := 2) (C := RX2) (T := TX2) (N := 2) S w 0 rfl rfl in_X2_putPlain_X2 0 (by decide) ln_X2_putPlain_12 rfl rfl dX2_putPlain_1 ?_
  refine lv_iload_n S.1 S.2.1 dX2_putPlain_4 rfl (lv_at hl 1 rfl) ?_
  refine z_ineg S dX2_putPlain_5 ?_
  refine z_callvV (C := RX1) (n := 1) (As := [.int (zI (-p1))]) (rest := []) (wr := [(h, .inr (2, [.ref hw, .ref hn])), (hn, .inr (0, [.ref hc, .int (zI len)])), (hc, .inl (cC, 400, .inl (zA C)))]) (wn := (fun (u : (Nat → Int) × Int) => [(h, .inr (2, [.ref hw, .ref hn])), (hw, .inr (1, [.ref ha, .int (zI lc), .ref hr1, .int (zI u.2), .int (zI dec)])), (ha, .inl (cL, 86, .inl (zA L))), (hr1, .inl (cR, 774, .inl (zA u.1))), (hn, .inr (0, [.ref hc, .int (zI len)])), (hc, .inl (cC, 400, .inl (zA C)))])) S w (c_X1_roundTo l D cL cR hw ha hr1 L lc Rw cnt dec (-p1) N (by omega) (by omega) hrep (by omega) hN) gX2_putPlain_X1_roundTo (by decide +kernel) rfl ⟨rfl, rfl⟩ ⟨Nat.le_of_ble_eq_true rfl, Nat.le_of_ble_eq_true rfl⟩ [0, 1] [1, 2, 3] [0, 4, 5] [0, 3, 4, 5, 1, 2] rfl rfl rfl rfl rfl (by decide) (fun u => rfl) rfl rfl rfl rfl rfl hl.1 (Nat.le_of_ble_eq_true rfl) ⟨Nat.le_of_ble_eq_true rfl, Nat.le_of_ble_eq_true rfl⟩ rfl dX2_putPlain_6 (fun u H locs p6 w => ?_)
  obtain ⟨R6, cn6⟩ := u
  have p6 : (∀ j : Nat, ((-p1) + dec).toNat ≤ j → j < 774 → R6 j = (dg (rX N ((-p1) + dec).toNat) j : Int)) ∧ (0 < rX N ((-p1) + dec).toNat → cn6 = (ln (rX N ((-p1) + dec).toNat) : Int)) ∧ (rX N ((-p1) + dec).toNat = 0 → cn6 ≤ (((-p1) + dec).toNat : Int)) ∧ (0 ≤ cn6 ∧ cn6 ≤ 774) ∧ (∀ j : Nat, j < 774 → 0 ≤ R6 j ∧ R6 j ≤ 9) ∧ (N = 0 → cn6 = 0) := p6
  have w : zW D _ _ s [(h, .inr (2, [.ref hw, .ref hn])), (hw, .inr (1, [.ref ha, .int (zI lc), .ref hr1, .int (zI cn6), .int (zI dec)])), (ha, .inl (cL, 86, .inl (zA L))), (hr1, .inl (cR, 774, .inl (zA R6))), (hn, .inr (0, [.ref hc, .int (zI len)])), (hc, .inl (cC, 400, .inl (zA C)))] H locs := w
  obtain ⟨r1, r2, r3, r4, r5, r6⟩ := p6
  obtain ⟨Y, eY0⟩ : ∃ Y, rX X (1200 - p1).toNat = Y := ⟨_, rfl⟩
  have eY1 : Y = rX N (-p1 + dec).toNat * 10 ^ (1200 - dec).toNat := by rw [← eY0]; exact rX_scale hX (by omega)
  have hY : Y < 10 ^ 1509 := by rw [← eY0]; exact pl_bnd hXb (by omega)
  have hM : rX N (-p1 + dec).toNat < 10 ^ 774 := by
    rcases Nat.eq_zero_or_pos (rX N (-p1 + dec).toNat) with q | q
    · rw [q]; exact p10_pos 774
    · exact Nat.lt_of_lt_of_le (ln_lt _) (Nat.pow_le_pow_right (by decide) (by have := r2 q; omega))
  have hg : ∀ q : Int, -p1 ≤ q → dI R6 (q + dec) = gX Y q := fun q hq => row_gX eY1 hdec r1 hM (by omega)
  have hb := ln_bnd hY
  refine lv_aload_n S.1 S.2.1 dX2_putPlain_9 rfl (lv_at hl 0 rfl) ?_
  refine lv_aload_n S.1 S.2.1 dX2_putPlain_10 rfl (lv_at hl 0 rfl) ?_
  refine z_get (ci := 2) (C := RX2) (T := TX2) (N := 2) S w 0 rfl rfl in_X2_putPlain_X2 0 (by decide) ln_X2_putPlain_12 rfl rfl dX2_putPlain_11 ?_
  refine z_calliV (C := RX1) (n := 0) (As := []) (rest := [.ref h]) (wr := [(h, .inr (2, [.ref hw, .ref hn])), (hn, .inr (0, [.ref hc, .int (zI len)])), (hc, .inl (cC, 400, .inl (zA C)))]) (wn := (fun (u : Unit) => [(h, .inr (2, [.ref hw, .ref hn])), (hw, .inr (1, [.ref ha, .int (zI lc), .ref hr1, .int (zI cn6), .int (zI dec)])), (ha, .inl (cL, 86, .inl (zA L))), (hr1, .inl (cR, 774, .inl (zA R6))), (hn, .inr (0, [.ref hc, .int (zI len)])), (hc, .inl (cC, 400, .inl (zA C)))])) S w (c_X1_highestPower l D cL cR hw ha hr1 L lc R6 cn6 dec (by omega) (by omega)) gX2_putPlain_X1_highestPower (by decide +kernel) rfl ⟨rfl, rfl⟩ ⟨Nat.le_of_ble_eq_true rfl, Nat.le_of_ble_eq_true rfl⟩ [0, 1] [1, 2, 3] [0, 4, 5] [0, 3, 4, 5, 1, 2] rfl rfl rfl rfl rfl (by decide) (fun u => rfl) rfl rfl rfl rfl rfl hl.1 (Nat.le_of_ble_eq_true rfl) ⟨Nat.le_of_ble_eq_true rfl, Nat.le_of_ble_eq_true rfl⟩ rfl dX2_putPlain_14 (fun z14 _ H locs p14 w => ?_)
  have p14 : z14 = (if cn6 = 0 then 0 else cn6 - 1 - dec) := p14
  have w : zW D _ _ s [(h, .inr (2, [.ref hw, .ref hn])), (hw, .inr (1, [.ref ha, .int (zI lc), .ref hr1, .int (zI cn6), .int (zI dec)])), (ha, .inl (cL, 86, .inl (zA L))), (hr1, .inl (cR, 774, .inl (zA R6))), (hn, .inr (0, [.ref hc, .int (zI len)])), (hc, .inl (cC, 400, .inl (zA C)))] H locs := w
  have b14 : -2000 ≤ z14 ∧ z14 ≤ 2000 := by
    rw [p14]
    by_cases k5 : cn6 = 0
    · rw [if_pos k5]; omega
    · rw [if_neg k5]; omega
  refine z_iconst S dX2_putPlain_17 ?_
  refine z_mmax S ml_X2_putPlain_99 st_X2_putPlain_max ini_X2_putPlain_Math co_X2_putPlain_max hl.1 (Nat.le_of_ble_eq_true rfl) (Nat.le_of_ble_eq_true rfl) (Nat.le_of_ble_eq_true rfl) (Nat.le_of_ble_eq_true rfl) dX2_putPlain_18 (by omega) (by omega) (fun m18 hm18 => ?_)
  have hmx : m18 = (if 0 < hiX Y then hiX Y else 0) := by
    rcases Nat.eq_zero_or_pos (rX N (-p1 + dec).toNat) with q | q
    · have k1 := r3 q
      have k2 : Y = 0 := by rw [eY1, q, Nat.zero_mul]
      have k3 : hiX Y = 0 := by unfold hiX; rw [if_pos k2]
      rw [if_neg (by omega)]
      have k4 : z14 ≤ 0 := by
        rw [p14]
        by_cases k5 : cn6 = 0
        · rw [if_pos k5]; omega
        · rw [if_neg k5]; omega
      omega
    · rw [hi_gX eY1 hdec q (r2 q)] at p14
      by_cases k5 : 0 < hiX Y
      · rw [if_pos k5]; omega
      · rw [if_neg k5]; omega
  have hmb : 0 ≤ m18 ∧ m18 ≤ 308 := by
    by_cases k5 : 0 < hiX Y
    · rw [if_pos k5] at hmx; omega
    · rw [if_neg k5] at hmx; omega
  refine z_iconst S dX2_putPlain_21 ?_
  refine z_callvV (C := RX2) (n := 2) (As := [.int (zI m18), .int (zI 0)]) (rest := []) (wr := []) (wn := (fun (u : (Nat → Int) × Int) => [(h, .inr (2, [.ref hw, .ref hn])), (hw, .inr (1, [.ref ha, .int (zI lc), .ref hr1, .int (zI cn6), .int (zI dec)])), (ha, .inl (cL, 86, .inl (zA L))), (hr1, .inl (cR, 774, .inl (zA R6))), (hn, .inr (0, [.ref hc, .int (zI u.2)])), (hc, .inl (cC, 400, .inl (zA u.1)))])) S w (c_X2_putDigits l D cL cR cC h hw ha hr1 hn hc L lc R6 cn6 dec C len T m18 0 hT r5 (by omega) (by omega) (by omega)) gX2_putPlain_X2_putDigits (by decide +kernel) rfl ⟨rfl, rfl⟩ ⟨Nat.le_of_ble_eq_true rfl, Nat.le_of_ble_eq_true rfl⟩ [0, 1, 2] [0, 1, 2, 3, 4, 5] [] [0, 1, 2, 3, 4, 5] rfl rfl rfl rfl rfl (by decide) (fun u => rfl) rfl rfl rfl rfl rfl hl.1 (Nat.le_of_ble_eq_true rfl) ⟨Nat.le_of_ble_eq_true rfl, Nat.le_of_ble_eq_true rfl⟩ rfl dX2_putPlain_22 (fun u H locs p22 w => ?_)
  obtain ⟨C22, len22⟩ := u
  have p22 : lRep C22 len22 (T ++ dT (fun x9 => dI R6 (x9 + dec)) m18 (0 : Int)) ∧ len22 = len + ((m18 - (0 : Int) + 1).toNat : Int) := p22
  have w : zW D _ _ s [(h, .inr (2, [.ref hw, .ref hn])), (hw, .inr (1, [.ref ha, .int (zI lc), .ref hr1, .int (zI cn6), .int (zI dec)])), (ha, .inl (cL, 86, .inl (zA L))), (hr1, .inl (cR, 774, .inl (zA R6))), (hn, .inr (0, [.ref hc, .int (zI len22)])), (hc, .inl (cC, 400, .inl (zA C22)))] H locs := w
  refine lv_aload_n S.1 S.2.1 dX2_putPlain_25 rfl (lv_at hl 0 rfl) ?_
  refine z_iconst S dX2_putPlain_26 ?_
  refine lv_iload_n S.1 S.2.1 dX2_putPlain_27 rfl (lv_at hl 1 rfl) ?_
  refine lv_iload_n S.1 S.2.1 dX2_putPlain_28 rfl (lv_at hl 2 rfl) ?_
  refine z_callvV (C := RX2) (n := 3) (As := [.int (zI 0), .int (zI p1), .int (zI pt)]) (rest := []) (wr := []) (wn := (fun (u : (Nat → Int) × Int) => [(h, .inr (2, [.ref hw, .ref hn])), (hw, .inr (1, [.ref ha, .int (zI lc), .ref hr1, .int (zI cn6), .int (zI dec)])), (ha, .inl (cL, 86, .inl (zA L))), (hr1, .inl (cR, 774, .inl (zA R6))), (hn, .inr (0, [.ref hc, .int (zI u.2)])), (hc, .inl (cC, 400, .inl (zA u.1)))])) S w (c_X2_putDecimals l D cL cR cC h hw ha hr1 hn hc L lc R6 cn6 dec C22 len22 _ 0 p1 pt p22.1 r5 (by omega) (by omega) (by omega) (by omega) (by omega)) gX2_putPlain_X2_putDecimals (by decide +kernel) rfl ⟨rfl, rfl⟩ ⟨Nat.le_of_ble_eq_true rfl, Nat.le_of_ble_eq_true rfl⟩ [0, 1, 2] [0, 1, 2, 3, 4, 5] [] [0, 1, 2, 3, 4, 5] rfl rfl rfl rfl rfl (by decide) (fun u => rfl) rfl rfl rfl rfl rfl hl.1 (Nat.le_of_ble_eq_true rfl) ⟨Nat.le_of_ble_eq_true rfl, Nat.le_of_ble_eq_true rfl⟩ rfl dX2_putPlain_29 (fun u H locs p29 w => ?_)
  obtain ⟨C29, len29⟩ := u
  have p29 : lRep C29 len29 (_ ++ ptT pt ++ dT (fun x9 => dI R6 (x9 + dec)) ((0 : Int) - 1) ((0 : Int) - p1)) ∧ len29 = len22 + ((ptT pt).length : Int) + p1 := p29
  have w : zW D _ _ s [(h, .inr (2, [.ref hw, .ref hn])), (hw, .inr (1, [.ref ha, .int (zI lc), .ref hr1, .int (zI cn6), .int (zI dec)])), (ha, .inl (cL, 86, .inl (zA L))), (hr1, .inl (cR, 774, .inl (zA R6))), (hn, .inr (0, [.ref hc, .int (zI len29)])), (hc, .inl (cC, 400, .inl (zA C29)))] H locs := w
  have k1_ : lRep C29 len29 (T ++ plT X p1 pt) ∧ len29 ≤ 340 := by
    have q1 := p29.1
    have e1 : dT (fun q => dI R6 (q + dec)) m18 0 = dT (gX Y) m18 0 := dT_congr (fun q k1 k2 => hg q (by omega))
    have e2 : dT (fun q => dI R6 (q + dec)) (0 - 1) (0 - p1) = dT (gX Y) (-1) (-p1) := by
      have k1 : (0 : Int) - 1 = -1 := by omega
      have k2 : 0 - p1 = -p1 := by omega
      rw [k1, k2]; exact dT_congr (fun q k1 k2 => hg q (by omega))
    rw [e1, e2, hmx] at q1
    have hpl : ((ptT pt).length : Int) ≤ 1 := by
      unfold ptT
      by_cases k : pt = 1
      · rw [if_pos k]; decide
      · rw [if_neg k]; decide
    unfold plT
    rw [eY0]
    simp only [List.append_assoc] at q1 ⊢
    exact ⟨q1, by omega⟩
  exact z_vret S hr hlk w (R6, cn6, C29, len29) k1_ rfl dX2_putPlain_32

set_option maxRecDepth 20000 in
theorem ln_X2_putWithExponent_12 : Cond.fieldLink RX2 12 "DecimalText" "worth" "LDecimalText$Worth;" ∈ wsX2_putWithExponent := by decide +kernel
theorem in_X2_putWithExponent_X2 : ∀ w ∈ u_ws RX2 TX2 2, w ∈ wsX2_putWithExponent := by decide +kernel
set_option maxHeartbeats 4000000 in
set_option maxRecDepth 100000 in
theorem c_X2_putWithExponent (l : Launch) (D : va_G) (cL cR cC : ClassId) (h : Nat) (hw : Nat) (ha : Nat) (hr1 : Nat) (hn : Nat) (hc : Nat) (L : Nat → Int) (lc : Int) (Rw : Nat → Int) (cnt : Int) (dec : Int) (C : Nat → Int) (len : Int) (T : List Int) (N : Nat) (X : Nat) (p1 : Int) (pt : Int) (mk : Int) (hT : lRep C len T) (hrep : ∀ j : Nat, j < 774 → Rw j = (dg N j : Int)) (hcn : cnt = (ln N : Int)) (hdec : 0 ≤ dec ∧ dec ≤ 1074) (hN : N < 10 ^ 767) (hX : N * 10 ^ (1200 - dec).toNat = X) (hXb : X ≤ 2 * 10 ^ 1508) (hp : 0 ≤ p1 ∧ p1 ≤ 15) (hpt : pt = 0 ∨ pt = 1) (hmk : 0 ≤ mk ∧ mk ≤ 65535) (hlen : len ≤ 10) : zMv (T := (Nat → Int) × Int × (Nat → Int) × Int) l yX2_putWithExponent wsX2_putWithExponent ({ frames := 4, cells := 0, slots := 0, locals := 88 } : Room) D [(cL, .int), (cR, .int), (cC, .char)] [.ref h, .int (zI p1), .int (zI pt), .int (zI mk)] [(h, .inr (2, [.ref hw, .ref hn])), (hw, .inr (1, [.ref ha, .int (zI lc), .ref hr1, .int (zI cnt), .int (zI dec)])), (ha, .inl (cL, 86, .inl (zA L))), (hr1, .inl (cR, 774, .inl (zA Rw))), (hn, .inr (0, [.ref hc, .int (zI len)])), (hc, .inl (cC, 400, .inl (zA C)))] (fun (u : (Nat → Int) × Int × (Nat → Int) × Int) => lRep u.2.2.1 u.2.2.2 (T ++ epT X p1 pt mk) ∧ u.2.2.2 ≤ 340) (fun (u : (Nat → Int) × Int × (Nat → Int) × Int) => [(h, .inr (2, [.ref hw, .ref hn])), (hw, .inr (1, [.ref ha, .int (zI lc), .ref hr1, .int (zI u.2.1), .int (zI dec)])), (ha, .inl (cL, 86, .inl (zA L))), (hr1, .inl (cR, 774, .inl (zA u.1))), (hn, .inr (0, [.ref hc, .int (zI u.2.2.2)])), (hc, .inl (cC, 400, .inl (zA u.2.2.1)))]) 0 0 := by
  refine zMv.of (bytes := cX2_putWithExponent) (nL := 5) (own := RX2) (by decide) rfl rfl (Nat.le_of_ble_eq_true rfl) ?_
  intro p e s m below meth c ls S hr hlk hnm w hl
  have hl : lv_has ls 5 [(0, .ref h), (1, .int (zI p1)), (2, .int (zI pt)), (3, .int (zI mk))] := hl
  have hl0 := hT.1.1
  have hlN := ln_le_of hN
  have hcnt : 0 ≤ cnt ∧ cnt ≤ 774 := by omega
  refine lv_aload_n S.1 S.2.1 dX2_putWithExponent_0 rfl (lv_at hl 0 rfl) ?_
  refine z_get (ci := 2) (C := RX2) (T := TX2) (N := 2) S w 0 rfl rfl in_X2_putWithExponent_X2 0 (by decide) ln_X2_putWithExponent_12 rfl rfl dX2_putWithExponent_1 ?_
  refine lv_aload_n S.1 S.2.1 dX2_putWithExponent_4 rfl (lv_at hl 0 rfl) ?_
  refine z_get (ci := 2) (C := RX2) (T := TX2) (N := 2) S w 0 rfl rfl in_X2_putWithExponent_X2 0 (by decide) ln_X2_putWithExponent_12 rfl rfl dX2_putWithExponent_5 ?_
  refine z_calliV (C := RX1) (n := 0) (As := []) (rest := [.ref hw]) (wr := [(h, .inr (2, [.ref hw, .ref hn])), (hn, .inr (0, [.ref hc, .int (zI len)])), (hc, .inl (cC, 400, .inl (zA C)))]) (wn := (fun (u : Unit) => [(h, .inr (2, [.ref hw, .ref hn])), (hw, .inr (1, [.ref ha, .int (zI lc), .ref hr1, .int (zI cnt), .int (zI dec)])), (ha, .inl (cL, 86, .inl (zA L))), (hr1, .inl (cR, 774, .inl (zA Rw))), (hn, .inr (0, [.ref hc, .int (zI len)])), (hc, .inl (cC, 400, .inl (zA C)))])) S w (c_X1_highestPower l D cL cR hw ha hr1 L lc Rw cnt dec (by omega) (by omega)) gX2_putWithExponent_X1_highestPower (by decide +kernel) rfl ⟨rfl, rfl⟩ ⟨Nat.le_of_ble_eq_true rfl, Nat.le_of_ble_eq_true rfl⟩ [0, 1] [1, 2, 3] [0, 4, 5] [0, 3, 4, 5, 1, 2] rfl rfl rfl rfl rfl (by decide) (fun u => rfl) rfl rfl rfl rfl rfl hl.1 (Nat.le_of_ble_eq_true rfl) ⟨Nat.le_of_ble_eq_true rfl, Nat.le_of_ble_eq_true rfl⟩ rfl dX2_putWithExponent_8 (fun z8 _ H locs p8 w => ?_)
  have p8 : z8 = (if cnt = 0 then 0 else cnt - 1 - dec) := p8
  have w : zW D _ _ s [(h, .inr (2, [.ref hw, .ref hn])), (hw, .inr (1, [.ref ha, .int (zI lc), .ref hr1, .int (zI cnt), .int (zI dec)])), (ha, .inl (cL, 86, .inl (zA L))), (hr1, .inl (cR, 774, .inl (zA Rw))), (hn, .inr (0, [.ref hc, .int (zI len)])), (hc, .inl (cC, 400, .inl (zA C)))] H locs := w
  have b8 : (N = 0 ∧ z8 = 0) ∨ (0 < N ∧ z8 = (ln N : Int) - 1 - dec) := by
    rw [p8]
    rcases Nat.eq_zero_or_pos N with q | q
    · rw [if_pos (by rw [hcn, q, ln_0]; rfl)]; exact Or.inl ⟨q, rfl⟩
    · have q1 : 0 < ln N := by rw [ln_pos q]; omega
      rw [if_neg (by omega)]; exact Or.inr ⟨q, by omega⟩
  refine lv_iload_n S.1 S.2.1 dX2_putWithExponent_11 rfl (lv_at hl 1 rfl) ?_
  refine z_isub S dX2_putWithExponent_12 ?_
  refine z_callvV (C := RX1) (n := 1) (As := [.int (zI (z8 - p1))]) (rest := []) (wr := [(h, .inr (2, [.ref hw, .ref hn])), (hn, .inr (0, [.ref hc, .int (zI len)])), (hc, .inl (cC, 400, .inl (zA C)))]) (wn := (fun (u : (Nat → Int) × Int) => [(h, .inr (2, [.ref hw, .ref hn])), (hw, .inr (1, [.ref ha, .int (zI lc), .ref hr1, .int (zI u.2), .int (zI dec)])), (ha, .inl (cL, 86, .inl (zA L))), (hr1, .inl (cR, 774, .inl (zA u.1))), (hn, .inr (0, [.ref hc, .int (zI len)])), (hc, .inl (cC, 400, .inl (zA C)))])) S w (c_X1_roundTo l D cL cR hw ha hr1 L lc Rw cnt dec (z8 - p1) N (by omega) (by omega) hrep (by omega) hN) gX2_putWithExponent_X1_roundTo (by decide +kernel) rfl ⟨rfl, rfl⟩ ⟨Nat.le_of_ble_eq_true rfl, Nat.le_of_ble_eq_true rfl⟩ [0, 1] [1, 2, 3] [0, 4, 5] [0, 3, 4, 5, 1, 2] rfl rfl rfl rfl rfl (by decide) (fun u => rfl) rfl rfl rfl rfl rfl hl.1 (Nat.le_of_ble_eq_true rfl) ⟨Nat.le_of_ble_eq_true rfl, Nat.le_of_ble_eq_true rfl⟩ rfl dX2_putWithExponent_13 (fun u H locs p13 w => ?_)
  obtain ⟨R6, cn6⟩ := u
  have p13 : (∀ j : Nat, ((z8 - p1) + dec).toNat ≤ j → j < 774 → R6 j = (dg (rX N ((z8 - p1) + dec).toNat) j : Int)) ∧ (0 < rX N ((z8 - p1) + dec).toNat → cn6 = (ln (rX N ((z8 - p1) + dec).toNat) : Int)) ∧ (rX N ((z8 - p1) + dec).toNat = 0 → cn6 ≤ (((z8 - p1) + dec).toNat : Int)) ∧ (0 ≤ cn6 ∧ cn6 ≤ 774) ∧ (∀ j : Nat, j < 774 → 0 ≤ R6 j ∧ R6 j ≤ 9) ∧ (N = 0 → cn6 = 0) := p13
  have w : zW D _ _ s [(h, .inr (2, [.ref hw, .ref hn])), (hw, .inr (1, [.ref ha, .int (zI lc), .ref hr1, .int (zI cn6), .int (zI dec)])), (ha, .inl (cL, 86, .inl (zA L))), (hr1, .inl (cR, 774, .inl (zA R6))), (hn, .inr (0, [.ref hc, .int (zI len)])), (hc, .inl (cC, 400, .inl (zA C)))] H locs := w
  obtain ⟨r1, r2, r3, r4, r5, r6⟩ := p13
  obtain ⟨Y, eY0⟩ : ∃ Y, eY X p1 = Y := ⟨_, rfl⟩
  have eY1 : Y = rX N (z8 - p1 + dec).toNat * 10 ^ (1200 - dec).toNat := by
    rw [← eY0]
    unfold eY
    rcases b8 with ⟨q1, q2⟩ | ⟨q1, q2⟩
    · rw [← hX, q1, Nat.zero_mul, rX_z, rX_z, Nat.zero_mul]
    · have q3 : ln X = ln N + (1200 - dec).toNat := by rw [← hX, ln_mul q1]
      exact rX_scale hX (by omega)
  have hM : rX N (z8 - p1 + dec).toNat < 10 ^ 774 := by
    rcases Nat.eq_zero_or_pos (rX N (z8 - p1 + dec).toNat) with q | q
    · rw [q]; exact p10_pos 774
    · exact Nat.lt_of_lt_of_le (ln_lt _) (Nat.pow_le_pow_right (by decide) (by have := r2 q; omega))
  have hg : ∀ q : Int, z8 - p1 ≤ q → dI R6 (q + dec) = gX Y q := fun q hq => row_gX eY1 hdec r1 hM (by omega)
  refine lv_aload_n S.1 S.2.1 dX2_putWithExponent_16 rfl (lv_at hl 0 rfl) ?_
  refine z_get (ci := 2) (C := RX2) (T := TX2) (N := 2) S w 0 rfl rfl in_X2_putWithExponent_X2 0 (by decide) ln_X2_putWithExponent_12 rfl rfl dX2_putWithExponent_17 ?_
  refine z_calliV (C := RX1) (n := 0) (As := []) (rest := []) (wr := [(h, .inr (2, [.ref hw, .ref hn])), (hn, .inr (0, [.ref hc, .int (zI len)])), (hc, .inl (cC, 400, .inl (zA C)))]) (wn := (fun (u : Unit) => [(h, .inr (2, [.ref hw, .ref hn])), (hw, .inr (1, [.ref ha, .int (zI lc), .ref hr1, .int (zI cn6), .int (zI dec)])), (ha, .inl (cL, 86, .inl (zA L))), (hr1, .inl (cR, 774, .inl (zA R6))), (hn, .inr (0, [.ref hc, .int (zI len)])), (hc, .inl (cC, 400, .inl (zA C)))])) S w (c_X1_highestPower l D cL cR hw ha hr1 L lc R6 cn6 dec (by omega) (by omega)) gX2_putWithExponent_X1_highestPower (by decide +kernel) rfl ⟨rfl, rfl⟩ ⟨Nat.le_of_ble_eq_true rfl, Nat.le_of_ble_eq_true rfl⟩ [0, 1] [1, 2, 3] [0, 4, 5] [0, 3, 4, 5, 1, 2] rfl rfl rfl rfl rfl (by decide) (fun u => rfl) rfl rfl rfl rfl rfl hl.1 (Nat.le_of_ble_eq_true rfl) ⟨Nat.le_of_ble_eq_true rfl, Nat.le_of_ble_eq_true rfl⟩ rfl dX2_putWithExponent_20 (fun z20 _ H locs p20 w => ?_)
  have p20 : z20 = (if cn6 = 0 then 0 else cn6 - 1 - dec) := p20
  have w : zW D _ _ s [(h, .inr (2, [.ref hw, .ref hn])), (hw, .inr (1, [.ref ha, .int (zI lc), .ref hr1, .int (zI cn6), .int (zI dec)])), (ha, .inl (cL, 86, .inl (zA L))), (hr1, .inl (cR, 774, .inl (zA R6))), (hn, .inr (0, [.ref hc, .int (zI len)])), (hc, .inl (cC, 400, .inl (zA C)))] H locs := w
  have b20 : z20 = hiX Y ∧ z8 ≤ z20 := by
    rcases b8 with ⟨q1, q2⟩ | ⟨q1, q2⟩
    · have k1 : Y = 0 := by rw [eY1, q1, rX_z, Nat.zero_mul]
      have k2 : hiX Y = 0 := by unfold hiX; rw [if_pos k1]
      rw [if_pos (r6 q1)] at p20
      omega
    · have k0 : 0 < ln N := by rw [ln_pos q1]; omega
      have k1 : ln N ≤ ln (rX N (z8 - p1 + dec).toNat) := rX_ge q1 (by omega)
      have k2 : 0 < rX N (z8 - p1 + dec).toNat := by
        rcases Nat.eq_zero_or_pos (rX N (z8 - p1 + dec).toNat) with q | q
        · rw [q, ln_0] at k1; omega
        · exact q
      have k3 := r2 k2
      rw [← hi_gX eY1 hdec k2 k3]
      refine ⟨p20, ?_⟩
      rw [p20, if_neg (by omega)]
      omega
  have c20 : -1100 ≤ z20 ∧ z20 ≤ 800 := by
    rw [p20]
    by_cases k5 : cn6 = 0
    · rw [if_pos k5]; omega
    · rw [if_neg k5]; omega
  refine lv_istore (lv' := [(4, .int (zI z20)), (0, .ref h), (1, .int (zI p1)), (2, .int (zI pt)), (3, .int (zI mk))]) S.1 S.2.1 dX2_putWithExponent_23 hl (by decide) rfl (fun ls hl => ?_)
  refine lv_aload_n S.1 S.2.1 dX2_putWithExponent_25 rfl (lv_at hl 1 rfl) ?_
  refine lv_iload S.1 S.2.1 dX2_putWithExponent_26 (lv_at hl 0 rfl) ?_
  refine lv_iload S.1 S.2.1 dX2_putWithExponent_28 (lv_at hl 0 rfl) ?_
  refine z_callvV (C := RX2) (n := 2) (As := [.int (zI z20), .int (zI z20)]) (rest := []) (wr := []) (wn := (fun (u : (Nat → Int) × Int) => [(h, .inr (2, [.ref hw, .ref hn])), (hw, .inr (1, [.ref ha, .int (zI lc), .ref hr1, .int (zI cn6), .int (zI dec)])), (ha, .inl (cL, 86, .inl (zA L))), (hr1, .inl (cR, 774, .inl (zA R6))), (hn, .inr (0, [.ref hc, .int (zI u.2)])), (hc, .inl (cC, 400, .inl (zA u.1)))])) S w (c_X2_putDigits l D cL cR cC h hw ha hr1 hn hc L lc R6 cn6 dec C len T z20 z20 hT r5 (by omega) (by omega) (by omega)) gX2_putWithExponent_X2_putDigits (by decide +kernel) rfl ⟨rfl, rfl⟩ ⟨Nat.le_of_ble_eq_true rfl, Nat.le_of_ble_eq_true rfl⟩ [0, 1, 2] [0, 1, 2, 3, 4, 5] [] [0, 1, 2, 3, 4, 5] rfl rfl rfl rfl rfl (by decide) (fun u => rfl) rfl rfl rfl rfl rfl hl.1 (Nat.le_of_ble_eq_true rfl) ⟨Nat.le_of_ble_eq_true rfl, Nat.le_of_ble_eq_true rfl⟩ rfl dX2_putWithExponent_30 (fun u H locs p30 w => ?_)
  obtain ⟨C30, len30⟩ := u
  have p30 : lRep C30 len30 (T ++ dT (fun x9 => dI R6 (x9 + dec)) z20 z20) ∧ len30 = len + ((z20 - z20 + 1).toNat : Int) := p30
  have w : zW D _ _ s [(h, .inr (2, [.ref hw, .ref hn])), (hw, .inr (1, [.ref ha, .int (zI lc), .ref hr1, .int (zI cn6), .int (zI dec)])), (ha, .inl (cL, 86, .inl (zA L))), (hr1, .inl (cR, 774, .inl (zA R6))), (hn, .inr (0, [.ref hc, .int (zI len30)])), (hc, .inl (cC, 400, .inl (zA C30)))] H locs := w
  refine lv_aload_n S.1 S.2.1 dX2_putWithExponent_33 rfl (lv_at hl 1 rfl) ?_
  refine lv_iload S.1 S.2.1 dX2_putWithExponent_34 (lv_at hl 0 rfl) ?_
  refine lv_iload_n S.1 S.2.1 dX2_putWithExponent_36 rfl (lv_at hl 2 rfl) ?_
  refine lv_iload_n S.1 S.2.1 dX2_putWithExponent_37 rfl (lv_at hl 3 rfl) ?_
  refine z_callvV (C := RX2) (n := 3) (As := [.int (zI z20), .int (zI p1), .int (zI pt)]) (rest := []) (wr := []) (wn := (fun (u : (Nat → Int) × Int) => [(h, .inr (2, [.ref hw, .ref hn])), (hw, .inr (1, [.ref ha, .int (zI lc), .ref hr1, .int (zI cn6), .int (zI dec)])), (ha, .inl (cL, 86, .inl (zA L))), (hr1, .inl (cR, 774, .inl (zA R6))), (hn, .inr (0, [.ref hc, .int (zI u.2)])), (hc, .inl (cC, 400, .inl (zA u.1)))])) S w (c_X2_putDecimals l D cL cR cC h hw ha hr1 hn hc L lc R6 cn6 dec C30 len30 _ z20 p1 pt p30.1 r5 (by omega) (by omega) (by omega) (by omega) (by omega)) gX2_putWithExponent_X2_putDecimals (by decide +kernel) rfl ⟨rfl, rfl⟩ ⟨Nat.le_of_ble_eq_true rfl, Nat.le_of_ble_eq_true rfl⟩ [0, 1, 2] [0, 1, 2, 3, 4, 5] [] [0, 1, 2, 3, 4, 5] rfl rfl rfl rfl rfl (by decide) (fun u => rfl) rfl rfl rfl rfl rfl hl.1 (Nat.le_of_ble_eq_true rfl) ⟨Nat.le_of_ble_eq_true rfl, Nat.le_of_ble_eq_true rfl⟩ rfl dX2_putWithExponent_38 (fun u H locs p38 w => ?_)
  obtain ⟨C38, len38⟩ := u
  have p38 : lRep C38 len38 (_ ++ ptT pt ++ dT (fun x9 => dI R6 (x9 + dec)) (z20 - 1) (z20 - p1)) ∧ len38 = len30 + ((ptT pt).length : Int) + p1 := p38
  have w : zW D _ _ s [(h, .inr (2, [.ref hw, .ref hn])), (hw, .inr (1, [.ref ha, .int (zI lc), .ref hr1, .int (zI cn6), .int (zI dec)])), (ha, .inl (cL, 86, .inl (zA L))), (hr1, .inl (cR, 774, .inl (zA R6))), (hn, .inr (0, [.ref hc, .int (zI len38)])), (hc, .inl (cC, 400, .inl (zA C38)))] H locs := w
  have hpl : ((ptT pt).length : Int) ≤ 1 := by
    unfold ptT
    by_cases k : pt = 1
    · rw [if_pos k]; decide
    · rw [if_neg k]; decide
  refine lv_aload_n S.1 S.2.1 dX2_putWithExponent_41 rfl (lv_at hl 1 rfl) ?_
  refine lv_iload S.1 S.2.1 dX2_putWithExponent_42 (lv_at hl 0 rfl) ?_
  refine lv_iload_n S.1 S.2.1 dX2_putWithExponent_44 rfl (lv_at hl 4 rfl) ?_
  refine z_callvV (C := RX2) (n := 2) (As := [.int (zI z20), .int (zI mk)]) (rest := []) (wr := [(hw, .inr (1, [.ref ha, .int (zI lc), .ref hr1, .int (zI cn6), .int (zI dec)])), (ha, .inl (cL, 86, .inl (zA L))), (hr1, .inl (cR, 774, .inl (zA R6)))]) (wn := (fun (u : (Nat → Int) × Int) => [(h, .inr (2, [.ref hw, .ref hn])), (hw, .inr (1, [.ref ha, .int (zI lc), .ref hr1, .int (zI cn6), .int (zI dec)])), (ha, .inl (cL, 86, .inl (zA L))), (hr1, .inl (cR, 774, .inl (zA R6))), (hn, .inr (0, [.ref hc, .int (zI u.2)])), (hc, .inl (cC, 400, .inl (zA u.1)))])) S w (c_X2_putExponent l D cC h hw hn hc C38 len38 _ z20 mk p38.1 (by omega) (by omega) (by omega)) gX2_putWithExponent_X2_putExponent (by decide +kernel) rfl ⟨rfl, rfl⟩ ⟨Nat.le_of_ble_eq_true rfl, Nat.le_of_ble_eq_true rfl⟩ [2] [0, 4, 5] [1, 2, 3] [3, 0, 1, 2, 4, 5] rfl rfl rfl rfl rfl (by decide) (fun u => rfl) rfl rfl rfl rfl rfl hl.1 (Nat.le_of_ble_eq_true rfl) ⟨Nat.le_of_ble_eq_true rfl, Nat.le_of_ble_eq_true rfl⟩ rfl dX2_putWithExponent_45 (fun u H locs p45 w => ?_)
  obtain ⟨C45, len45⟩ := u
  have p45 : lRep C45 len45 (_ ++ exT z20 mk) ∧ len45 = len38 + ((exT z20 mk).length : Int) := p45
  have w : zW D _ _ s [(h, .inr (2, [.ref hw, .ref hn])), (hw, .inr (1, [.ref ha, .int (zI lc), .ref hr1, .int (zI cn6), .int (zI dec)])), (ha, .inl (cL, 86, .inl (zA L))), (hr1, .inl (cR, 774, .inl (zA R6))), (hn, .inr (0, [.ref hc, .int (zI len45)])), (hc, .inl (cC, 400, .inl (zA C45)))] H locs := w
  have k1_ : lRep C45 len45 (T ++ epT X p1 pt mk) ∧ len45 ≤ 340 := by
    have q1 := p45.1
    have e1 : dT (fun q => dI R6 (q + dec)) z20 z20 = dT (gX Y) z20 z20 := dT_congr (fun q k1 k2 => hg q (by omega))
    have e2 : dT (fun q => dI R6 (q + dec)) (z20 - 1) (z20 - p1) = dT (gX Y) (z20 - 1) (z20 - p1) := dT_congr (fun q k1 k2 => hg q (by omega))
    rw [e1, e2, b20.1] at q1
    have hxl : ((exT z20 mk).length : Int) ≤ 5 := by
      unfold exT
      by_cases k : 100 ≤ exA z20
      · rw [if_pos k]; simp
      · rw [if_neg k]; simp
    unfold epT
    rw [eY0]
    simp only [List.append_assoc] at q1 ⊢
    exact ⟨q1, by omega⟩
  exact z_vret S hr hlk w (R6, cn6, C45, len45) k1_ rfl dX2_putWithExponent_48

set_option maxHeartbeats 4000000 in
set_option maxRecDepth 100000 in
theorem c_X2_putBody (l : Launch) (D : va_G) (cL cR cC : ClassId) (h : Nat) (hw : Nat) (ha : Nat) (hr1 : Nat) (hn : Nat) (hc : Nat) (L : Nat → Int) (lc : Int) (Rw : Nat → Int) (cnt : Int) (dec : Int) (C : Nat → Int) (len : Int) (T : List Int) (N : Nat) (X : Nat) (how : Int) (p1 : Int) (pt : Int) (hT : lRep C len T) (hrep : ∀ j : Nat, j < 774 → Rw j = (dg N j : Int)) (hcn : cnt = (ln N : Int)) (hdec : 0 ≤ dec ∧ dec ≤ 1074) (hN : N < 10 ^ 767) (hX : N * 10 ^ (1200 - dec).toNat = X) (hXb : X ≤ 2 * 10 ^ 1508) (hhow : 0 ≤ how ∧ how ≤ 2) (hp : 0 ≤ p1 ∧ p1 ≤ 15) (hpt : pt = 0 ∨ pt = 1) (hlen : len ≤ 10) : zMv (T := (Nat → Int) × Int × (Nat → Int) × Int) l yX2_putBody wsX2_putBody ({ frames := 5, cells := 0, slots := 0, locals := 112 } : Room) D [(cL, .int), (cR, .int), (cC, .char)] [.ref h, .int (zI how), .int (zI p1), .int (zI pt)] [(h, .inr (2, [.ref hw, .ref hn])), (hw, .inr (1, [.ref ha, .int (zI lc), .ref hr1, .int (zI cnt), .int (zI dec)])), (ha, .inl (cL, 86, .inl (zA L))), (hr1, .inl (cR, 774, .inl (zA Rw))), (hn, .inr (0, [.ref hc, .int (zI len)])), (hc, .inl (cC, 400, .inl (zA C)))] (fun (u : (Nat → Int) × Int × (Nat → Int) × Int) => lRep u.2.2.1 u.2.2.2 (T ++ (if how = 0 then plT X p1 pt else epT X p1 pt (if how = 2 then 69 else 101))) ∧ u.2.2.2 ≤ 340) (fun (u : (Nat → Int) × Int × (Nat → Int) × Int) => [(h, .inr (2, [.ref hw, .ref hn])), (hw, .inr (1, [.ref ha, .int (zI lc), .ref hr1, .int (zI u.2.1), .int (zI dec)])), (ha, .inl (cL, 86, .inl (zA L))), (hr1, .inl (cR, 774, .inl (zA u.1))), (hn, .inr (0, [.ref hc, .int (zI u.2.2.2)])), (hc, .inl (cC, 400, .inl (zA u.2.2.1)))]) 0 0 := by
  refine zMv.of (bytes := cX2_putBody) (nL := 4) (own := RX2) (by decide) rfl rfl (Nat.le_of_ble_eq_true rfl) ?_
  intro p e s m below meth c ls S hr hlk hnm w hl
  have hl : lv_has ls 4 [(0, .ref h), (1, .int (zI how)), (2, .int (zI p1)), (3, .int (zI pt))] := hl
  refine lv_iload_n S.1 S.2.1 dX2_putBody_0 rfl (lv_at hl 1 rfl) ?_
  refine z_if_ne (tgt := 13) S dX2_putBody_1 (by decide) (by omega) (fun h1 => ?_) (fun h1 => ?_)
  · skip
    refine lv_aload_n S.1 S.2.1 dX2_putBody_13 rfl (lv_at hl 0 rfl) ?_
    refine lv_iload_n S.1 S.2.1 dX2_putBody_14 rfl (lv_at hl 2 rfl) ?_
    refine lv_iload_n S.1 S.2.1 dX2_putBody_15 rfl (lv_at hl 3 rfl) ?_
    refine lv_iload_n S.1 S.2.1 dX2_putBody_16 rfl (lv_at hl 1 rfl) ?_
    refine z_iconst S dX2_putBody_17 ?_
    refine z_icmp_ne (tgt := 26) S dX2_putBody_18 (by decide) (by omega) (by omega) (fun h18 => ?_) (fun h18 => ?_)
    · skip
      refine z_bipush S dX2_putBody_26 (by decide +kernel) ?_
      refine z_callvV (C := RX2) (n := 3) (As := [.int (zI p1), .int (zI pt), .int (zI 101)]) (rest := []) (wr := []) (wn := (fun (u : (Nat → Int) × Int × (Nat → Int) × Int) => [(h, .inr (2, [.ref hw, .ref hn])), (hw, .inr (1, [.ref ha, .int (zI lc), .ref hr1, .int (zI u.2.1), .int (zI dec)])), (ha, .inl (cL, 86, .inl (zA L))), (hr1, .inl (cR, 774, .inl (zA u.1))), (hn, .inr (0, [.ref hc, .int (zI u.2.2.2)])), (hc, .inl (cC, 400, .inl (zA u.2.2.1)))])) S w (c_X2_putWithExponent l D cL cR cC h hw ha hr1 hn hc L lc Rw cnt dec C len T N X p1 pt 101 hT hrep (by omega) (by omega) hN hX hXb (by omega) (by omega) (by omega) (by omega)) gX2_putBody_X2_putWithExponent (by decide +kernel) rfl ⟨rfl, rfl⟩ ⟨Nat.le_of_ble_eq_true rfl, Nat.le_of_ble_eq_true rfl⟩ [0, 1, 2] [0, 1, 2, 3, 4, 5] [] [0, 1, 2, 3, 4, 5] rfl rfl rfl rfl rfl (by decide) (fun u => rfl) rfl rfl rfl rfl rfl hl.1 (Nat.le_of_ble_eq_true rfl) ⟨Nat.le_of_ble_eq_true rfl, Nat.le_of_ble_eq_true rfl⟩ rfl dX2_putBody_28 (fun u H locs p28 w => ?_)
      obtain ⟨Rw28, cnt28, C28, len28⟩ := u
      have p28 : lRep C28 len28 (T ++ epT X p1 pt (101 : Int)) ∧ len28 ≤ 340 := p28
      have w : zW D _ _ s [(h, .inr (2, [.ref hw, .ref hn])), (hw, .inr (1, [.ref ha, .int (zI lc), .ref hr1, .int (zI cnt28), .int (zI dec)])), (ha, .inl (cL, 86, .inl (zA L))), (hr1, .inl (cR, 774, .inl (zA Rw28))), (hn, .inr (0, [.ref hc, .int (zI len28)])), (hc, .inl (cC, 400, .inl (zA C28)))] H locs := w
      have k1_ : lRep C28 len28 (T ++ (if how = 0 then plT X p1 pt else epT X p1 pt (if how = 2 then 69 else 101))) ∧ len28 ≤ 340 := by
        rw [if_neg (by omega)]
        first
          | (rw [if_pos (show how = 2 by omega)]; exact p28)
          | (rw [if_neg (show ¬ how = 2 by omega)]; exact p28)
      exact z_vret S hr hlk w (Rw28, cnt28, C28, len28) k1_ rfl dX2_putBody_31
    · skip
      refine z_bipush S dX2_putBody_21 (by decide +kernel) ?_
      refine lv_goto (tgt := 28) S.1 S.2.1 dX2_putBody_23 (by decide) ?_
      refine z_callvV (C := RX2) (n := 3) (As := [.int (zI p1), .int (zI pt), .int (zI 69)]) (rest := []) (wr := []) (wn := (fun (u : (Nat → Int) × Int × (Nat → Int) × Int) => [(h, .inr (2, [.ref hw, .ref hn])), (hw, .inr (1, [.ref ha, .int (zI lc), .ref hr1, .int (zI u.2.1), .int (zI dec)])), (ha, .inl (cL, 86, .inl (zA L))), (hr1, .inl (cR, 774, .inl (zA u.1))), (hn, .inr (0, [.ref hc, .int (zI u.2.2.2)])), (hc, .inl (cC, 400, .inl (zA u.2.2.1)))])) S w (c_X2_putWithExponent l D cL cR cC h hw ha hr1 hn hc L lc Rw cnt dec C len T N X p1 pt 69 hT hrep (by omega) (by omega) hN hX hXb (by omega) (by omega) (by omega) (by omega)) gX2_putBody_X2_putWithExponent (by decide +kernel) rfl ⟨rfl, rfl⟩ ⟨Nat.le_of_ble_eq_true rfl, Nat.le_of_ble_eq_true rfl⟩ [0, 1, 2] [0, 1, 2, 3, 4, 5] [] [0, 1, 2, 3, 4, 5] rfl rfl rfl rfl rfl (by decide) (fun u => rfl) rfl rfl rfl rfl rfl hl.1 (Nat.le_of_ble_eq_true rfl) ⟨Nat.le_of_ble_eq_true rfl, Nat.le_of_ble_eq_true rfl⟩ rfl dX2_putBody_28 (fun u H locs p28 w => ?_)
      obtain ⟨Rw28, cnt28, C28, len28⟩ := u
      have p28 : lRep C28 len28 (T ++ epT X p1 pt (69 : Int)) ∧ len28 ≤ 340 := p28
      have w : zW D _ _ s [(h, .inr (2, [.ref hw, .ref hn])), (hw, .inr (1, [.ref ha, .int (zI lc), .ref hr1, .int (zI cnt28), .int (zI dec)])), (ha, .inl (cL, 86, .inl (zA L))), (hr1, .inl (cR, 774, .inl (zA Rw28))), (hn, .inr (0, [.ref hc, .int (zI len28)])), (hc, .inl (cC, 400, .inl (zA C28)))] H locs := w
      have k2_ : lRep C28 len28 (T ++ (if how = 0 then plT X p1 pt else epT X p1 pt (if how = 2 then 69 else 101))) ∧ len28 ≤ 340 := by
        rw [if_neg (by omega)]
        first
          | (rw [if_pos (show how = 2 by omega)]; exact p28)
          | (rw [if_neg (show ¬ how = 2 by omega)]; exact p28)
      exact z_vret S hr hlk w (Rw28, cnt28, C28, len28) k2_ rfl dX2_putBody_31
  · skip
    refine lv_aload_n S.1 S.2.1 dX2_putBody_4 rfl (lv_at hl 0 rfl) ?_
    refine lv_iload_n S.1 S.2.1 dX2_putBody_5 rfl (lv_at hl 2 rfl) ?_
    refine lv_iload_n S.1 S.2.1 dX2_putBody_6 rfl (lv_at hl 3 rfl) ?_
    refine z_callvV (C := RX2) (n := 2) (As := [.int (zI p1), .int (zI pt)]) (rest := []) (wr := []) (wn := (fun (u : (Nat → Int) × Int × (Nat → Int) × Int) => [(h, .inr (2, [.ref hw, .ref hn])), (hw, .inr (1, [.ref ha, .int (zI lc), .ref hr1, .int (zI u.2.1), .int (zI dec)])), (ha, .inl (cL, 86, .inl (zA L))), (hr1, .inl (cR, 774, .inl (zA u.1))), (hn, .inr (0, [.ref hc, .int (zI u.2.2.2)])), (hc, .inl (cC, 400, .inl (zA u.2.2.1)))])) S w (c_X2_putPlain l D cL cR cC h hw ha hr1 hn hc L lc Rw cnt dec C len T N X p1 pt hT hrep (by omega) (by omega) hN hX hXb (by omega) (by omega) (by omega)) gX2_putBody_X2_putPlain (by decide +kernel) rfl ⟨rfl, rfl⟩ ⟨Nat.le_of_ble_eq_true rfl, Nat.le_of_ble_eq_true rfl⟩ [0, 1, 2] [0, 1, 2, 3, 4, 5] [] [0, 1, 2, 3, 4, 5] rfl rfl rfl rfl rfl (by decide) (fun u => rfl) rfl rfl rfl rfl rfl hl.1 (Nat.le_of_ble_eq_true rfl) ⟨Nat.le_of_ble_eq_true rfl, Nat.le_of_ble_eq_true rfl⟩ rfl dX2_putBody_7 (fun u H locs p7 w => ?_)
    obtain ⟨Rw7, cnt7, C7, len7⟩ := u
    have p7 : lRep C7 len7 (T ++ plT X p1 pt) ∧ len7 ≤ 340 := p7
    have w : zW D _ _ s [(h, .inr (2, [.ref hw, .ref hn])), (hw, .inr (1, [.ref ha, .int (zI lc), .ref hr1, .int (zI cnt7), .int (zI dec)])), (ha, .inl (cL, 86, .inl (zA L))), (hr1, .inl (cR, 774, .inl (zA Rw7))), (hn, .inr (0, [.ref hc, .int (zI len7)])), (hc, .inl (cC, 400, .inl (zA C7)))] H locs := w
    refine lv_goto (tgt := 31) S.1 S.2.1 dX2_putBody_10 (by decide) ?_
    have k3_ : lRep C7 len7 (T ++ (if how = 0 then plT X p1 pt else epT X p1 pt (if how = 2 then 69 else 101))) ∧ len7 ≤ 340 := by
      rw [if_pos (by omega)]; exact p7
    exact z_vret S hr hlk w (Rw7, cnt7, C7, len7) k3_ rfl dX2_putBody_31

set_option maxRecDepth 20000 in
theorem ln_X2_digits_12 : Cond.fieldLink RX2 12 "DecimalText" "worth" "LDecimalText$Worth;" ∈ wsX2_digits := by decide +kernel
theorem in_X2_digits_X2 : ∀ w ∈ u_ws RX2 TX2 2, w ∈ wsX2_digits := by decide +kernel
set_option maxHeartbeats 4000000 in
set_option maxRecDepth 100000 in
theorem c_X2_digits (l : Launch) (D : va_G) (cL cR : ClassId) (h : Nat) (hw : Nat) (ha : Nat) (hr1 : Nat) (hn : Nat) (L : Nat → Int) (lc : Int) (Rw : Nat → Int) (cnt : Int) (dec : Int) (bz : Int) (hbz : -9223372036854775808 ≤ bz ∧ bz ≤ 9223372036854775807) : zMi (T := (Nat → Int) × Int × (Nat → Int) × Int × Int) l yX2_digits wsX2_digits ({ frames := 4, cells := 0, slots := 0, locals := 97 } : Room) D [(cL, .int), (cR, .int)] [.ref h, .long (lI bz)] [(h, .inr (2, [.ref hw, .ref hn])), (hw, .inr (1, [.ref ha, .int (zI lc), .ref hr1, .int (zI cnt), .int (zI dec)])), (ha, .inl (cL, 86, .inl (zA L))), (hr1, .inl (cR, 774, .inl (zA Rw)))] (fun (z : Int) (u : (Nat → Int) × Int × (Nat → Int) × Int × Int) => (xE bz = 2047 ∧ z = -1) ∨ (xE bz ≠ 2047 ∧ sgX (xX bz) z)) (fun (u : (Nat → Int) × Int × (Nat → Int) × Int × Int) => [(h, .inr (2, [.ref hw, .ref hn])), (hw, .inr (1, [.ref ha, .int (zI u.2.1), .ref hr1, .int (zI u.2.2.2.1), .int (zI u.2.2.2.2)])), (ha, .inl (cL, 86, .inl (zA u.1))), (hr1, .inl (cR, 774, .inl (zA u.2.2.1)))]) 0 0 := by
  refine zMi.of (bytes := cX2_digits) (nL := 3) (own := RX2) (by decide) rfl rfl (Nat.le_of_ble_eq_true rfl) ?_
  intro p e s m below meth c ls S hr hlk hnm w hl
  have hl : lv_has ls 3 [(0, .ref h), (1, .long (lI bz))] := hl
  refine lv_lload_n S.1 S.2.1 dX2_digits_0 rfl (lv_at hl 1 rfl) ?_
  refine z_calliS (n := 1) (As := [.long (lI bz)]) (rest := []) (wr := [(h, .inr (2, [.ref hw, .ref hn])), (hw, .inr (1, [.ref ha, .int (zI lc), .ref hr1, .int (zI cnt), .int (zI dec)])), (ha, .inl (cL, 86, .inl (zA L))), (hr1, .inl (cR, 774, .inl (zA Rw)))]) (wn := (fun (u : Unit) => [(h, .inr (2, [.ref hw, .ref hn])), (hw, .inr (1, [.ref ha, .int (zI lc), .ref hr1, .int (zI cnt), .int (zI dec)])), (ha, .inl (cL, 86, .inl (zA L))), (hr1, .inl (cR, 774, .inl (zA Rw)))])) S w (c_X2_isFinite l D bz (by omega)) gX2_digits_X2_isFinite (by decide +kernel) rfl ⟨rfl, rfl⟩ ⟨Nat.le_of_ble_eq_true rfl, Nat.le_of_ble_eq_true rfl⟩ [] [] [0, 1, 2, 3] [0, 1, 2, 3] rfl rfl rfl rfl rfl (by decide) (fun u => rfl) rfl rfl hl.1 (Nat.le_of_ble_eq_true rfl) ⟨Nat.le_of_ble_eq_true rfl, Nat.le_of_ble_eq_true rfl⟩ rfl dX2_digits_1 (fun z1 _ H locs p1 w => ?_)
  have p1 : (z1 = 1 ∧ xE bz ≠ 2047) ∨ (z1 = 0 ∧ xE bz = 2047) := p1
  have w : zW D _ _ s [(h, .inr (2, [.ref hw, .ref hn])), (hw, .inr (1, [.ref ha, .int (zI lc), .ref hr1, .int (zI cnt), .int (zI dec)])), (ha, .inl (cL, 86, .inl (zA L))), (hr1, .inl (cR, 774, .inl (zA Rw)))] H locs := w
  refine z_if_ne (tgt := 9) S dX2_digits_4 (by decide) (by omega) (fun h4 => ?_) (fun h4 => ?_)
  · skip
    refine lv_aload_n S.1 S.2.1 dX2_digits_9 rfl (lv_at hl 0 rfl) ?_
    refine z_get (ci := 2) (C := RX2) (T := TX2) (N := 2) S w 0 rfl rfl in_X2_digits_X2 0 (by decide) ln_X2_digits_12 rfl rfl dX2_digits_10 ?_
    refine lv_lload_n S.1 S.2.1 dX2_digits_13 rfl (lv_at hl 1 rfl) ?_
    refine z_callvV (C := RX1) (n := 1) (As := [.long (lI bz)]) (rest := []) (wr := [(h, .inr (2, [.ref hw, .ref hn]))]) (wn := (fun (u : (Nat → Int) × Int × (Nat → Int) × Int × Int) => [(h, .inr (2, [.ref hw, .ref hn])), (hw, .inr (1, [.ref ha, .int (zI u.2.1), .ref hr1, .int (zI u.2.2.2.1), .int (zI u.2.2.2.2)])), (ha, .inl (cL, 86, .inl (zA u.1))), (hr1, .inl (cR, 774, .inl (zA u.2.2.1)))])) S w (c_X1_take l D cL cR hw ha hr1 L lc Rw cnt dec bz (by omega) (by omega)) gX2_digits_X1_take (by decide +kernel) rfl ⟨rfl, rfl⟩ ⟨Nat.le_of_ble_eq_true rfl, Nat.le_of_ble_eq_true rfl⟩ [0, 1] [1, 2, 3] [0] [0, 1, 2, 3] rfl rfl rfl rfl rfl (by decide) (fun u => rfl) rfl rfl rfl rfl rfl hl.1 (Nat.le_of_ble_eq_true rfl) ⟨Nat.le_of_ble_eq_true rfl, Nat.le_of_ble_eq_true rfl⟩ rfl dX2_digits_14 (fun u H locs p14 w => ?_)
    obtain ⟨L14, lc14, Rw14, cnt14, dec14⟩ := u
    have p14 : ∃ N : Nat, (∀ j : Nat, j < 774 → Rw14 j = (dg N j : Int)) ∧ cnt14 = (ln N : Int) ∧ (0 ≤ dec14 ∧ dec14 ≤ 1074) ∧ N * 10 ^ (1200 - dec14).toNat = xX bz ∧ N < 10 ^ 767 := p14
    have w : zW D _ _ s [(h, .inr (2, [.ref hw, .ref hn])), (hw, .inr (1, [.ref ha, .int (zI lc14), .ref hr1, .int (zI cnt14), .int (zI dec14)])), (ha, .inl (cL, 86, .inl (zA L14))), (hr1, .inl (cR, 774, .inl (zA Rw14)))] H locs := w
    obtain ⟨N, n1, n2, n3, n4, n5⟩ := p14
    have n6 := ln_le_of n5
    have h9 : ∀ j : Nat, j < 774 → 0 ≤ Rw14 j ∧ Rw14 j ≤ 9 := fun j q => by rw [n1 j q]; have := dg_lt N j; omega
    refine lv_aload_n S.1 S.2.1 dX2_digits_17 rfl (lv_at hl 0 rfl) ?_
    refine z_get (ci := 2) (C := RX2) (T := TX2) (N := 2) S w 0 rfl rfl in_X2_digits_X2 0 (by decide) ln_X2_digits_12 rfl rfl dX2_digits_18 ?_
    refine z_calliV (C := RX1) (n := 0) (As := []) (rest := []) (wr := [(h, .inr (2, [.ref hw, .ref hn]))]) (wn := (fun (u : Unit) => [(h, .inr (2, [.ref hw, .ref hn])), (hw, .inr (1, [.ref ha, .int (zI lc14), .ref hr1, .int (zI cnt14), .int (zI dec14)])), (ha, .inl (cL, 86, .inl (zA L14))), (hr1, .inl (cR, 774, .inl (zA Rw14)))])) S w (c_X1_digitCount l D cL cR hw ha hr1 L14 lc14 Rw14 cnt14 dec14 (by omega) h9) gX2_digits_X1_digitCount (by decide +kernel) rfl ⟨rfl, rfl⟩ ⟨Nat.le_of_ble_eq_true rfl, Nat.le_of_ble_eq_true rfl⟩ [0, 1] [1, 2, 3] [0] [0, 1, 2, 3] rfl rfl rfl rfl rfl (by decide) (fun u => rfl) rfl rfl rfl rfl rfl hl.1 (Nat.le_of_ble_eq_true rfl) ⟨Nat.le_of_ble_eq_true rfl, Nat.le_of_ble_eq_true rfl⟩ rfl dX2_digits_21 (fun z21 _ H locs p21 w => ?_)
    have p21 : ∃ k : Int, z21 = cnt14 - k ∧ (0 ≤ k ∧ k ≤ cnt14) ∧ (∀ j : Nat, (j : Int) < k → Rw14 j = 0) ∧ (k < cnt14 → Rw14 k.toNat ≠ 0) := p21
    have w : zW D _ _ s [(h, .inr (2, [.ref hw, .ref hn])), (hw, .inr (1, [.ref ha, .int (zI lc14), .ref hr1, .int (zI cnt14), .int (zI dec14)])), (ha, .inl (cL, 86, .inl (zA L14))), (hr1, .inl (cR, 774, .inl (zA Rw14)))] H locs := w
    obtain ⟨k, k1, k2, k3, k4⟩ := p21
    exact z_iret S hr hlk w (zNar_int _) (L14, lc14, Rw14, cnt14, dec14) (Or.inr ⟨by omega, by rw [k1]; exact sg_row n4 n1 n2 n5 k2 k3 k4⟩) rfl dX2_digits_24
  · skip
    refine z_iconst S dX2_digits_7 ?_
    exact z_iret S hr hlk w (zNar_int _) (L, lc, Rw, cnt, dec) (Or.inl ⟨by omega, rfl⟩) rfl dX2_digits_8
