set_option maxRecDepth 20000 in
theorem ln_X3_spread_23 : Cond.fieldLink RX3 23 "DecimalTextModel" "digits" "I" ∈ wsX3_spread := by decide +kernel
theorem in_X3_spread_X3 : ∀ w ∈ u_ws RX3 TX3 5, w ∈ wsX3_spread := by decide +kernel
set_option maxRecDepth 20000 in
theorem ln_X3_spread_31 : Cond.fieldLink RX3 31 "DecimalTextModel" "point" "I" ∈ wsX3_spread := by decide +kernel
set_option maxRecDepth 20000 in
theorem ln_X3_spread_7 : Cond.fieldLink RX3 7 "DecimalTextModel" "row" "[B" ∈ wsX3_spread := by decide +kernel
set_option maxRecDepth 20000 in
theorem kl_X3_spread_29 : Cond.constantLong RX3 29 (10) ∈ wsX3_spread := by decide +kernel
set_option maxRecDepth 20000 in
theorem kl_X3_spread_27 : Cond.constantLong RX3 27 (1000000000000000000) ∈ wsX3_spread := by decide +kernel
set_option maxRecDepth 20000 in
theorem kl_X3_spread_17 : Cond.constantLong RX3 17 (2047) ∈ wsX3_spread := by decide +kernel
set_option maxRecDepth 20000 in
theorem kl_X3_spread_19 : Cond.constantLong RX3 19 (4503599627370495) ∈ wsX3_spread := by decide +kernel
set_option maxRecDepth 20000 in
theorem kl_X3_spread_21 : Cond.constantLong RX3 21 (4503599627370496) ∈ wsX3_spread := by decide +kernel
set_option maxHeartbeats 4000000 in
set_option maxRecDepth 100000 in
theorem c_X3_spread (l : Launch) (D : va_G) (cB cT : ClassId) (h : Nat) (hb : Nat) (ht : Nat) (r : Nat → Int) (n : Int) (P : Int) (tx : Nat → Int) (len : Int) (bz : Int) (hbz : -9223372036854775808 ≤ bz ∧ bz ≤ 9223372036854775807) (hfin : xE bz ≠ 2047) : zMv (T := (Nat → Int) × Int × Int) l yX3_spread wsX3_spread ({ frames := 2, cells := 0, slots := 0, locals := 45 } : Room) D [(cB, .byte), (cT, .int)] [.ref h, .long (lI bz)] [(h, .inr (3, [.ref hb, .int (zI n), .int (zI P), .ref ht, .int (zI len)])), (hb, .inl (cB, 1200, .inl (zA r))), (ht, .inl (cT, 420, .inl (zA tx)))] (fun (u : (Nat → Int) × Int × Int) => mRep u.1 u.2.1 u.2.2 (xX bz) ∧ u.2.1 ≤ 1190 ∧ (-1100 ≤ u.2.2 ∧ u.2.2 ≤ 1100)) (fun (u : (Nat → Int) × Int × Int) => [(h, .inr (3, [.ref hb, .int (zI u.2.1), .int (zI u.2.2), .ref ht, .int (zI len)])), (hb, .inl (cB, 1200, .inl (zA u.1))), (ht, .inl (cT, 420, .inl (zA tx)))]) 0 0 := by
  refine zMv.of (bytes := cX3_spread) (nL := 8) (own := RX3) (by decide) rfl rfl (Nat.le_of_ble_eq_true rfl) ?_
  intro p e s m below meth c ls S hr hlk hnm w hl
  have lab139 : ∀ (nf_ : Nat) (r1 : Nat → Int) (n1 : Int) (P1 : Int) (t : Int) (k : Int) (ex : Int), (k - t).toNat < nf_ → (t = xP bz ∧ -1074 ≤ t ∧ t ≤ 971) → ((0 ≤ t ∧ k = 0 ∧ ex = t) ∨ (t ≤ k ∧ k ≤ 0 ∧ ex = k)) → (mRep r1 n1 P1 ((xM bz).toNat * 2 ^ (1200 + ex).toNat * 5 ^ 1200)) → (((0 ≤ t ∧ n1 ≤ 19 + t) ∨ n1 ≤ 19 - k) ∧ n1 - P1 ≤ -k ∧ P1 ≤ 1000) → ∀ (H : Heap) (locs : List Loc) (ls : Array Slot), zW D [(cB, .byte), (cT, .int)] (va_A [(h, .inr (3, [.ref hb, .int (zI n), .int (zI P), .ref ht, .int (zI len)])), (hb, .inl (cB, 1200, .inl (zA r))), (ht, .inl (cT, 420, .inl (zA tx)))] s.heap.size) s [(h, .inr (3, [.ref hb, .int (zI n1), .int (zI P1), .ref ht, .int (zI len)])), (hb, .inl (cB, 1200, .inl (zA r1))), (ht, .inl (cT, 420, .inl (zA tx)))] H locs → lv_has ls 8 [(0, .ref h), (6, .int (zI t)), (7, .int (zI k))] → W p l e ({ frames := 2, cells := 0, slots := 0, locals := 45 } : Room) s m ([.ref h, .long (lI bz)] : List Value).toArray below meth c H locs 0 0 (MQ below (zQv D [(cB, .byte), (cT, .int)] [(h, .inr (3, [.ref hb, .int (zI n), .int (zI P), .ref ht, .int (zI len)])), (hb, .inl (cB, 1200, .inl (zA r))), (ht, .inl (cT, 420, .inl (zA tx)))] s.heap.size (fun (u : (Nat → Int) × Int × Int) => mRep u.1 u.2.1 u.2.2 (xX bz) ∧ u.2.1 ≤ 1190 ∧ (-1100 ≤ u.2.2 ∧ u.2.2 ≤ 1100)) (fun (u : (Nat → Int) × Int × Int) => [(h, .inr (3, [.ref hb, .int (zI u.2.1), .int (zI u.2.2), .ref ht, .int (zI len)])), (hb, .inl (cB, 1200, .inl (zA u.1))), (ht, .inl (cT, 420, .inl (zA tx)))])) ([.ref h, .long (lI bz)] : List Value).toArray s 0 0 (va_A [(h, .inr (3, [.ref hb, .int (zI n), .int (zI P), .ref ht, .int (zI len)])), (hb, .inl (cB, 1200, .inl (zA r))), (ht, .inl (cT, 420, .inl (zA tx)))] s.heap.size)) (F0 m 139 ls []) := by
    intro nf_
    induction nf_ with
    | zero => intro r1 n1 P1 t k ex hmeas_; exact absurd hmeas_ (Nat.not_lt_zero _)
    | succ nf_ ih =>
      intro r1 n1 P1 t k ex hmeas_ htt hk hq hb1 H locs ls w hl
      refine lv_iload S.1 S.2.1 dX3_spread_139 (lv_at hl 2 rfl) ?_
      refine lv_iload S.1 S.2.1 dX3_spread_141 (lv_at hl 1 rfl) ?_
      refine z_icmp_le (tgt := 156) S dX3_spread_143 (by decide) (by omega) (by omega) (fun h143 => ?_) (fun h143 => ?_)
      · skip
        have k1_ : mRep r1 n1 P1 (xX bz) ∧ n1 ≤ 1190 ∧ (-1100 ≤ P1 ∧ P1 ≤ 1100) := by
          have g1 := hq.1.2.1
          have g2 := hq.1.2.2.1
          refine ⟨?_, by omega, by omega⟩
          have q1 : ex = xP bz := by omega
          unfold xX
          have q2 : (1200 + ex).toNat = (xP bz + 1200).toNat := by omega
          rw [q2] at hq; exact hq
        exact z_vret S hr hlk w (r1, n1, P1) k1_ rfl dX3_spread_156
      · skip
        have h7 := hq.1.2.1
        have h77 := hq.1.2.2.1
        have h8 : ex = k := by omega
        refine lv_aload_n S.1 S.2.1 dX3_spread_146 rfl (lv_at hl 0 rfl) ?_
        have k2_ : mRep r1 n1 P1 (2 * ((xM bz).toNat * 2 ^ (1200 + (k - 1)).toNat * 5 ^ 1200)) := by
          rw [h8] at hq
          have q1 : (1200 + k).toNat = (1200 + (k - 1)).toNat + 1 := by omega
          rw [q1, Nat.pow_succ] at hq
          have q2 : 2 * ((xM bz).toNat * 2 ^ (1200 + (k - 1)).toNat * 5 ^ 1200) = (xM bz).toNat * (2 ^ (1200 + (k - 1)).toNat * 2) * 5 ^ 1200 := by
            generalize (2 : Nat) ^ (1200 + (k - 1)).toNat = a
            generalize (5 : Nat) ^ 1200 = b
            grind
          rw [q2]; exact hq
        refine z_callvV (C := RX3) (n := 0) (As := []) (rest := []) (wr := []) (wn := (fun (u : (Nat → Int) × Int × Int) => [(h, .inr (3, [.ref hb, .int (zI u.2.1), .int (zI u.2.2), .ref ht, .int (zI len)])), (hb, .inl (cB, 1200, .inl (zA u.1))), (ht, .inl (cT, 420, .inl (zA tx)))])) S w (c_X3_half l D cB cT h hb ht r1 n1 P1 tx len ((xM bz).toNat * 2 ^ (1200 + (k - 1)).toNat * 5 ^ 1200) k2_ (by omega) (by omega) (by omega)) gX3_spread_X3_half (by decide +kernel) rfl ⟨rfl, rfl⟩ ⟨Nat.le_of_ble_eq_true rfl, Nat.le_of_ble_eq_true rfl⟩ [0, 1] [0, 1, 2] [] [0, 1, 2] rfl rfl rfl rfl rfl (by decide) (fun u => rfl) rfl rfl rfl rfl rfl hl.1 (Nat.le_of_ble_eq_true rfl) ⟨Nat.le_of_ble_eq_true rfl, Nat.le_of_ble_eq_true rfl⟩ rfl dX3_spread_147 (fun u H locs p147 w => ?_)
        obtain ⟨r2, n2, P2⟩ := u
        have p147 : mRep r2 n2 P2 ((xM bz).toNat * 2 ^ (1200 + (k - 1)).toNat * 5 ^ 1200) ∧ n2 ≤ n1 + 1 ∧ (n2 - P2 ≤ n1 + 1 - P1 ∨ n2 - P2 = 0) ∧ (P2 ≤ P1 ∨ P2 = 0) := p147
        have w : zW D _ _ s [(h, .inr (3, [.ref hb, .int (zI n2), .int (zI P2), .ref ht, .int (zI len)])), (hb, .inl (cB, 1200, .inl (zA r2))), (ht, .inl (cT, 420, .inl (zA tx)))] H locs := w
        obtain ⟨a1, a2, a3, a4⟩ := p147
        have a5 := a1.2.1
        have a6 := a1.1.2.1
        refine lv_iinc (v := zI (k + (-1))) (lv' := [(7, .int (zI (k + (-1)))), (0, .ref h), (6, .int (zI t))]) S.1 S.2.1 dX3_spread_150 hl (k := 2) rfl (zI_add k (-1)) (by decide) rfl (fun ls hl => ?_)
        refine lv_goto (tgt := 139) S.1 S.2.1 dX3_spread_153 (by decide) ?_
        have k3_ : mRep r2 n2 P2 ((xM bz).toNat * 2 ^ (1200 + (k + (-1))).toNat * 5 ^ 1200) := by
          have q : k + (-1) = k - 1 := by omega
          rw [q]; exact a1
        exact ih r2 n2 P2 t (k + (-1)) (k + (-1)) (by omega) htt (by omega) k3_ (by omega) _ _ _ w (lv_sub hl [1, 2, 0] rfl)
  have lab119 : ∀ (nf_ : Nat) (r1 : Nat → Int) (n1 : Int) (P1 : Int) (t : Int) (k : Int), (t - k).toNat < nf_ → (t = xP bz ∧ -1074 ≤ t ∧ t ≤ 971) → (0 ≤ k ∧ (k ≤ t ∨ k = 0)) → (mRep r1 n1 P1 ((xM bz).toNat * 2 ^ (1200 + k).toNat * 5 ^ 1200)) → (n1 ≤ 19 + k ∧ n1 - P1 ≤ 0 ∧ P1 ≤ 19 + k) → ∀ (H : Heap) (locs : List Loc) (ls : Array Slot), zW D [(cB, .byte), (cT, .int)] (va_A [(h, .inr (3, [.ref hb, .int (zI n), .int (zI P), .ref ht, .int (zI len)])), (hb, .inl (cB, 1200, .inl (zA r))), (ht, .inl (cT, 420, .inl (zA tx)))] s.heap.size) s [(h, .inr (3, [.ref hb, .int (zI n1), .int (zI P1), .ref ht, .int (zI len)])), (hb, .inl (cB, 1200, .inl (zA r1))), (ht, .inl (cT, 420, .inl (zA tx)))] H locs → lv_has ls 8 [(0, .ref h), (6, .int (zI t)), (7, .int (zI k))] → W p l e ({ frames := 2, cells := 0, slots := 0, locals := 45 } : Room) s m ([.ref h, .long (lI bz)] : List Value).toArray below meth c H locs 0 0 (MQ below (zQv D [(cB, .byte), (cT, .int)] [(h, .inr (3, [.ref hb, .int (zI n), .int (zI P), .ref ht, .int (zI len)])), (hb, .inl (cB, 1200, .inl (zA r))), (ht, .inl (cT, 420, .inl (zA tx)))] s.heap.size (fun (u : (Nat → Int) × Int × Int) => mRep u.1 u.2.1 u.2.2 (xX bz) ∧ u.2.1 ≤ 1190 ∧ (-1100 ≤ u.2.2 ∧ u.2.2 ≤ 1100)) (fun (u : (Nat → Int) × Int × Int) => [(h, .inr (3, [.ref hb, .int (zI u.2.1), .int (zI u.2.2), .ref ht, .int (zI len)])), (hb, .inl (cB, 1200, .inl (zA u.1))), (ht, .inl (cT, 420, .inl (zA tx)))])) ([.ref h, .long (lI bz)] : List Value).toArray s 0 0 (va_A [(h, .inr (3, [.ref hb, .int (zI n), .int (zI P), .ref ht, .int (zI len)])), (hb, .inl (cB, 1200, .inl (zA r))), (ht, .inl (cT, 420, .inl (zA tx)))] s.heap.size)) (F0 m 119 ls []) := by
    intro nf_
    induction nf_ with
    | zero => intro r1 n1 P1 t k hmeas_; exact absurd hmeas_ (Nat.not_lt_zero _)
    | succ nf_ ih =>
      intro r1 n1 P1 t k hmeas_ htt hk hq hb1 H locs ls w hl
      refine lv_iload S.1 S.2.1 dX3_spread_119 (lv_at hl 2 rfl) ?_
      refine lv_iload S.1 S.2.1 dX3_spread_121 (lv_at hl 1 rfl) ?_
      refine z_icmp_ge (tgt := 136) S dX3_spread_123 (by decide) (by omega) (by omega) (fun h123 => ?_) (fun h123 => ?_)
      · skip
        refine z_iconst S dX3_spread_136 ?_
        refine lv_istore (lv' := [(7, .int (zI 0)), (0, .ref h), (6, .int (zI t))]) S.1 S.2.1 dX3_spread_137 hl (by decide) rfl (fun ls hl => ?_)
        exact lab139 _ r1 n1 P1 t 0 k (Nat.lt_succ_self _) htt (by omega) hq (by omega) _ _ _ w (lv_sub hl [1, 2, 0] rfl)
      · skip
        have h7 := hq.1.2.1
        have h8 := hq.1.2.2.1
        refine lv_aload_n S.1 S.2.1 dX3_spread_126 rfl (lv_at hl 0 rfl) ?_
        refine z_callvV (C := RX3) (n := 0) (As := []) (rest := []) (wr := []) (wn := (fun (u : (Nat → Int) × Int × Int) => [(h, .inr (3, [.ref hb, .int (zI u.2.1), .int (zI u.2.2), .ref ht, .int (zI len)])), (hb, .inl (cB, 1200, .inl (zA u.1))), (ht, .inl (cT, 420, .inl (zA tx)))])) S w (c_X3_twice l D cB cT h hb ht r1 n1 P1 tx len ((xM bz).toNat * 2 ^ (1200 + k).toNat * 5 ^ 1200) hq (by omega) (by omega)) gX3_spread_X3_twice (by decide +kernel) rfl ⟨rfl, rfl⟩ ⟨Nat.le_of_ble_eq_true rfl, Nat.le_of_ble_eq_true rfl⟩ [0, 1] [0, 1, 2] [] [0, 1, 2] rfl rfl rfl rfl rfl (by decide) (fun u => rfl) rfl rfl rfl rfl rfl hl.1 (Nat.le_of_ble_eq_true rfl) ⟨Nat.le_of_ble_eq_true rfl, Nat.le_of_ble_eq_true rfl⟩ rfl dX3_spread_127 (fun u H locs p127 w => ?_)
        obtain ⟨r2, n2, P2⟩ := u
        have p127 : mRep r2 n2 P2 (2 * ((xM bz).toNat * 2 ^ (1200 + k).toNat * 5 ^ 1200)) ∧ n2 ≤ n1 + 1 ∧ (n2 - P2 ≤ n1 - P1 ∨ n2 - P2 = 0) ∧ (P2 ≤ P1 + 1 ∨ P2 = 0) := p127
        have w : zW D _ _ s [(h, .inr (3, [.ref hb, .int (zI n2), .int (zI P2), .ref ht, .int (zI len)])), (hb, .inl (cB, 1200, .inl (zA r2))), (ht, .inl (cT, 420, .inl (zA tx)))] H locs := w
        obtain ⟨a1, a2, a3, a4⟩ := p127
        have a5 := a1.2.1
        have a6 := a1.1.2.1
        refine lv_iinc (v := zI (k + 1)) (lv' := [(7, .int (zI (k + 1))), (0, .ref h), (6, .int (zI t))]) S.1 S.2.1 dX3_spread_130 hl (k := 2) rfl (zI_add k 1) (by decide) rfl (fun ls hl => ?_)
        refine lv_goto (tgt := 119) S.1 S.2.1 dX3_spread_133 (by decide) ?_
        have k4_ : mRep r2 n2 P2 ((xM bz).toNat * 2 ^ (1200 + (k + 1)).toNat * 5 ^ 1200) := by
          have q1 : (1200 + (k + 1)).toNat = (1200 + k).toNat + 1 := by omega
          rw [q1, Nat.pow_succ]
          have q2 : 2 * ((xM bz).toNat * 2 ^ (1200 + k).toNat * 5 ^ 1200) = (xM bz).toNat * (2 ^ (1200 + k).toNat * 2) * 5 ^ 1200 := by
            generalize (2 : Nat) ^ (1200 + k).toNat = a
            generalize (5 : Nat) ^ 1200 = b
            grind
          rw [← q2]; exact a1
        exact ih r2 n2 P2 t (k + 1) (by omega) htt (by omega) k4_ (by omega) _ _ _ w (lv_sub hl [1, 2, 0] rfl)
  have lab39 : ∀ (nf_ : Nat) (r1 : Nat → Int) (i : Int) (un : Int) (mm : Int), (19 - i).toNat < nf_ → (mm = xM bz ∧ 0 ≤ mm ∧ mm < 9007199254740992) → (0 ≤ i ∧ i ≤ 19) → ((i < 19 ∧ un = ((10 ^ (18 - i).toNat : Nat) : Int)) ∨ (i = 19 ∧ un = 0)) → (0 ≤ un ∧ un ≤ 1000000000000000000) → (∀ j : Nat, (j : Int) < i → 0 ≤ r1 j ∧ r1 j ≤ 9) → (hv r1 i.toNat = mm.toNat / 10 ^ (19 - i).toNat) → ∀ (H : Heap) (locs : List Loc) (ls : Array Slot), zW D [(cB, .byte), (cT, .int)] (va_A [(h, .inr (3, [.ref hb, .int (zI n), .int (zI P), .ref ht, .int (zI len)])), (hb, .inl (cB, 1200, .inl (zA r))), (ht, .inl (cT, 420, .inl (zA tx)))] s.heap.size) s [(h, .inr (3, [.ref hb, .int (zI i), .int (zI P), .ref ht, .int (zI len)])), (hb, .inl (cB, 1200, .inl (zA r1))), (ht, .inl (cT, 420, .inl (zA tx)))] H locs → lv_has ls 8 [(0, .ref h), (3, .int (zI (xE bz))), (4, .long (lI mm)), (6, .long (lI un))] → W p l e ({ frames := 2, cells := 0, slots := 0, locals := 45 } : Room) s m ([.ref h, .long (lI bz)] : List Value).toArray below meth c H locs 0 0 (MQ below (zQv D [(cB, .byte), (cT, .int)] [(h, .inr (3, [.ref hb, .int (zI n), .int (zI P), .ref ht, .int (zI len)])), (hb, .inl (cB, 1200, .inl (zA r))), (ht, .inl (cT, 420, .inl (zA tx)))] s.heap.size (fun (u : (Nat → Int) × Int × Int) => mRep u.1 u.2.1 u.2.2 (xX bz) ∧ u.2.1 ≤ 1190 ∧ (-1100 ≤ u.2.2 ∧ u.2.2 ≤ 1100)) (fun (u : (Nat → Int) × Int × Int) => [(h, .inr (3, [.ref hb, .int (zI u.2.1), .int (zI u.2.2), .ref ht, .int (zI len)])), (hb, .inl (cB, 1200, .inl (zA u.1))), (ht, .inl (cT, 420, .inl (zA tx)))])) ([.ref h, .long (lI bz)] : List Value).toArray s 0 0 (va_A [(h, .inr (3, [.ref hb, .int (zI n), .int (zI P), .ref ht, .int (zI len)])), (hb, .inl (cB, 1200, .inl (zA r))), (ht, .inl (cT, 420, .inl (zA tx)))] s.heap.size)) (F0 m 39 ls []) := by
    intro nf_
    induction nf_ with
    | zero => intro r1 i un mm hmeas_; exact absurd hmeas_ (Nat.not_lt_zero _)
    | succ nf_ ih =>
      intro r1 i un mm hmeas_ hmm hi hu1 hub e1 ev H locs ls w hl
      have hE : 0 ≤ xE bz ∧ xE bz < 2048 := by unfold xE; omega
      refine lv_lload S.1 S.2.1 dX3_spread_39 (lv_at hl 3 rfl) ?_
      refine z_lconst (z := 0) S dX3_spread_41 (by decide +kernel) ?_
      refine z_lcmp S dX3_spread_42 (by omega) (by omega) (fun c42 hc42 => ?_)
      refine z_if_le (tgt := 87) S dX3_spread_43 (by decide) (by omega) (fun h43 => ?_) (fun h43 => ?_)
      · skip
        have ei : i = 19 := by
          rcases hu1 with q | q
          · have := p10_pos (18 - i).toNat
            omega
          · exact q.1
        refine lv_aload_n S.1 S.2.1 dX3_spread_87 rfl (lv_at hl 0 rfl) ?_
        refine lv_aload_n S.1 S.2.1 dX3_spread_88 rfl (lv_at hl 0 rfl) ?_
        refine z_get (ci := 3) (C := RX3) (T := TX3) (N := 5) S w 0 rfl rfl in_X3_spread_X3 1 (by decide) ln_X3_spread_23 rfl rfl dX3_spread_89 ?_
        refine z_put (ci := 3) (C := RX3) (T := TX3) (N := 5) S w 0 rfl rfl in_X3_spread_X3 tyX3_ok nmX3 2 (by decide) ln_X3_spread_31 rfl rfl rfl rfl (Nat.le_of_ble_eq_true rfl) dX3_spread_92 (fun H locs w => ?_)
        have w : zW D _ _ s [(h, .inr (3, [.ref hb, .int (zI i), .int (zI i), .ref ht, .int (zI len)])), (hb, .inl (cB, 1200, .inl (zA r1))), (ht, .inl (cT, 420, .inl (zA tx)))] H locs := w
        refine lv_aload_n S.1 S.2.1 dX3_spread_95 rfl (lv_at hl 0 rfl) ?_
        have k5_ : mPre r1 i i ((xM bz).toNat * 2 ^ (1200 + (0 : Int)).toNat * 5 ^ 1200) := by
          rw [ei] at e1 ev ⊢
          refine ⟨e1, by omega, by omega, ?_⟩
          have k1 : (1200 + (19 : Int) - 19).toNat = 1200 := rfl
          have k2 : (1200 + (0 : Int)).toNat = 1200 := rfl
          have k3 : (19 - (19 : Int)).toNat = 0 := rfl
          rw [k1, k2, ev, k3, Nat.pow_zero, Nat.div_one, hmm.1, ten_pow 1200, Nat.mul_assoc]
        refine z_callvV (C := RX3) (n := 0) (As := []) (rest := []) (wr := []) (wn := (fun (u : (Nat → Int) × Int × Int) => [(h, .inr (3, [.ref hb, .int (zI u.2.1), .int (zI u.2.2), .ref ht, .int (zI len)])), (hb, .inl (cB, 1200, .inl (zA u.1))), (ht, .inl (cT, 420, .inl (zA tx)))])) S w (c_X3_trim l D cB cT h hb ht r1 i i tx len ((xM bz).toNat * 2 ^ (1200 + (0 : Int)).toNat * 5 ^ 1200) k5_ (by omega) (by omega)) gX3_spread_X3_trim (by decide +kernel) rfl ⟨rfl, rfl⟩ ⟨Nat.le_of_ble_eq_true rfl, Nat.le_of_ble_eq_true rfl⟩ [0, 1] [0, 1, 2] [] [0, 1, 2] rfl rfl rfl rfl rfl (by decide) (fun u => rfl) rfl rfl rfl rfl rfl hl.1 (Nat.le_of_ble_eq_true rfl) ⟨Nat.le_of_ble_eq_true rfl, Nat.le_of_ble_eq_true rfl⟩ rfl dX3_spread_96 (fun u H locs p96 w => ?_)
        obtain ⟨r96, n96, P96⟩ := u
        have p96 : mRep r96 n96 P96 ((xM bz).toNat * 2 ^ (1200 + (0 : Int)).toNat * 5 ^ 1200) ∧ n96 ≤ i ∧ (n96 - P96 ≤ i - i ∨ n96 - P96 = 0) ∧ (P96 ≤ i ∨ P96 = 0) := p96
        have w : zW D _ _ s [(h, .inr (3, [.ref hb, .int (zI n96), .int (zI P96), .ref ht, .int (zI len)])), (hb, .inl (cB, 1200, .inl (zA r96))), (ht, .inl (cT, 420, .inl (zA tx)))] H locs := w
        obtain ⟨a1, a2, a3, a4⟩ := p96
        have a5 := a1.2.1
        refine lv_iload_n S.1 S.2.1 dX3_spread_99 rfl (lv_at hl 1 rfl) ?_
        refine z_if_ne (tgt := 109) S dX3_spread_100 (by decide) (by omega) (fun h100 => ?_) (fun h100 => ?_)
        · skip
          refine lv_iload_n S.1 S.2.1 dX3_spread_109 rfl (lv_at hl 1 rfl) ?_
          refine z_sipush S dX3_spread_110 (by decide +kernel) ?_
          refine z_isub S dX3_spread_113 ?_
          refine lv_istore (lv' := [(6, .int (zI ((xE bz) - 1075))), (0, .ref h), (3, .int (zI (xE bz))), (4, .long (lI mm))]) S.1 S.2.1 dX3_spread_114 hl (by decide) rfl (fun ls hl => ?_)
          refine z_iconst S dX3_spread_116 ?_
          refine lv_istore (lv' := [(7, .int (zI 0)), (6, .int (zI ((xE bz) - 1075))), (0, .ref h), (3, .int (zI (xE bz))), (4, .long (lI mm))]) S.1 S.2.1 dX3_spread_117 hl (by decide) rfl (fun ls hl => ?_)
          exact lab119 _ r96 n96 P96 ((xE bz) - 1075) 0 (Nat.lt_succ_self _) (by unfold xP; first | (rw [if_pos (by omega)]; omega) | (rw [if_neg (by omega)]; omega)) (by omega) a1 (by omega) _ _ _ w (lv_sub hl [2, 1, 0] rfl)
        · skip
          refine z_sipush S dX3_spread_103 (by decide +kernel) ?_
          refine lv_goto (tgt := 114) S.1 S.2.1 dX3_spread_106 (by decide) ?_
          refine lv_istore (lv' := [(6, .int (zI (-1074))), (0, .ref h), (3, .int (zI (xE bz))), (4, .long (lI mm))]) S.1 S.2.1 dX3_spread_114 hl (by decide) rfl (fun ls hl => ?_)
          refine z_iconst S dX3_spread_116 ?_
          refine lv_istore (lv' := [(7, .int (zI 0)), (6, .int (zI (-1074))), (0, .ref h), (3, .int (zI (xE bz))), (4, .long (lI mm))]) S.1 S.2.1 dX3_spread_117 hl (by decide) rfl (fun ls hl => ?_)
          exact lab119 _ r96 n96 P96 (-1074) 0 (Nat.lt_succ_self _) (by unfold xP; first | (rw [if_pos (by omega)]; omega) | (rw [if_neg (by omega)]; omega)) (by omega) a1 (by omega) _ _ _ w (lv_sub hl [2, 1, 0] rfl)
      · skip
        have hi9 : i < 19 ∧ un = ((10 ^ (18 - i).toNat : Nat) : Int) := by
          rcases hu1 with q | q
          · exact q
          · omega
        obtain ⟨dv, hdv⟩ : ∃ d : Nat, mm.toNat / 10 ^ (18 - i).toNat = d := ⟨_, rfl⟩
        have hq1 : mm / un = (dv : Int) := by
          rw [hi9.2, ← hdv, Int.natCast_ediv]
          congr 1; omega
        have hq2 : dv ≤ 9007199254740992 := by
          have := Nat.div_le_self mm.toNat (10 ^ (18 - i).toNat)
          omega
        refine lv_aload_n S.1 S.2.1 dX3_spread_46 rfl (lv_at hl 0 rfl) ?_
        refine z_get (ci := 3) (C := RX3) (T := TX3) (N := 5) S w 0 rfl rfl in_X3_spread_X3 0 (by decide) ln_X3_spread_7 rfl rfl dX3_spread_47 ?_
        refine lv_aload_n S.1 S.2.1 dX3_spread_50 rfl (lv_at hl 0 rfl) ?_
        refine z_get (ci := 3) (C := RX3) (T := TX3) (N := 5) S w 0 rfl rfl in_X3_spread_X3 1 (by decide) ln_X3_spread_23 rfl rfl dX3_spread_51 ?_
        refine lv_lload S.1 S.2.1 dX3_spread_54 (lv_at hl 2 rfl) ?_
        refine lv_lload S.1 S.2.1 dX3_spread_56 (lv_at hl 3 rfl) ?_
        refine z_ldiv S dX3_spread_58 (by omega) (by omega) ?_
        rw [hq1]
        refine z_ldc2 (v := 10) S 10 kl_X3_spread_29 (by decide +kernel) dX3_spread_59 ?_
        refine z_lrem S dX3_spread_62 (by omega) (by omega) ?_
        refine z_l2i S dX3_spread_63 ?_
        refine z_i2b S dX3_spread_64 (by omega) ?_
        refine z_bast S w 1 0 rfl rfl (by omega) (by decide) (by omega) dX3_spread_65 (fun H locs w => ?_)
        have w : zW D _ _ s [(h, .inr (3, [.ref hb, .int (zI i), .int (zI P), .ref ht, .int (zI len)])), (hb, .inl (cB, 1200, .inl (zA (zu r1 i.toNat ((dv : Int) % 10))))), (ht, .inl (cT, 420, .inl (zA tx)))] H locs := w
        refine lv_aload_n S.1 S.2.1 dX3_spread_66 rfl (lv_at hl 0 rfl) ?_
        refine lv_aload_n S.1 S.2.1 dX3_spread_67 rfl (lv_at hl 0 rfl) ?_
        refine z_get (ci := 3) (C := RX3) (T := TX3) (N := 5) S w 0 rfl rfl in_X3_spread_X3 1 (by decide) ln_X3_spread_23 rfl rfl dX3_spread_68 ?_
        refine z_iconst S dX3_spread_71 ?_
        refine z_iadd S dX3_spread_72 ?_
        refine z_put (ci := 3) (C := RX3) (T := TX3) (N := 5) S w 0 rfl rfl in_X3_spread_X3 tyX3_ok nmX3 1 (by decide) ln_X3_spread_23 rfl rfl rfl rfl (Nat.le_of_ble_eq_true rfl) dX3_spread_73 (fun H locs w => ?_)
        have w : zW D _ _ s [(h, .inr (3, [.ref hb, .int (zI (i + 1)), .int (zI P), .ref ht, .int (zI len)])), (hb, .inl (cB, 1200, .inl (zA (zu r1 i.toNat ((dv : Int) % 10))))), (ht, .inl (cT, 420, .inl (zA tx)))] H locs := w
        refine lv_lload S.1 S.2.1 dX3_spread_76 (lv_at hl 3 rfl) ?_
        refine z_ldc2 (v := 10) S 10 kl_X3_spread_29 (by decide +kernel) dX3_spread_78 ?_
        refine z_ldiv S dX3_spread_81 (by omega) (by omega) ?_
        refine lv_lstore (lv' := [(6, .long (lI (un / 10))), (0, .ref h), (3, .int (zI (xE bz))), (4, .long (lI mm))]) S.1 S.2.1 dX3_spread_82 hl (by decide) rfl (fun ls hl => ?_)
        refine lv_goto (tgt := 39) S.1 S.2.1 dX3_spread_84 (by decide) ?_
        have k6_ : ((i + 1) < 19 ∧ (un / 10) = ((10 ^ (18 - (i + 1)).toNat : Nat) : Int)) ∨ ((i + 1) = 19 ∧ (un / 10) = 0) := by
          by_cases q : i = 18
          · right
            have q1 : un = 1 := by rw [hi9.2, q]; rfl
            omega
          · left
            refine ⟨by omega, ?_⟩
            have q1 : (18 - i).toNat = (18 - (i + 1)).toNat + 1 := by omega
            rw [hi9.2, q1, Nat.pow_succ]; omega
        have k7_ : ∀ j : Nat, (j : Int) < (i + 1) → 0 ≤ (zu r1 i.toNat ((dv : Int) % 10)) j ∧ (zu r1 i.toNat ((dv : Int) % 10)) j ≤ 9 := by
          intro j q
          by_cases q1 : (j : Int) = i
          · have q2 : i.toNat = j := by omega
            rw [q2, zu_s]; omega
          · rw [zu_n _ _ (by omega)]; exact e1 j (by omega)
        have k8_ : hv (zu r1 i.toNat ((dv : Int) % 10)) (i + 1).toNat = mm.toNat / 10 ^ (19 - (i + 1)).toNat := by
          have q1 : (i + 1).toNat = i.toNat + 1 := by omega
          have q2 : (19 - i).toNat = (18 - i).toNat + 1 := by omega
          have q3 : (19 - (i + 1)).toNat = (18 - i).toNat := by omega
          rw [q1, hv, zu_s, hv_congr (t := r1) (k := i.toNat) (fun j q => zu_n _ _ (by omega)), ev, q2, Nat.pow_succ, ← Nat.div_div_eq_div_mul, q3, hdv]
          omega
        exact ih (zu r1 i.toNat ((dv : Int) % 10)) (i + 1) (un / 10) mm (by omega) hmm (by omega) k6_ (by omega) k7_ k8_ _ _ _ w (lv_sub hl [1, 2, 3, 0] rfl)
  have lab29 : ∀ (mm : Int), (mm = xM bz ∧ 0 ≤ mm ∧ mm < 9007199254740992) → ∀ (H : Heap) (locs : List Loc) (ls : Array Slot), zW D [(cB, .byte), (cT, .int)] (va_A [(h, .inr (3, [.ref hb, .int (zI n), .int (zI P), .ref ht, .int (zI len)])), (hb, .inl (cB, 1200, .inl (zA r))), (ht, .inl (cT, 420, .inl (zA tx)))] s.heap.size) s [(h, .inr (3, [.ref hb, .int (zI n), .int (zI P), .ref ht, .int (zI len)])), (hb, .inl (cB, 1200, .inl (zA r))), (ht, .inl (cT, 420, .inl (zA tx)))] H locs → lv_has ls 8 [(0, .ref h), (3, .int (zI (xE bz))), (4, .long (lI mm))] → W p l e ({ frames := 2, cells := 0, slots := 0, locals := 45 } : Room) s m ([.ref h, .long (lI bz)] : List Value).toArray below meth c H locs 0 0 (MQ below (zQv D [(cB, .byte), (cT, .int)] [(h, .inr (3, [.ref hb, .int (zI n), .int (zI P), .ref ht, .int (zI len)])), (hb, .inl (cB, 1200, .inl (zA r))), (ht, .inl (cT, 420, .inl (zA tx)))] s.heap.size (fun (u : (Nat → Int) × Int × Int) => mRep u.1 u.2.1 u.2.2 (xX bz) ∧ u.2.1 ≤ 1190 ∧ (-1100 ≤ u.2.2 ∧ u.2.2 ≤ 1100)) (fun (u : (Nat → Int) × Int × Int) => [(h, .inr (3, [.ref hb, .int (zI u.2.1), .int (zI u.2.2), .ref ht, .int (zI len)])), (hb, .inl (cB, 1200, .inl (zA u.1))), (ht, .inl (cT, 420, .inl (zA tx)))])) ([.ref h, .long (lI bz)] : List Value).toArray s 0 0 (va_A [(h, .inr (3, [.ref hb, .int (zI n), .int (zI P), .ref ht, .int (zI len)])), (hb, .inl (cB, 1200, .inl (zA r))), (ht, .inl (cT, 420, .inl (zA tx)))] s.heap.size)) (F0 m 29 ls []) := by
    intro mm hmm H locs ls w hl
    refine lv_aload_n S.1 S.2.1 dX3_spread_29 rfl (lv_at hl 0 rfl) ?_
    refine z_iconst S dX3_spread_30 ?_
    refine z_put (ci := 3) (C := RX3) (T := TX3) (N := 5) S w 0 rfl rfl in_X3_spread_X3 tyX3_ok nmX3 1 (by decide) ln_X3_spread_23 rfl rfl rfl rfl (Nat.le_of_ble_eq_true rfl) dX3_spread_31 (fun H locs w => ?_)
    have w : zW D _ _ s [(h, .inr (3, [.ref hb, .int (zI 0), .int (zI P), .ref ht, .int (zI len)])), (hb, .inl (cB, 1200, .inl (zA r))), (ht, .inl (cT, 420, .inl (zA tx)))] H locs := w
    refine z_ldc2 (v := 1000000000000000000) S 1000000000000000000 kl_X3_spread_27 (by decide +kernel) dX3_spread_34 ?_
    refine lv_lstore (lv' := [(6, .long (lI 1000000000000000000)), (0, .ref h), (3, .int (zI (xE bz))), (4, .long (lI mm))]) S.1 S.2.1 dX3_spread_37 hl (by decide) rfl (fun ls hl => ?_)
    exact lab39 _ r (0 : Int) 1000000000000000000 mm (Nat.lt_succ_self _) hmm (by omega) (Or.inl ⟨by omega, rfl⟩) (by omega) (fun j q => by omega) (by show 0 = mm.toNat / 10 ^ 19; rw [Nat.div_eq_of_lt (by omega)]) _ _ _ w (lv_sub hl [1, 2, 3, 0] rfl)
  have hl : lv_has ls 8 [(0, .ref h), (1, .long (lI bz))] := hl
  have hE : 0 ≤ xE bz ∧ xE bz < 2048 := by unfold xE; omega
  refine lv_lload_n S.1 S.2.1 dX3_spread_0 rfl (lv_at hl 1 rfl) ?_
  refine z_bipush S dX3_spread_1 (by decide +kernel) ?_
  refine z_lshr S dX3_spread_3 (v := (bz / 4503599627370496)) (lI_s52 hbz) ?_
  refine z_ldc2 (v := 2047) S 2047 kl_X3_spread_17 (by decide +kernel) dX3_spread_4 ?_
  refine z_land S dX3_spread_7 (v := (xE bz)) (lI_m11 _) ?_
  refine z_l2i S dX3_spread_8 ?_
  refine lv_istore_n (lv' := [(3, .int (zI (xE bz))), (0, .ref h), (1, .long (lI bz))]) S.1 S.2.1 dX3_spread_9 rfl hl (by decide) rfl (fun ls hl => ?_)
  refine lv_lload_n S.1 S.2.1 dX3_spread_10 rfl (lv_at hl 2 rfl) ?_
  refine z_ldc2 (v := 4503599627370495) S 4503599627370495 kl_X3_spread_19 (by decide +kernel) dX3_spread_11 ?_
  refine z_land S dX3_spread_14 (v := (bz % 4503599627370496)) (lI_m52 bz) ?_
  refine lv_lstore (lv' := [(4, .long (lI (bz % 4503599627370496))), (3, .int (zI (xE bz))), (0, .ref h), (1, .long (lI bz))]) S.1 S.2.1 dX3_spread_15 hl (by decide) rfl (fun ls hl => ?_)
  refine lv_iload_n S.1 S.2.1 dX3_spread_17 rfl (lv_at hl 1 rfl) ?_
  refine z_if_le (tgt := 29) S dX3_spread_18 (by decide) (by omega) (fun h18 => ?_) (fun h18 => ?_)
  · skip
    exact lab29 (bz % 4503599627370496) (by unfold xM; rw [if_pos (by omega)]; omega) _ _ _ w (lv_sub hl [2, 1, 0] rfl)
  · skip
    refine lv_lload S.1 S.2.1 dX3_spread_21 (lv_at hl 0 rfl) ?_
    refine z_ldc2 (v := 4503599627370496) S 4503599627370496 kl_X3_spread_21 (by decide +kernel) dX3_spread_23 ?_
    refine z_ladd S dX3_spread_26 ?_
    refine lv_lstore (lv' := [(4, .long (lI ((bz % 4503599627370496) + 4503599627370496))), (3, .int (zI (xE bz))), (0, .ref h), (1, .long (lI bz))]) S.1 S.2.1 dX3_spread_27 hl (by decide) rfl (fun ls hl => ?_)
    exact lab29 ((bz % 4503599627370496) + 4503599627370496) (by unfold xM; rw [if_neg (by omega)]; omega) _ _ _ w (lv_sub hl [2, 1, 0] rfl)
