set_option maxRecDepth 20000 in
theorem ln_X3_trim_23 : Cond.fieldLink RX3 23 "DecimalTextModel" "digits" "I" ∈ wsX3_trim := by decide +kernel
theorem in_X3_trim_X3 : ∀ w ∈ u_ws RX3 TX3 5, w ∈ wsX3_trim := by decide +kernel
set_option maxRecDepth 20000 in
theorem ln_X3_trim_31 : Cond.fieldLink RX3 31 "DecimalTextModel" "point" "I" ∈ wsX3_trim := by decide +kernel
set_option maxRecDepth 20000 in
theorem ln_X3_trim_7 : Cond.fieldLink RX3 7 "DecimalTextModel" "row" "[B" ∈ wsX3_trim := by decide +kernel
set_option maxHeartbeats 4000000 in
set_option maxRecDepth 100000 in
theorem c_X3_trim (l : Launch) (D : va_G) (cB cT : ClassId) (h : Nat) (hb : Nat) (ht : Nat) (r : Nat → Int) (n : Int) (P : Int) (tx : Nat → Int) (len : Int) (X : Nat) (hp : mPre r n P X) (hn : n ≤ 1200) (hP : -3000 ≤ P ∧ P ≤ 3000) : zMv (T := (Nat → Int) × Int × Int) l yX3_trim wsX3_trim ({ frames := 0, cells := 0, slots := 0, locals := 0 } : Room) D [(cB, .byte), (cT, .int)] [.ref h] [(h, .inr (3, [.ref hb, .int (zI n), .int (zI P), .ref ht, .int (zI len)])), (hb, .inl (cB, 1200, .inl (zA r))), (ht, .inl (cT, 420, .inl (zA tx)))] (fun (u : (Nat → Int) × Int × Int) => mRep u.1 u.2.1 u.2.2 X ∧ u.2.1 ≤ n ∧ (u.2.1 - u.2.2 ≤ n - P ∨ u.2.1 - u.2.2 = 0) ∧ (u.2.2 ≤ P ∨ u.2.2 = 0)) (fun (u : (Nat → Int) × Int × Int) => [(h, .inr (3, [.ref hb, .int (zI u.2.1), .int (zI u.2.2), .ref ht, .int (zI len)])), (hb, .inl (cB, 1200, .inl (zA u.1))), (ht, .inl (cT, 420, .inl (zA tx)))]) 0 0 := by
  refine zMv.of (bytes := cX3_trim) (nL := 3) (own := RX3) (by decide) rfl rfl (Nat.le_of_ble_eq_true rfl) ?_
  intro p e s m below meth c ls S hr hlk hnm w hl
  have lab76 : ∀ (nf_ : Nat) (r1 : Nat → Int) (m1 : Int) (z : Int), (m1).toNat < nf_ → (0 ≤ z ∧ z ≤ n) → (0 ≤ m1 ∧ m1 ≤ n - z) → (m1 = 0 ∨ r1 0 ≠ 0) → (mPre r1 m1 (P - z) X) → ∀ (H : Heap) (locs : List Loc) (ls : Array Slot), zW D [(cB, .byte), (cT, .int)] (va_A [(h, .inr (3, [.ref hb, .int (zI n), .int (zI P), .ref ht, .int (zI len)])), (hb, .inl (cB, 1200, .inl (zA r))), (ht, .inl (cT, 420, .inl (zA tx)))] s.heap.size) s [(h, .inr (3, [.ref hb, .int (zI m1), .int (zI (P - z)), .ref ht, .int (zI len)])), (hb, .inl (cB, 1200, .inl (zA r1))), (ht, .inl (cT, 420, .inl (zA tx)))] H locs → lv_has ls 3 [(0, .ref h)] → W p l e ({ frames := 0, cells := 0, slots := 0, locals := 0 } : Room) s m ([.ref h] : List Value).toArray below meth c H locs 0 0 (MQ below (zQv D [(cB, .byte), (cT, .int)] [(h, .inr (3, [.ref hb, .int (zI n), .int (zI P), .ref ht, .int (zI len)])), (hb, .inl (cB, 1200, .inl (zA r))), (ht, .inl (cT, 420, .inl (zA tx)))] s.heap.size (fun (u : (Nat → Int) × Int × Int) => mRep u.1 u.2.1 u.2.2 X ∧ u.2.1 ≤ n ∧ (u.2.1 - u.2.2 ≤ n - P ∨ u.2.1 - u.2.2 = 0) ∧ (u.2.2 ≤ P ∨ u.2.2 = 0)) (fun (u : (Nat → Int) × Int × Int) => [(h, .inr (3, [.ref hb, .int (zI u.2.1), .int (zI u.2.2), .ref ht, .int (zI len)])), (hb, .inl (cB, 1200, .inl (zA u.1))), (ht, .inl (cT, 420, .inl (zA tx)))])) ([.ref h] : List Value).toArray s 0 0 (va_A [(h, .inr (3, [.ref hb, .int (zI n), .int (zI P), .ref ht, .int (zI len)])), (hb, .inl (cB, 1200, .inl (zA r))), (ht, .inl (cT, 420, .inl (zA tx)))] s.heap.size)) (F0 m 76 ls []) := by
    intro nf_
    induction nf_ with
    | zero => intro r1 m1 z hmeas_; exact absurd hmeas_ (Nat.not_lt_zero _)
    | succ nf_ ih =>
      intro r1 m1 z hmeas_ hz hm1 e0 ep H locs ls w hl
      obtain ⟨b1, b2, b3, b4⟩ := id ep
      refine lv_aload_n S.1 S.2.1 dX3_trim_76 rfl (lv_at hl 0 rfl) ?_
      refine z_get (ci := 3) (C := RX3) (T := TX3) (N := 5) S w 0 rfl rfl in_X3_trim_X3 1 (by decide) ln_X3_trim_23 rfl rfl dX3_trim_77 ?_
      refine z_if_le (tgt := 110) S dX3_trim_80 (by decide) (by omega) (fun h80 => ?_) (fun h80 => ?_)
      · skip
        refine lv_aload_n S.1 S.2.1 dX3_trim_110 rfl (lv_at hl 0 rfl) ?_
        refine z_get (ci := 3) (C := RX3) (T := TX3) (N := 5) S w 0 rfl rfl in_X3_trim_X3 1 (by decide) ln_X3_trim_23 rfl rfl dX3_trim_111 ?_
        refine z_if_ne (tgt := 122) S dX3_trim_114 (by decide) (by omega) (fun h114 => ?_) (fun h114 => ?_)
        · skip
          have k1_ : mRep r1 m1 (P - z) X ∧ m1 ≤ n ∧ (m1 - (P - z) ≤ n - P ∨ m1 - (P - z) = 0) ∧ ((P - z) ≤ P ∨ (P - z) = 0) := by
            have c1 : m1 ≠ 0 := by omega
            refine ⟨⟨ep, fun q => absurd q c1, fun q => ⟨?_, ?_⟩⟩, by omega, by omega, by omega⟩
            · rcases e0 with q2 | q2
              · omega
              · exact q2
            · first | exact h94 | (exfalso; omega)
          exact z_vret S hr hlk w (r1, m1, P - z) k1_ rfl dX3_trim_122
        · skip
          refine lv_aload_n S.1 S.2.1 dX3_trim_117 rfl (lv_at hl 0 rfl) ?_
          refine z_iconst S dX3_trim_118 ?_
          refine z_put (ci := 3) (C := RX3) (T := TX3) (N := 5) S w 0 rfl rfl in_X3_trim_X3 tyX3_ok nmX3 2 (by decide) ln_X3_trim_31 rfl rfl rfl rfl (Nat.le_of_ble_eq_true rfl) dX3_trim_119 (fun H locs w => ?_)
          have w : zW D _ _ s [(h, .inr (3, [.ref hb, .int (zI m1), .int (zI 0), .ref ht, .int (zI len)])), (hb, .inl (cB, 1200, .inl (zA r1))), (ht, .inl (cT, 420, .inl (zA tx)))] H locs := w
          have k2_ : mRep r1 m1 (0 : Int) X ∧ m1 ≤ n ∧ (m1 - (0 : Int) ≤ n - P ∨ m1 - (0 : Int) = 0) ∧ ((0 : Int) ≤ P ∨ (0 : Int) = 0) := by
            have c1 : m1 = 0 := by omega
            refine ⟨⟨⟨fun j q => by omega, by omega, by omega, ?_⟩, fun _ => rfl, fun q => by omega⟩, by omega, by omega, by omega⟩
            rw [b4, c1]
            show hv r1 0 * _ = hv r1 0 * _
            rw [hv, Nat.zero_mul, Nat.zero_mul]
          exact z_vret S hr hlk w (r1, m1, 0) k2_ rfl dX3_trim_122
      · skip
        refine lv_aload_n S.1 S.2.1 dX3_trim_83 rfl (lv_at hl 0 rfl) ?_
        refine z_get (ci := 3) (C := RX3) (T := TX3) (N := 5) S w 0 rfl rfl in_X3_trim_X3 0 (by decide) ln_X3_trim_7 rfl rfl dX3_trim_84 ?_
        refine lv_aload_n S.1 S.2.1 dX3_trim_87 rfl (lv_at hl 0 rfl) ?_
        refine z_get (ci := 3) (C := RX3) (T := TX3) (N := 5) S w 0 rfl rfl in_X3_trim_X3 1 (by decide) ln_X3_trim_23 rfl rfl dX3_trim_88 ?_
        refine z_iconst S dX3_trim_91 ?_
        refine z_isub S dX3_trim_92 ?_
        refine z_bald S w 1 0 rfl rfl (by omega) (by decide) dX3_trim_93 ?_
        refine z_if_ne (tgt := 110) S dX3_trim_94 (by decide) (by have := b1 (m1 - 1).toNat (by omega); omega) (fun h94 => ?_) (fun h94 => ?_)
        · skip
          refine lv_aload_n S.1 S.2.1 dX3_trim_110 rfl (lv_at hl 0 rfl) ?_
          refine z_get (ci := 3) (C := RX3) (T := TX3) (N := 5) S w 0 rfl rfl in_X3_trim_X3 1 (by decide) ln_X3_trim_23 rfl rfl dX3_trim_111 ?_
          refine z_if_ne (tgt := 122) S dX3_trim_114 (by decide) (by omega) (fun h114 => ?_) (fun h114 => ?_)
          · skip
            have k3_ : mRep r1 m1 (P - z) X ∧ m1 ≤ n ∧ (m1 - (P - z) ≤ n - P ∨ m1 - (P - z) = 0) ∧ ((P - z) ≤ P ∨ (P - z) = 0) := by
              have c1 : m1 ≠ 0 := by omega
              refine ⟨⟨ep, fun q => absurd q c1, fun q => ⟨?_, ?_⟩⟩, by omega, by omega, by omega⟩
              · rcases e0 with q2 | q2
                · omega
                · exact q2
              · first | exact h94 | (exfalso; omega)
            exact z_vret S hr hlk w (r1, m1, P - z) k3_ rfl dX3_trim_122
          · skip
            refine lv_aload_n S.1 S.2.1 dX3_trim_117 rfl (lv_at hl 0 rfl) ?_
            refine z_iconst S dX3_trim_118 ?_
            refine z_put (ci := 3) (C := RX3) (T := TX3) (N := 5) S w 0 rfl rfl in_X3_trim_X3 tyX3_ok nmX3 2 (by decide) ln_X3_trim_31 rfl rfl rfl rfl (Nat.le_of_ble_eq_true rfl) dX3_trim_119 (fun H locs w => ?_)
            have w : zW D _ _ s [(h, .inr (3, [.ref hb, .int (zI m1), .int (zI 0), .ref ht, .int (zI len)])), (hb, .inl (cB, 1200, .inl (zA r1))), (ht, .inl (cT, 420, .inl (zA tx)))] H locs := w
            have k4_ : mRep r1 m1 (0 : Int) X ∧ m1 ≤ n ∧ (m1 - (0 : Int) ≤ n - P ∨ m1 - (0 : Int) = 0) ∧ ((0 : Int) ≤ P ∨ (0 : Int) = 0) := by
              have c1 : m1 = 0 := by omega
              refine ⟨⟨⟨fun j q => by omega, by omega, by omega, ?_⟩, fun _ => rfl, fun q => by omega⟩, by omega, by omega, by omega⟩
              rw [b4, c1]
              show hv r1 0 * _ = hv r1 0 * _
              rw [hv, Nat.zero_mul, Nat.zero_mul]
            exact z_vret S hr hlk w (r1, m1, 0) k4_ rfl dX3_trim_122
        · skip
          refine lv_aload_n S.1 S.2.1 dX3_trim_97 rfl (lv_at hl 0 rfl) ?_
          refine lv_aload_n S.1 S.2.1 dX3_trim_98 rfl (lv_at hl 0 rfl) ?_
          refine z_get (ci := 3) (C := RX3) (T := TX3) (N := 5) S w 0 rfl rfl in_X3_trim_X3 1 (by decide) ln_X3_trim_23 rfl rfl dX3_trim_99 ?_
          refine z_iconst S dX3_trim_102 ?_
          refine z_isub S dX3_trim_103 ?_
          refine z_put (ci := 3) (C := RX3) (T := TX3) (N := 5) S w 0 rfl rfl in_X3_trim_X3 tyX3_ok nmX3 1 (by decide) ln_X3_trim_23 rfl rfl rfl rfl (Nat.le_of_ble_eq_true rfl) dX3_trim_104 (fun H locs w => ?_)
          have w : zW D _ _ s [(h, .inr (3, [.ref hb, .int (zI (m1 - 1)), .int (zI (P - z)), .ref ht, .int (zI len)])), (hb, .inl (cB, 1200, .inl (zA r1))), (ht, .inl (cT, 420, .inl (zA tx)))] H locs := w
          refine lv_goto (tgt := 76) S.1 S.2.1 dX3_trim_107 (by decide) ?_
          have k5_ : (m1 - 1) = 0 ∨ r1 0 ≠ 0 := by
            rcases e0 with q | q
            · omega
            · exact Or.inr q
          have k6_ : mPre r1 (m1 - 1) (P - z) X := by
            refine ⟨fun j q => b1 j (by omega), by omega, by omega, ?_⟩
            have q1 : m1.toNat = (m1 - 1).toNat + 1 := by omega
            have q2 : (1200 + (P - z) - (m1 - 1)).toNat = (1200 + (P - z) - m1).toNat + 1 := by omega
            rw [b4, q1, hv, h94, q2, Nat.pow_succ]
            show (10 * hv r1 (m1 - 1).toNat + 0) * _ = _
            generalize hv r1 (m1 - 1).toNat = a
            generalize 10 ^ (1200 + (P - z) - m1).toNat = b
            grind
          exact ih r1 (m1 - 1) z (by omega) (by omega) (by omega) k5_ k6_ _ _ _ w (lv_sub hl [0] rfl)
  have lab28 : ∀ (nf_ : Nat) (r1 : Nat → Int) (z : Int) (k : Int), (n - k).toNat < nf_ → (0 ≤ z ∧ z ≤ n) → (z ≤ k ∧ k ≤ n) → (z = n ∨ r z.toNat ≠ 0) → (∀ j : Nat, (j : Int) < z → r j = 0) → (∀ j : Nat, (j : Int) < k - z → r1 j = r (j + z.toNat)) → (∀ j : Nat, k - z ≤ (j : Int) → r1 j = r j) → ∀ (H : Heap) (locs : List Loc) (ls : Array Slot), zW D [(cB, .byte), (cT, .int)] (va_A [(h, .inr (3, [.ref hb, .int (zI n), .int (zI P), .ref ht, .int (zI len)])), (hb, .inl (cB, 1200, .inl (zA r))), (ht, .inl (cT, 420, .inl (zA tx)))] s.heap.size) s [(h, .inr (3, [.ref hb, .int (zI n), .int (zI P), .ref ht, .int (zI len)])), (hb, .inl (cB, 1200, .inl (zA r1))), (ht, .inl (cT, 420, .inl (zA tx)))] H locs → lv_has ls 3 [(0, .ref h), (1, .int (zI z)), (2, .int (zI k))] → W p l e ({ frames := 0, cells := 0, slots := 0, locals := 0 } : Room) s m ([.ref h] : List Value).toArray below meth c H locs 0 0 (MQ below (zQv D [(cB, .byte), (cT, .int)] [(h, .inr (3, [.ref hb, .int (zI n), .int (zI P), .ref ht, .int (zI len)])), (hb, .inl (cB, 1200, .inl (zA r))), (ht, .inl (cT, 420, .inl (zA tx)))] s.heap.size (fun (u : (Nat → Int) × Int × Int) => mRep u.1 u.2.1 u.2.2 X ∧ u.2.1 ≤ n ∧ (u.2.1 - u.2.2 ≤ n - P ∨ u.2.1 - u.2.2 = 0) ∧ (u.2.2 ≤ P ∨ u.2.2 = 0)) (fun (u : (Nat → Int) × Int × Int) => [(h, .inr (3, [.ref hb, .int (zI u.2.1), .int (zI u.2.2), .ref ht, .int (zI len)])), (hb, .inl (cB, 1200, .inl (zA u.1))), (ht, .inl (cT, 420, .inl (zA tx)))])) ([.ref h] : List Value).toArray s 0 0 (va_A [(h, .inr (3, [.ref hb, .int (zI n), .int (zI P), .ref ht, .int (zI len)])), (hb, .inl (cB, 1200, .inl (zA r))), (ht, .inl (cT, 420, .inl (zA tx)))] s.heap.size)) (F0 m 28 ls []) := by
    intro nf_
    induction nf_ with
    | zero => intro r1 z k hmeas_; exact absurd hmeas_ (Nat.not_lt_zero _)
    | succ nf_ ih =>
      intro r1 z k hmeas_ hz hk hzz e0 e1 e2 H locs ls w hl
      obtain ⟨d1, d2, d3, d4⟩ := id hp
      refine lv_iload_n S.1 S.2.1 dX3_trim_28 rfl (lv_at hl 2 rfl) ?_
      refine lv_aload_n S.1 S.2.1 dX3_trim_29 rfl (lv_at hl 0 rfl) ?_
      refine z_get (ci := 3) (C := RX3) (T := TX3) (N := 5) S w 0 rfl rfl in_X3_trim_X3 1 (by decide) ln_X3_trim_23 rfl rfl dX3_trim_30 ?_
      refine z_icmp_ge (tgt := 56) S dX3_trim_33 (by decide) (by omega) (by omega) (fun h33 => ?_) (fun h33 => ?_)
      · skip
        refine lv_aload_n S.1 S.2.1 dX3_trim_56 rfl (lv_at hl 0 rfl) ?_
        refine lv_aload_n S.1 S.2.1 dX3_trim_57 rfl (lv_at hl 0 rfl) ?_
        refine z_get (ci := 3) (C := RX3) (T := TX3) (N := 5) S w 0 rfl rfl in_X3_trim_X3 1 (by decide) ln_X3_trim_23 rfl rfl dX3_trim_58 ?_
        refine lv_iload_n S.1 S.2.1 dX3_trim_61 rfl (lv_at hl 1 rfl) ?_
        refine z_isub S dX3_trim_62 ?_
        refine z_put (ci := 3) (C := RX3) (T := TX3) (N := 5) S w 0 rfl rfl in_X3_trim_X3 tyX3_ok nmX3 1 (by decide) ln_X3_trim_23 rfl rfl rfl rfl (Nat.le_of_ble_eq_true rfl) dX3_trim_63 (fun H locs w => ?_)
        have w : zW D _ _ s [(h, .inr (3, [.ref hb, .int (zI (n - z)), .int (zI P), .ref ht, .int (zI len)])), (hb, .inl (cB, 1200, .inl (zA r1))), (ht, .inl (cT, 420, .inl (zA tx)))] H locs := w
        refine lv_aload_n S.1 S.2.1 dX3_trim_66 rfl (lv_at hl 0 rfl) ?_
        refine lv_aload_n S.1 S.2.1 dX3_trim_67 rfl (lv_at hl 0 rfl) ?_
        refine z_get (ci := 3) (C := RX3) (T := TX3) (N := 5) S w 0 rfl rfl in_X3_trim_X3 2 (by decide) ln_X3_trim_31 rfl rfl dX3_trim_68 ?_
        refine lv_iload_n S.1 S.2.1 dX3_trim_71 rfl (lv_at hl 1 rfl) ?_
        refine z_isub S dX3_trim_72 ?_
        refine z_put (ci := 3) (C := RX3) (T := TX3) (N := 5) S w 0 rfl rfl in_X3_trim_X3 tyX3_ok nmX3 2 (by decide) ln_X3_trim_31 rfl rfl rfl rfl (Nat.le_of_ble_eq_true rfl) dX3_trim_73 (fun H locs w => ?_)
        have w : zW D _ _ s [(h, .inr (3, [.ref hb, .int (zI (n - z)), .int (zI (P - z)), .ref ht, .int (zI len)])), (hb, .inl (cB, 1200, .inl (zA r1))), (ht, .inl (cT, 420, .inl (zA tx)))] H locs := w
        have k7_ : (n - z) = 0 ∨ r1 0 ≠ 0 := by
          rcases hzz with q | q
          · exact Or.inl (by omega)
          · by_cases q1 : n - z = 0
            · exact Or.inl q1
            · right
              have q2 := e1 0 (by omega)
              have q3 : 0 + z.toNat = z.toNat := by omega
              rw [q2, q3]; exact q
        have k8_ : mPre r1 (n - z) (P - z) X := by
          refine ⟨fun j q => ?_, by omega, by omega, ?_⟩
          · rw [e1 j (by omega)]; exact d1 _ (by omega)
          · have q1 : n.toNat = z.toNat + (n - z).toNat := by omega
            have q2 : (1200 + (P - z) - (n - z)).toNat = (1200 + P - n).toNat := by omega
            rw [q2, d4, q1, hv_shift (fun j q => e0 j (by omega)) (fun j q => e1 j (by omega))]
        exact lab76 _ r1 (n - z) z (Nat.lt_succ_self _) (by omega) (by omega) k7_ k8_ _ _ _ w (lv_sub hl [0] rfl)
      · skip
        refine lv_aload_n S.1 S.2.1 dX3_trim_36 rfl (lv_at hl 0 rfl) ?_
        refine z_get (ci := 3) (C := RX3) (T := TX3) (N := 5) S w 0 rfl rfl in_X3_trim_X3 0 (by decide) ln_X3_trim_7 rfl rfl dX3_trim_37 ?_
        refine lv_iload_n S.1 S.2.1 dX3_trim_40 rfl (lv_at hl 2 rfl) ?_
        refine lv_iload_n S.1 S.2.1 dX3_trim_41 rfl (lv_at hl 1 rfl) ?_
        refine z_isub S dX3_trim_42 ?_
        refine lv_aload_n S.1 S.2.1 dX3_trim_43 rfl (lv_at hl 0 rfl) ?_
        refine z_get (ci := 3) (C := RX3) (T := TX3) (N := 5) S w 0 rfl rfl in_X3_trim_X3 0 (by decide) ln_X3_trim_7 rfl rfl dX3_trim_44 ?_
        refine lv_iload_n S.1 S.2.1 dX3_trim_47 rfl (lv_at hl 2 rfl) ?_
        refine z_bald S w 1 0 rfl rfl (by omega) (by decide) dX3_trim_48 ?_
        refine z_bast S w 1 0 rfl rfl (by omega) (by decide) (by rw [e2 _ (by omega)]; have := d1 k.toNat (by omega); omega) dX3_trim_49 (fun H locs w => ?_)
        have w : zW D _ _ s [(h, .inr (3, [.ref hb, .int (zI n), .int (zI P), .ref ht, .int (zI len)])), (hb, .inl (cB, 1200, .inl (zA (zu r1 (k - z).toNat (r1 k.toNat))))), (ht, .inl (cT, 420, .inl (zA tx)))] H locs := w
        refine lv_iinc (v := zI (k + 1)) (lv' := [(2, .int (zI (k + 1))), (0, .ref h), (1, .int (zI z))]) S.1 S.2.1 dX3_trim_50 hl (k := 2) rfl (zI_add k 1) (by decide) rfl (fun ls hl => ?_)
        refine lv_goto (tgt := 28) S.1 S.2.1 dX3_trim_53 (by decide) ?_
        have k9_ : ∀ j : Nat, (j : Int) < (k + 1) - z → (zu r1 (k - z).toNat (r1 k.toNat)) j = r (j + z.toNat) := by
          intro j q
          by_cases q1 : (j : Int) = k - z
          · have q2 : (k - z).toNat = j := by omega
            have q3 : k.toNat = j + z.toNat := by omega
            rw [q2, zu_s, e2 _ (by omega), q3]
          · rw [zu_n _ _ (by omega)]; exact e1 j (by omega)
        exact ih (zu r1 (k - z).toNat (r1 k.toNat)) z (k + 1) (by omega) (by omega) (by omega) hzz e0 k9_ (fun j q => by rw [zu_n _ _ (by omega)]; exact e2 j (by omega)) _ _ _ w (lv_sub hl [1, 2, 0] rfl)
  have lab2 : ∀ (nf_ : Nat) (z : Int), (n - z).toNat < nf_ → (0 ≤ z ∧ z ≤ n) → (∀ j : Nat, (j : Int) < z → r j = 0) → ∀ (H : Heap) (locs : List Loc) (ls : Array Slot), zW D [(cB, .byte), (cT, .int)] (va_A [(h, .inr (3, [.ref hb, .int (zI n), .int (zI P), .ref ht, .int (zI len)])), (hb, .inl (cB, 1200, .inl (zA r))), (ht, .inl (cT, 420, .inl (zA tx)))] s.heap.size) s [(h, .inr (3, [.ref hb, .int (zI n), .int (zI P), .ref ht, .int (zI len)])), (hb, .inl (cB, 1200, .inl (zA r))), (ht, .inl (cT, 420, .inl (zA tx)))] H locs → lv_has ls 3 [(0, .ref h), (1, .int (zI z))] → W p l e ({ frames := 0, cells := 0, slots := 0, locals := 0 } : Room) s m ([.ref h] : List Value).toArray below meth c H locs 0 0 (MQ below (zQv D [(cB, .byte), (cT, .int)] [(h, .inr (3, [.ref hb, .int (zI n), .int (zI P), .ref ht, .int (zI len)])), (hb, .inl (cB, 1200, .inl (zA r))), (ht, .inl (cT, 420, .inl (zA tx)))] s.heap.size (fun (u : (Nat → Int) × Int × Int) => mRep u.1 u.2.1 u.2.2 X ∧ u.2.1 ≤ n ∧ (u.2.1 - u.2.2 ≤ n - P ∨ u.2.1 - u.2.2 = 0) ∧ (u.2.2 ≤ P ∨ u.2.2 = 0)) (fun (u : (Nat → Int) × Int × Int) => [(h, .inr (3, [.ref hb, .int (zI u.2.1), .int (zI u.2.2), .ref ht, .int (zI len)])), (hb, .inl (cB, 1200, .inl (zA u.1))), (ht, .inl (cT, 420, .inl (zA tx)))])) ([.ref h] : List Value).toArray s 0 0 (va_A [(h, .inr (3, [.ref hb, .int (zI n), .int (zI P), .ref ht, .int (zI len)])), (hb, .inl (cB, 1200, .inl (zA r))), (ht, .inl (cT, 420, .inl (zA tx)))] s.heap.size)) (F0 m 2 ls []) := by
    intro nf_
    induction nf_ with
    | zero => intro z hmeas_; exact absurd hmeas_ (Nat.not_lt_zero _)
    | succ nf_ ih =>
      intro z hmeas_ hz e0 H locs ls w hl
      obtain ⟨d1, d2, d3, d4⟩ := id hp
      refine lv_iload_n S.1 S.2.1 dX3_trim_2 rfl (lv_at hl 1 rfl) ?_
      refine lv_aload_n S.1 S.2.1 dX3_trim_3 rfl (lv_at hl 0 rfl) ?_
      refine z_get (ci := 3) (C := RX3) (T := TX3) (N := 5) S w 0 rfl rfl in_X3_trim_X3 1 (by decide) ln_X3_trim_23 rfl rfl dX3_trim_4 ?_
      refine z_icmp_ge (tgt := 26) S dX3_trim_7 (by decide) (by omega) (by omega) (fun h7 => ?_) (fun h7 => ?_)
      · skip
        refine lv_iload_n S.1 S.2.1 dX3_trim_26 rfl (lv_at hl 1 rfl) ?_
        refine lv_istore_n (lv' := [(2, .int (zI z)), (0, .ref h), (1, .int (zI z))]) S.1 S.2.1 dX3_trim_27 rfl hl (by decide) rfl (fun ls hl => ?_)
        exact lab28 _ r z z (Nat.lt_succ_self _) (by omega) (by omega) (by first | exact Or.inr h16 | exact Or.inl (by omega)) e0 (fun j q => by omega) (fun j q => rfl) _ _ _ w (lv_sub hl [1, 2, 0] rfl)
      · skip
        refine lv_aload_n S.1 S.2.1 dX3_trim_10 rfl (lv_at hl 0 rfl) ?_
        refine z_get (ci := 3) (C := RX3) (T := TX3) (N := 5) S w 0 rfl rfl in_X3_trim_X3 0 (by decide) ln_X3_trim_7 rfl rfl dX3_trim_11 ?_
        refine lv_iload_n S.1 S.2.1 dX3_trim_14 rfl (lv_at hl 1 rfl) ?_
        refine z_bald S w 1 0 rfl rfl (by omega) (by decide) dX3_trim_15 ?_
        refine z_if_ne (tgt := 26) S dX3_trim_16 (by decide) (by have := d1 z.toNat (by omega); omega) (fun h16 => ?_) (fun h16 => ?_)
        · skip
          refine lv_iload_n S.1 S.2.1 dX3_trim_26 rfl (lv_at hl 1 rfl) ?_
          refine lv_istore_n (lv' := [(2, .int (zI z)), (0, .ref h), (1, .int (zI z))]) S.1 S.2.1 dX3_trim_27 rfl hl (by decide) rfl (fun ls hl => ?_)
          exact lab28 _ r z z (Nat.lt_succ_self _) (by omega) (by omega) (by first | exact Or.inr h16 | exact Or.inl (by omega)) e0 (fun j q => by omega) (fun j q => rfl) _ _ _ w (lv_sub hl [1, 2, 0] rfl)
        · skip
          refine lv_iload_n S.1 S.2.1 dX3_trim_19 rfl (lv_at hl 1 rfl) ?_
          refine z_iconst S dX3_trim_20 ?_
          refine z_iadd S dX3_trim_21 ?_
          refine lv_istore_n (lv' := [(1, .int (zI (z + 1))), (0, .ref h)]) S.1 S.2.1 dX3_trim_22 rfl hl (by decide) rfl (fun ls hl => ?_)
          refine lv_goto (tgt := 2) S.1 S.2.1 dX3_trim_23 (by decide) ?_
          have k10_ : ∀ j : Nat, (j : Int) < (z + 1) → r j = 0 := by
            intro j q
            by_cases q1 : (j : Int) = z
            · have q2 : z.toNat = j := by omega
              rw [q2] at h16; exact h16
            · exact e0 j (by omega)
          exact ih (z + 1) (by omega) (by omega) k10_ _ _ _ w (lv_sub hl [1, 0] rfl)
  have hl : lv_has ls 3 [(0, .ref h)] := hl
  refine z_iconst S dX3_trim_0 ?_
  refine lv_istore_n (lv' := [(1, .int (zI 0)), (0, .ref h)]) S.1 S.2.1 dX3_trim_1 rfl hl (by decide) rfl (fun ls hl => ?_)
  obtain ⟨d1, d2, d3, d4⟩ := id hp
  exact lab2 _ 0 (Nat.lt_succ_self _) (by omega) (fun j q => by omega) _ _ _ w (lv_sub hl [1, 0] rfl)

set_option maxRecDepth 20000 in
theorem ln_X3_half_23 : Cond.fieldLink RX3 23 "DecimalTextModel" "digits" "I" ∈ wsX3_half := by decide +kernel
theorem in_X3_half_X3 : ∀ w ∈ u_ws RX3 TX3 5, w ∈ wsX3_half := by decide +kernel
set_option maxRecDepth 20000 in
theorem ln_X3_half_7 : Cond.fieldLink RX3 7 "DecimalTextModel" "row" "[B" ∈ wsX3_half := by decide +kernel
set_option maxHeartbeats 4000000 in
set_option maxRecDepth 100000 in
theorem c_X3_half (l : Launch) (D : va_G) (cB cT : ClassId) (h : Nat) (hb : Nat) (ht : Nat) (r : Nat → Int) (n : Int) (P : Int) (tx : Nat → Int) (len : Int) (X : Nat) (hp : mRep r n P (2 * X)) (hn : n ≤ 1190) (hP : -2000 ≤ P ∧ P ≤ 2000) (hpn : 1 ≤ 1200 + P - n) : zMv (T := (Nat → Int) × Int × Int) l yX3_half wsX3_half ({ frames := 1, cells := 0, slots := 0, locals := 22 } : Room) D [(cB, .byte), (cT, .int)] [.ref h] [(h, .inr (3, [.ref hb, .int (zI n), .int (zI P), .ref ht, .int (zI len)])), (hb, .inl (cB, 1200, .inl (zA r))), (ht, .inl (cT, 420, .inl (zA tx)))] (fun (u : (Nat → Int) × Int × Int) => mRep u.1 u.2.1 u.2.2 X ∧ u.2.1 ≤ n + 1 ∧ (u.2.1 - u.2.2 ≤ n + 1 - P ∨ u.2.1 - u.2.2 = 0) ∧ (u.2.2 ≤ P ∨ u.2.2 = 0)) (fun (u : (Nat → Int) × Int × Int) => [(h, .inr (3, [.ref hb, .int (zI u.2.1), .int (zI u.2.2), .ref ht, .int (zI len)])), (hb, .inl (cB, 1200, .inl (zA u.1))), (ht, .inl (cT, 420, .inl (zA tx)))]) 0 0 := by
  refine zMv.of (bytes := cX3_half) (nL := 4) (own := RX3) (by decide) rfl rfl (Nat.le_of_ble_eq_true rfl) ?_
  intro p e s m below meth c ls S hr hlk hnm w hl
  have lab4 : ∀ (nf_ : Nat) (r1 : Nat → Int) (re : Int) (k : Int), (n - k).toNat < nf_ → (0 ≤ k ∧ k ≤ n) → (0 ≤ re ∧ re ≤ 1) → (∀ j : Nat, (j : Int) < k → 0 ≤ r1 j ∧ r1 j ≤ 9) → (∀ j : Nat, k ≤ (j : Int) → r1 j = r j) → (2 * hv r1 k.toNat + re.toNat = hv r k.toNat) → ∀ (H : Heap) (locs : List Loc) (ls : Array Slot), zW D [(cB, .byte), (cT, .int)] (va_A [(h, .inr (3, [.ref hb, .int (zI n), .int (zI P), .ref ht, .int (zI len)])), (hb, .inl (cB, 1200, .inl (zA r))), (ht, .inl (cT, 420, .inl (zA tx)))] s.heap.size) s [(h, .inr (3, [.ref hb, .int (zI n), .int (zI P), .ref ht, .int (zI len)])), (hb, .inl (cB, 1200, .inl (zA r1))), (ht, .inl (cT, 420, .inl (zA tx)))] H locs → lv_has ls 4 [(0, .ref h), (1, .int (zI re)), (2, .int (zI k))] → W p l e ({ frames := 1, cells := 0, slots := 0, locals := 22 } : Room) s m ([.ref h] : List Value).toArray below meth c H locs 0 0 (MQ below (zQv D [(cB, .byte), (cT, .int)] [(h, .inr (3, [.ref hb, .int (zI n), .int (zI P), .ref ht, .int (zI len)])), (hb, .inl (cB, 1200, .inl (zA r))), (ht, .inl (cT, 420, .inl (zA tx)))] s.heap.size (fun (u : (Nat → Int) × Int × Int) => mRep u.1 u.2.1 u.2.2 X ∧ u.2.1 ≤ n + 1 ∧ (u.2.1 - u.2.2 ≤ n + 1 - P ∨ u.2.1 - u.2.2 = 0) ∧ (u.2.2 ≤ P ∨ u.2.2 = 0)) (fun (u : (Nat → Int) × Int × Int) => [(h, .inr (3, [.ref hb, .int (zI u.2.1), .int (zI u.2.2), .ref ht, .int (zI len)])), (hb, .inl (cB, 1200, .inl (zA u.1))), (ht, .inl (cT, 420, .inl (zA tx)))])) ([.ref h] : List Value).toArray s 0 0 (va_A [(h, .inr (3, [.ref hb, .int (zI n), .int (zI P), .ref ht, .int (zI len)])), (hb, .inl (cB, 1200, .inl (zA r))), (ht, .inl (cT, 420, .inl (zA tx)))] s.heap.size)) (F0 m 4 ls []) := by
    intro nf_
    induction nf_ with
    | zero => intro r1 re k hmeas_; exact absurd hmeas_ (Nat.not_lt_zero _)
    | succ nf_ ih =>
      intro r1 re k hmeas_ hk hre e1 e2 ev H locs ls w hl
      obtain ⟨⟨d1, d2, d3, d4⟩, d5, d6⟩ := id hp
      refine lv_iload_n S.1 S.2.1 dX3_half_4 rfl (lv_at hl 2 rfl) ?_
      refine lv_aload_n S.1 S.2.1 dX3_half_5 rfl (lv_at hl 0 rfl) ?_
      refine z_get (ci := 3) (C := RX3) (T := TX3) (N := 5) S w 0 rfl rfl in_X3_half_X3 1 (by decide) ln_X3_half_23 rfl rfl dX3_half_6 ?_
      refine z_icmp_ge (tgt := 44) S dX3_half_9 (by decide) (by omega) (by omega) (fun h9 => ?_) (fun h9 => ?_)
      · skip
        have ek : k = n := by omega
        rw [ek] at e1 e2 ev
        refine lv_iload_n S.1 S.2.1 dX3_half_44 rfl (lv_at hl 1 rfl) ?_
        refine z_if_le (tgt := 68) S dX3_half_45 (by decide) (by omega) (fun h45 => ?_) (fun h45 => ?_)
        · skip
          refine lv_aload_n S.1 S.2.1 dX3_half_68 rfl (lv_at hl 0 rfl) ?_
          refine z_callvV (C := RX3) (n := 0) (As := []) (rest := []) (wr := []) (wn := (fun (u : (Nat → Int) × Int × Int) => [(h, .inr (3, [.ref hb, .int (zI u.2.1), .int (zI u.2.2), .ref ht, .int (zI len)])), (hb, .inl (cB, 1200, .inl (zA u.1))), (ht, .inl (cT, 420, .inl (zA tx)))])) S w (c_X3_trim l D cB cT h hb ht r1 n P tx len X (by first | exact half_pre1 hp hpn (fun j q => e1 j (by omega)) (by omega) ev rfl | exact half_pre hp (fun j q => e1 j (by omega)) (by omega) ev) (by omega) (by omega)) gX3_half_X3_trim (by decide +kernel) rfl ⟨rfl, rfl⟩ ⟨Nat.le_of_ble_eq_true rfl, Nat.le_of_ble_eq_true rfl⟩ [0, 1] [0, 1, 2] [] [0, 1, 2] rfl rfl rfl rfl rfl (by decide) (fun u => rfl) rfl rfl rfl rfl rfl hl.1 (Nat.le_of_ble_eq_true rfl) ⟨Nat.le_of_ble_eq_true rfl, Nat.le_of_ble_eq_true rfl⟩ rfl dX3_half_69 (fun u H locs p69 w => ?_)
          obtain ⟨r69, n69, P69⟩ := u
          have p69 : mRep r69 n69 P69 X ∧ n69 ≤ n ∧ (n69 - P69 ≤ n - P ∨ n69 - P69 = 0) ∧ (P69 ≤ P ∨ P69 = 0) := p69
          have w : zW D _ _ s [(h, .inr (3, [.ref hb, .int (zI n69), .int (zI P69), .ref ht, .int (zI len)])), (hb, .inl (cB, 1200, .inl (zA r69))), (ht, .inl (cT, 420, .inl (zA tx)))] H locs := w
          have k1_ : mRep r69 n69 P69 X ∧ n69 ≤ n + 1 ∧ (n69 - P69 ≤ n + 1 - P ∨ n69 - P69 = 0) ∧ (P69 ≤ P ∨ P69 = 0) := by
            obtain ⟨a1, a2, a3, a4⟩ := p69; exact ⟨a1, by omega, by omega, by omega⟩
          exact z_vret S hr hlk w (r69, n69, P69) k1_ rfl dX3_half_72
        · skip
          refine lv_aload_n S.1 S.2.1 dX3_half_48 rfl (lv_at hl 0 rfl) ?_
          refine z_get (ci := 3) (C := RX3) (T := TX3) (N := 5) S w 0 rfl rfl in_X3_half_X3 0 (by decide) ln_X3_half_7 rfl rfl dX3_half_49 ?_
          refine lv_aload_n S.1 S.2.1 dX3_half_52 rfl (lv_at hl 0 rfl) ?_
          refine z_get (ci := 3) (C := RX3) (T := TX3) (N := 5) S w 0 rfl rfl in_X3_half_X3 1 (by decide) ln_X3_half_23 rfl rfl dX3_half_53 ?_
          refine z_iconst S dX3_half_56 ?_
          refine z_bast S w 1 0 rfl rfl (by omega) (by decide) (by omega) dX3_half_57 (fun H locs w => ?_)
          have w : zW D _ _ s [(h, .inr (3, [.ref hb, .int (zI n), .int (zI P), .ref ht, .int (zI len)])), (hb, .inl (cB, 1200, .inl (zA (zu r1 n.toNat 5)))), (ht, .inl (cT, 420, .inl (zA tx)))] H locs := w
          refine lv_aload_n S.1 S.2.1 dX3_half_58 rfl (lv_at hl 0 rfl) ?_
          refine lv_aload_n S.1 S.2.1 dX3_half_59 rfl (lv_at hl 0 rfl) ?_
          refine z_get (ci := 3) (C := RX3) (T := TX3) (N := 5) S w 0 rfl rfl in_X3_half_X3 1 (by decide) ln_X3_half_23 rfl rfl dX3_half_60 ?_
          refine z_iconst S dX3_half_63 ?_
          refine z_iadd S dX3_half_64 ?_
          refine z_put (ci := 3) (C := RX3) (T := TX3) (N := 5) S w 0 rfl rfl in_X3_half_X3 tyX3_ok nmX3 1 (by decide) ln_X3_half_23 rfl rfl rfl rfl (Nat.le_of_ble_eq_true rfl) dX3_half_65 (fun H locs w => ?_)
          have w : zW D _ _ s [(h, .inr (3, [.ref hb, .int (zI (n + 1)), .int (zI P), .ref ht, .int (zI len)])), (hb, .inl (cB, 1200, .inl (zA (zu r1 n.toNat 5)))), (ht, .inl (cT, 420, .inl (zA tx)))] H locs := w
          refine lv_aload_n S.1 S.2.1 dX3_half_68 rfl (lv_at hl 0 rfl) ?_
          refine z_callvV (C := RX3) (n := 0) (As := []) (rest := []) (wr := []) (wn := (fun (u : (Nat → Int) × Int × Int) => [(h, .inr (3, [.ref hb, .int (zI u.2.1), .int (zI u.2.2), .ref ht, .int (zI len)])), (hb, .inl (cB, 1200, .inl (zA u.1))), (ht, .inl (cT, 420, .inl (zA tx)))])) S w (c_X3_trim l D cB cT h hb ht (zu r1 n.toNat 5) (n + 1) P tx len X (by first | exact half_pre1 hp hpn (fun j q => e1 j (by omega)) (by omega) ev rfl | exact half_pre hp (fun j q => e1 j (by omega)) (by omega) ev) (by omega) (by omega)) gX3_half_X3_trim (by decide +kernel) rfl ⟨rfl, rfl⟩ ⟨Nat.le_of_ble_eq_true rfl, Nat.le_of_ble_eq_true rfl⟩ [0, 1] [0, 1, 2] [] [0, 1, 2] rfl rfl rfl rfl rfl (by decide) (fun u => rfl) rfl rfl rfl rfl rfl hl.1 (Nat.le_of_ble_eq_true rfl) ⟨Nat.le_of_ble_eq_true rfl, Nat.le_of_ble_eq_true rfl⟩ rfl dX3_half_69 (fun u H locs p69 w => ?_)
          obtain ⟨r69, n69, P69⟩ := u
          have p69 : mRep r69 n69 P69 X ∧ n69 ≤ (n + 1) ∧ (n69 - P69 ≤ (n + 1) - P ∨ n69 - P69 = 0) ∧ (P69 ≤ P ∨ P69 = 0) := p69
          have w : zW D _ _ s [(h, .inr (3, [.ref hb, .int (zI n69), .int (zI P69), .ref ht, .int (zI len)])), (hb, .inl (cB, 1200, .inl (zA r69))), (ht, .inl (cT, 420, .inl (zA tx)))] H locs := w
          have k2_ : mRep r69 n69 P69 X ∧ n69 ≤ n + 1 ∧ (n69 - P69 ≤ n + 1 - P ∨ n69 - P69 = 0) ∧ (P69 ≤ P ∨ P69 = 0) := by
            obtain ⟨a1, a2, a3, a4⟩ := p69; exact ⟨a1, by omega, by omega, by omega⟩
          exact z_vret S hr hlk w (r69, n69, P69) k2_ rfl dX3_half_72
      · skip
        have x1 : r1 k.toNat = r k.toNat := e2 _ (by omega)
        have x2 := d1 k.toNat (by omega)
        rw [← x1] at x2
        refine z_bipush S dX3_half_12 (by decide +kernel) ?_
        refine lv_iload_n S.1 S.2.1 dX3_half_14 rfl (lv_at hl 1 rfl) ?_
        refine z_imul S dX3_half_15 ?_
        refine lv_aload_n S.1 S.2.1 dX3_half_16 rfl (lv_at hl 0 rfl) ?_
        refine z_get (ci := 3) (C := RX3) (T := TX3) (N := 5) S w 0 rfl rfl in_X3_half_X3 0 (by decide) ln_X3_half_7 rfl rfl dX3_half_17 ?_
        refine lv_iload_n S.1 S.2.1 dX3_half_20 rfl (lv_at hl 2 rfl) ?_
        refine z_bald S w 1 0 rfl rfl (by omega) (by decide) dX3_half_21 ?_
        refine z_iadd S dX3_half_22 ?_
        refine lv_istore_n (lv' := [(3, .int (zI ((10 * re) + (r1 k.toNat)))), (0, .ref h), (1, .int (zI re)), (2, .int (zI k))]) S.1 S.2.1 dX3_half_23 rfl hl (by decide) rfl (fun ls hl => ?_)
        refine lv_aload_n S.1 S.2.1 dX3_half_24 rfl (lv_at hl 1 rfl) ?_
        refine z_get (ci := 3) (C := RX3) (T := TX3) (N := 5) S w 0 rfl rfl in_X3_half_X3 0 (by decide) ln_X3_half_7 rfl rfl dX3_half_25 ?_
        refine lv_iload_n S.1 S.2.1 dX3_half_28 rfl (lv_at hl 3 rfl) ?_
        refine lv_iload_n S.1 S.2.1 dX3_half_29 rfl (lv_at hl 0 rfl) ?_
        refine z_iconst S dX3_half_30 ?_
        refine z_idiv S dX3_half_31 (by omega) (by omega) ?_
        refine z_i2b S dX3_half_32 (by omega) ?_
        refine z_bast S w 1 0 rfl rfl (by omega) (by decide) (by omega) dX3_half_33 (fun H locs w => ?_)
        have w : zW D _ _ s [(h, .inr (3, [.ref hb, .int (zI n), .int (zI P), .ref ht, .int (zI len)])), (hb, .inl (cB, 1200, .inl (zA (zu r1 k.toNat (((10 * re) + (r1 k.toNat)) / 2))))), (ht, .inl (cT, 420, .inl (zA tx)))] H locs := w
        refine lv_iload_n S.1 S.2.1 dX3_half_34 rfl (lv_at hl 0 rfl) ?_
        refine z_iconst S dX3_half_35 ?_
        refine z_irem S dX3_half_36 (by omega) (by omega) ?_
        refine lv_istore_n (lv' := [(1, .int (zI (((10 * re) + (r1 k.toNat)) % 2))), (3, .int (zI ((10 * re) + (r1 k.toNat)))), (0, .ref h), (2, .int (zI k))]) S.1 S.2.1 dX3_half_37 rfl hl (by decide) rfl (fun ls hl => ?_)
        refine lv_iinc (v := zI (k + 1)) (lv' := [(2, .int (zI (k + 1))), (1, .int (zI (((10 * re) + (r1 k.toNat)) % 2))), (3, .int (zI ((10 * re) + (r1 k.toNat)))), (0, .ref h)]) S.1 S.2.1 dX3_half_38 hl (k := 3) rfl (zI_add k 1) (by decide) rfl (fun ls hl => ?_)
        refine lv_goto (tgt := 4) S.1 S.2.1 dX3_half_41 (by decide) ?_
        have k3_ : ∀ j : Nat, (j : Int) < (k + 1) → 0 ≤ (zu r1 k.toNat (((10 * re) + (r1 k.toNat)) / 2)) j ∧ (zu r1 k.toNat (((10 * re) + (r1 k.toNat)) / 2)) j ≤ 9 := by
          intro j q
          by_cases q1 : (j : Int) = k
          · have q2 : k.toNat = j := by omega
            rw [q2] at x2 ⊢
            rw [zu_s]; omega
          · rw [zu_n _ _ (by omega)]; exact e1 j (by omega)
        have k4_ : 2 * hv (zu r1 k.toNat (((10 * re) + (r1 k.toNat)) / 2)) (k + 1).toNat + (((10 * re) + (r1 k.toNat)) % 2).toNat = hv r (k + 1).toNat := by
          have q1 : (k + 1).toNat = k.toNat + 1 := by omega
          rw [q1, hv, hv, zu_s, hv_congr (t := r1) (k := k.toNat) (fun j q => zu_n _ _ (by omega)), ← x1]
          have q2 := half_step (x := (r1 k.toNat).toNat) ev (by omega)
          omega
        exact ih (zu r1 k.toNat (((10 * re) + (r1 k.toNat)) / 2)) (((10 * re) + (r1 k.toNat)) % 2) (k + 1) (by omega) (by omega) (by omega) k3_ (fun j q => by rw [zu_n _ _ (by omega)]; exact e2 j (by omega)) k4_ _ _ _ w (lv_sub hl [3, 1, 0] rfl)
  have hl : lv_has ls 4 [(0, .ref h)] := hl
  have hpn0 := hp.1.2.1
  refine z_iconst S dX3_half_0 ?_
  refine lv_istore_n (lv' := [(1, .int (zI 0)), (0, .ref h)]) S.1 S.2.1 dX3_half_1 rfl hl (by decide) rfl (fun ls hl => ?_)
  refine z_iconst S dX3_half_2 ?_
  refine lv_istore_n (lv' := [(2, .int (zI 0)), (1, .int (zI 0)), (0, .ref h)]) S.1 S.2.1 dX3_half_3 rfl hl (by decide) rfl (fun ls hl => ?_)
  exact lab4 _ r 0 0 (Nat.lt_succ_self _) (by omega) (by omega) (fun j q => by omega) (fun j q => rfl) rfl _ _ _ w (lv_sub hl [2, 1, 0] rfl)

set_option maxRecDepth 20000 in
theorem ln_X3_twice_7 : Cond.fieldLink RX3 7 "DecimalTextModel" "row" "[B" ∈ wsX3_twice := by decide +kernel
theorem in_X3_twice_X3 : ∀ w ∈ u_ws RX3 TX3 5, w ∈ wsX3_twice := by decide +kernel
set_option maxRecDepth 20000 in
theorem ln_X3_twice_23 : Cond.fieldLink RX3 23 "DecimalTextModel" "digits" "I" ∈ wsX3_twice := by decide +kernel
set_option maxRecDepth 20000 in
theorem ln_X3_twice_31 : Cond.fieldLink RX3 31 "DecimalTextModel" "point" "I" ∈ wsX3_twice := by decide +kernel
set_option maxHeartbeats 4000000 in
set_option maxRecDepth 100000 in
theorem c_X3_twice (l : Launch) (D : va_G) (cB cT : ClassId) (h : Nat) (hb : Nat) (ht : Nat) (r : Nat → Int) (n : Int) (P : Int) (tx : Nat → Int) (len : Int) (X : Nat) (hp : mRep r n P X) (hn : n ≤ 1190) (hP : -2000 ≤ P ∧ P ≤ 2000) : zMv (T := (Nat → Int) × Int × Int) l yX3_twice wsX3_twice ({ frames := 1, cells := 0, slots := 0, locals := 22 } : Room) D [(cB, .byte), (cT, .int)] [.ref h] [(h, .inr (3, [.ref hb, .int (zI n), .int (zI P), .ref ht, .int (zI len)])), (hb, .inl (cB, 1200, .inl (zA r))), (ht, .inl (cT, 420, .inl (zA tx)))] (fun (u : (Nat → Int) × Int × Int) => mRep u.1 u.2.1 u.2.2 (2 * X) ∧ u.2.1 ≤ n + 1 ∧ (u.2.1 - u.2.2 ≤ n - P ∨ u.2.1 - u.2.2 = 0) ∧ (u.2.2 ≤ P + 1 ∨ u.2.2 = 0)) (fun (u : (Nat → Int) × Int × Int) => [(h, .inr (3, [.ref hb, .int (zI u.2.1), .int (zI u.2.2), .ref ht, .int (zI len)])), (hb, .inl (cB, 1200, .inl (zA u.1))), (ht, .inl (cT, 420, .inl (zA tx)))]) 0 0 := by
  refine zMv.of (bytes := cX3_twice) (nL := 4) (own := RX3) (by decide) rfl rfl (Nat.le_of_ble_eq_true rfl) ?_
  intro p e s m below meth c ls S hr hlk hnm w hl
  have lab55 : ∀ (nf_ : Nat) (r1 : Nat → Int) (r2 : Nat → Int) (cr : Int) (k : Int), (k).toNat < nf_ → (0 ≤ k ∧ k ≤ n) → (cr = 1) → (∀ j : Nat, (j : Int) < n → 0 ≤ r1 j ∧ r1 j ≤ 9) → (hv r1 n.toNat + 10 ^ n.toNat = 2 * hv r n.toNat) → (∀ j : Nat, (j : Int) < k → r2 j = r1 j) → (∀ j : Nat, k ≤ (j : Int) → (j : Int) < n → r2 (j + 1) = r1 j) → ∀ (H : Heap) (locs : List Loc) (ls : Array Slot), zW D [(cB, .byte), (cT, .int)] (va_A [(h, .inr (3, [.ref hb, .int (zI n), .int (zI P), .ref ht, .int (zI len)])), (hb, .inl (cB, 1200, .inl (zA r))), (ht, .inl (cT, 420, .inl (zA tx)))] s.heap.size) s [(h, .inr (3, [.ref hb, .int (zI n), .int (zI P), .ref ht, .int (zI len)])), (hb, .inl (cB, 1200, .inl (zA r2))), (ht, .inl (cT, 420, .inl (zA tx)))] H locs → lv_has ls 4 [(0, .ref h), (1, .int (zI cr)), (2, .int (zI k))] → W p l e ({ frames := 1, cells := 0, slots := 0, locals := 22 } : Room) s m ([.ref h] : List Value).toArray below meth c H locs 0 0 (MQ below (zQv D [(cB, .byte), (cT, .int)] [(h, .inr (3, [.ref hb, .int (zI n), .int (zI P), .ref ht, .int (zI len)])), (hb, .inl (cB, 1200, .inl (zA r))), (ht, .inl (cT, 420, .inl (zA tx)))] s.heap.size (fun (u : (Nat → Int) × Int × Int) => mRep u.1 u.2.1 u.2.2 (2 * X) ∧ u.2.1 ≤ n + 1 ∧ (u.2.1 - u.2.2 ≤ n - P ∨ u.2.1 - u.2.2 = 0) ∧ (u.2.2 ≤ P + 1 ∨ u.2.2 = 0)) (fun (u : (Nat → Int) × Int × Int) => [(h, .inr (3, [.ref hb, .int (zI u.2.1), .int (zI u.2.2), .ref ht, .int (zI len)])), (hb, .inl (cB, 1200, .inl (zA u.1))), (ht, .inl (cT, 420, .inl (zA tx)))])) ([.ref h] : List Value).toArray s 0 0 (va_A [(h, .inr (3, [.ref hb, .int (zI n), .int (zI P), .ref ht, .int (zI len)])), (hb, .inl (cB, 1200, .inl (zA r))), (ht, .inl (cT, 420, .inl (zA tx)))] s.heap.size)) (F0 m 55 ls []) := by
    intro nf_
    induction nf_ with
    | zero => intro r1 r2 cr k hmeas_; exact absurd hmeas_ (Nat.not_lt_zero _)
    | succ nf_ ih =>
      intro r1 r2 cr k hmeas_ hk hcr d1 ev e1 e2 H locs ls w hl
      refine lv_iload_n S.1 S.2.1 dX3_twice_55 rfl (lv_at hl 2 rfl) ?_
      refine z_if_le (tgt := 79) S dX3_twice_56 (by decide) (by omega) (fun h56 => ?_) (fun h56 => ?_)
      · skip
        refine lv_aload_n S.1 S.2.1 dX3_twice_79 rfl (lv_at hl 0 rfl) ?_
        refine z_get (ci := 3) (C := RX3) (T := TX3) (N := 5) S w 0 rfl rfl in_X3_twice_X3 0 (by decide) ln_X3_twice_7 rfl rfl dX3_twice_80 ?_
        refine z_iconst S dX3_twice_83 ?_
        refine lv_iload_n S.1 S.2.1 dX3_twice_84 rfl (lv_at hl 1 rfl) ?_
        refine z_i2b S dX3_twice_85 (by omega) ?_
        refine z_bast S w 1 0 rfl rfl (by omega) (by decide) (by omega) dX3_twice_86 (fun H locs w => ?_)
        have w : zW D _ _ s [(h, .inr (3, [.ref hb, .int (zI n), .int (zI P), .ref ht, .int (zI len)])), (hb, .inl (cB, 1200, .inl (zA (zu r2 (0 : Int).toNat cr)))), (ht, .inl (cT, 420, .inl (zA tx)))] H locs := w
        refine lv_aload_n S.1 S.2.1 dX3_twice_87 rfl (lv_at hl 0 rfl) ?_
        refine lv_aload_n S.1 S.2.1 dX3_twice_88 rfl (lv_at hl 0 rfl) ?_
        refine z_get (ci := 3) (C := RX3) (T := TX3) (N := 5) S w 0 rfl rfl in_X3_twice_X3 1 (by decide) ln_X3_twice_23 rfl rfl dX3_twice_89 ?_
        refine z_iconst S dX3_twice_92 ?_
        refine z_iadd S dX3_twice_93 ?_
        refine z_put (ci := 3) (C := RX3) (T := TX3) (N := 5) S w 0 rfl rfl in_X3_twice_X3 tyX3_ok nmX3 1 (by decide) ln_X3_twice_23 rfl rfl rfl rfl (Nat.le_of_ble_eq_true rfl) dX3_twice_94 (fun H locs w => ?_)
        have w : zW D _ _ s [(h, .inr (3, [.ref hb, .int (zI (n + 1)), .int (zI P), .ref ht, .int (zI len)])), (hb, .inl (cB, 1200, .inl (zA (zu r2 (0 : Int).toNat cr)))), (ht, .inl (cT, 420, .inl (zA tx)))] H locs := w
        refine lv_aload_n S.1 S.2.1 dX3_twice_97 rfl (lv_at hl 0 rfl) ?_
        refine lv_aload_n S.1 S.2.1 dX3_twice_98 rfl (lv_at hl 0 rfl) ?_
        refine z_get (ci := 3) (C := RX3) (T := TX3) (N := 5) S w 0 rfl rfl in_X3_twice_X3 2 (by decide) ln_X3_twice_31 rfl rfl dX3_twice_99 ?_
        refine z_iconst S dX3_twice_102 ?_
        refine z_iadd S dX3_twice_103 ?_
        refine z_put (ci := 3) (C := RX3) (T := TX3) (N := 5) S w 0 rfl rfl in_X3_twice_X3 tyX3_ok nmX3 2 (by decide) ln_X3_twice_31 rfl rfl rfl rfl (Nat.le_of_ble_eq_true rfl) dX3_twice_104 (fun H locs w => ?_)
        have w : zW D _ _ s [(h, .inr (3, [.ref hb, .int (zI (n + 1)), .int (zI (P + 1)), .ref ht, .int (zI len)])), (hb, .inl (cB, 1200, .inl (zA (zu r2 (0 : Int).toNat cr)))), (ht, .inl (cT, 420, .inl (zA tx)))] H locs := w
        refine lv_aload_n S.1 S.2.1 dX3_twice_107 rfl (lv_at hl 0 rfl) ?_
        have k1_ : mPre (zu r2 (0 : Int).toNat cr) (n + 1) (P + 1) (2 * X) := by
          obtain ⟨⟨f1, f2, f3, f4⟩, f5, f6⟩ := id hp
          first
            | (refine ⟨fun j q => ?_, by omega, by omega, ?_⟩
               · by_cases q1 : j = 0
                 · rw [q1, hcr]; show 0 ≤ zu r2 0 1 0 ∧ zu r2 0 1 0 ≤ 9; rw [zu_s]; omega
                 · rw [zu_n _ _ (by show j ≠ 0; exact q1)]
                   obtain ⟨i, rfl⟩ : ∃ i, j = i + 1 := ⟨j - 1, by omega⟩
                   rw [e2 i (by omega) (by omega)]; exact d1 i (by omega)
               · have q1 : (n + 1).toNat = n.toNat + 1 := by omega
                 have q2 : (1200 + (P + 1) - (n + 1)).toNat = (1200 + P - n).toNat := by omega
                 rw [q1, q2, hv_cons (r := r1) (fun j q => by rw [zu_n _ _ (by show j + 1 ≠ 0; omega)]; exact e2 j (by omega) (by omega)), f4, hcr]
                 show 2 * (hv r n.toNat * _) = ((zu r2 0 1 0).toNat * _ + _) * _
                 rw [zu_s, ← Nat.mul_assoc, ← ev]
                 show _ = ((1 : Nat) * _ + _) * _
                 rw [Nat.one_mul, Nat.add_comm])
            | (refine ⟨dd, f2, f3, ?_⟩
               have c0 : cr.toNat = 0 := by omega
               rw [c0, Nat.zero_mul, Nat.add_zero] at hv1
               rw [hv1, f4, Nat.mul_assoc])
        refine z_callvV (C := RX3) (n := 0) (As := []) (rest := []) (wr := []) (wn := (fun (u : (Nat → Int) × Int × Int) => [(h, .inr (3, [.ref hb, .int (zI u.2.1), .int (zI u.2.2), .ref ht, .int (zI len)])), (hb, .inl (cB, 1200, .inl (zA u.1))), (ht, .inl (cT, 420, .inl (zA tx)))])) S w (c_X3_trim l D cB cT h hb ht (zu r2 (0 : Int).toNat cr) (n + 1) (P + 1) tx len (2 * X) k1_ (by omega) (by omega)) gX3_twice_X3_trim (by decide +kernel) rfl ⟨rfl, rfl⟩ ⟨Nat.le_of_ble_eq_true rfl, Nat.le_of_ble_eq_true rfl⟩ [0, 1] [0, 1, 2] [] [0, 1, 2] rfl rfl rfl rfl rfl (by decide) (fun u => rfl) rfl rfl rfl rfl rfl hl.1 (Nat.le_of_ble_eq_true rfl) ⟨Nat.le_of_ble_eq_true rfl, Nat.le_of_ble_eq_true rfl⟩ rfl dX3_twice_108 (fun u H locs p108 w => ?_)
        obtain ⟨r108, n108, P108⟩ := u
        have p108 : mRep r108 n108 P108 (2 * X) ∧ n108 ≤ (n + 1) ∧ (n108 - P108 ≤ (n + 1) - (P + 1) ∨ n108 - P108 = 0) ∧ (P108 ≤ (P + 1) ∨ P108 = 0) := p108
        have w : zW D _ _ s [(h, .inr (3, [.ref hb, .int (zI n108), .int (zI P108), .ref ht, .int (zI len)])), (hb, .inl (cB, 1200, .inl (zA r108))), (ht, .inl (cT, 420, .inl (zA tx)))] H locs := w
        have k2_ : mRep r108 n108 P108 (2 * X) ∧ n108 ≤ n + 1 ∧ (n108 - P108 ≤ n - P ∨ n108 - P108 = 0) ∧ (P108 ≤ P + 1 ∨ P108 = 0) := by
          obtain ⟨a1, a2, a3, a4⟩ := p108; exact ⟨a1, by omega, by omega, by omega⟩
        exact z_vret S hr hlk w (r108, n108, P108) k2_ rfl dX3_twice_111
      · skip
        refine lv_aload_n S.1 S.2.1 dX3_twice_59 rfl (lv_at hl 0 rfl) ?_
        refine z_get (ci := 3) (C := RX3) (T := TX3) (N := 5) S w 0 rfl rfl in_X3_twice_X3 0 (by decide) ln_X3_twice_7 rfl rfl dX3_twice_60 ?_
        refine lv_iload_n S.1 S.2.1 dX3_twice_63 rfl (lv_at hl 2 rfl) ?_
        refine lv_aload_n S.1 S.2.1 dX3_twice_64 rfl (lv_at hl 0 rfl) ?_
        refine z_get (ci := 3) (C := RX3) (T := TX3) (N := 5) S w 0 rfl rfl in_X3_twice_X3 0 (by decide) ln_X3_twice_7 rfl rfl dX3_twice_65 ?_
        refine lv_iload_n S.1 S.2.1 dX3_twice_68 rfl (lv_at hl 2 rfl) ?_
        refine z_iconst S dX3_twice_69 ?_
        refine z_isub S dX3_twice_70 ?_
        refine z_bald S w 1 0 rfl rfl (by omega) (by decide) dX3_twice_71 ?_
        refine z_bast S w 1 0 rfl rfl (by omega) (by decide) (by rw [e1 _ (by omega)]; have := d1 (k - 1).toNat (by omega); omega) dX3_twice_72 (fun H locs w => ?_)
        have w : zW D _ _ s [(h, .inr (3, [.ref hb, .int (zI n), .int (zI P), .ref ht, .int (zI len)])), (hb, .inl (cB, 1200, .inl (zA (zu r2 k.toNat (r2 (k - 1).toNat))))), (ht, .inl (cT, 420, .inl (zA tx)))] H locs := w
        refine lv_iinc (v := zI (k + (-1))) (lv' := [(2, .int (zI (k + (-1)))), (0, .ref h), (1, .int (zI cr))]) S.1 S.2.1 dX3_twice_73 hl (k := 2) rfl (zI_add k (-1)) (by decide) rfl (fun ls hl => ?_)
        refine lv_goto (tgt := 55) S.1 S.2.1 dX3_twice_76 (by decide) ?_
        have k3_ : ∀ j : Nat, (k + (-1)) ≤ (j : Int) → (j : Int) < n → (zu r2 k.toNat (r2 (k - 1).toNat)) (j + 1) = r1 j := by
          intro j q1 q2
          by_cases q3 : (j : Int) = k - 1
          · have q4 : k.toNat = j + 1 := by omega
            have q5 : (k - 1).toNat = j := by omega
            rw [q4, zu_s, q5]; exact e1 j (by omega)
          · rw [zu_n _ _ (by omega)]; exact e2 j (by omega) q2
        exact ih r1 (zu r2 k.toNat (r2 (k - 1).toNat)) cr (k + (-1)) (by omega) (by omega) (by omega) d1 ev (fun j q => by rw [zu_n _ _ (by omega)]; exact e1 j (by omega)) k3_ _ _ _ w (lv_sub hl [1, 2, 0] rfl)
  have lab9 : ∀ (nf_ : Nat) (r1 : Nat → Int) (cr : Int) (k : Int), (k + 1).toNat < nf_ → (-1 ≤ k ∧ k ≤ n - 1) → (0 ≤ cr ∧ cr ≤ 1) → (∀ j : Nat, k < (j : Int) → (j : Int) < n → 0 ≤ r1 j ∧ r1 j ≤ 9) → (∀ j : Nat, (j : Int) ≤ k → r1 j = r j) → (tv r1 n.toNat (n - 1 - k).toNat + cr.toNat * 10 ^ (n - 1 - k).toNat = 2 * tv r n.toNat (n - 1 - k).toNat) → ∀ (H : Heap) (locs : List Loc) (ls : Array Slot), zW D [(cB, .byte), (cT, .int)] (va_A [(h, .inr (3, [.ref hb, .int (zI n), .int (zI P), .ref ht, .int (zI len)])), (hb, .inl (cB, 1200, .inl (zA r))), (ht, .inl (cT, 420, .inl (zA tx)))] s.heap.size) s [(h, .inr (3, [.ref hb, .int (zI n), .int (zI P), .ref ht, .int (zI len)])), (hb, .inl (cB, 1200, .inl (zA r1))), (ht, .inl (cT, 420, .inl (zA tx)))] H locs → lv_has ls 4 [(0, .ref h), (1, .int (zI cr)), (2, .int (zI k))] → W p l e ({ frames := 1, cells := 0, slots := 0, locals := 22 } : Room) s m ([.ref h] : List Value).toArray below meth c H locs 0 0 (MQ below (zQv D [(cB, .byte), (cT, .int)] [(h, .inr (3, [.ref hb, .int (zI n), .int (zI P), .ref ht, .int (zI len)])), (hb, .inl (cB, 1200, .inl (zA r))), (ht, .inl (cT, 420, .inl (zA tx)))] s.heap.size (fun (u : (Nat → Int) × Int × Int) => mRep u.1 u.2.1 u.2.2 (2 * X) ∧ u.2.1 ≤ n + 1 ∧ (u.2.1 - u.2.2 ≤ n - P ∨ u.2.1 - u.2.2 = 0) ∧ (u.2.2 ≤ P + 1 ∨ u.2.2 = 0)) (fun (u : (Nat → Int) × Int × Int) => [(h, .inr (3, [.ref hb, .int (zI u.2.1), .int (zI u.2.2), .ref ht, .int (zI len)])), (hb, .inl (cB, 1200, .inl (zA u.1))), (ht, .inl (cT, 420, .inl (zA tx)))])) ([.ref h] : List Value).toArray s 0 0 (va_A [(h, .inr (3, [.ref hb, .int (zI n), .int (zI P), .ref ht, .int (zI len)])), (hb, .inl (cB, 1200, .inl (zA r))), (ht, .inl (cT, 420, .inl (zA tx)))] s.heap.size)) (F0 m 9 ls []) := by
    intro nf_
    induction nf_ with
    | zero => intro r1 cr k hmeas_; exact absurd hmeas_ (Nat.not_lt_zero _)
    | succ nf_ ih =>
      intro r1 cr k hmeas_ hk hcr e1 e2 ev H locs ls w hl
      obtain ⟨⟨d1, d2, d3, d4⟩, d5, d6⟩ := id hp
      refine lv_iload_n S.1 S.2.1 dX3_twice_9 rfl (lv_at hl 2 rfl) ?_
      refine z_if_lt (tgt := 46) S dX3_twice_10 (by decide) (by omega) (fun h10 => ?_) (fun h10 => ?_)
      · skip
        have ek : k = -1 := by omega
        have em : (n - 1 - k).toNat = n.toNat := by omega
        have hv1 : hv r1 n.toNat + cr.toNat * 10 ^ n.toNat = 2 * hv r n.toNat := by
          have q1 := tv_hv r1 n.toNat n.toNat (Nat.le_refl _)
          have q2 := tv_hv r n.toNat n.toNat (Nat.le_refl _)
          rw [Nat.sub_self, hv, Nat.zero_mul, Nat.zero_add] at q1 q2
          rw [em] at ev
          rw [q1, q2]; exact ev
        have dd : ∀ j : Nat, (j : Int) < n → 0 ≤ r1 j ∧ r1 j ≤ 9 := fun j q => e1 j (by omega) q
        refine lv_iload_n S.1 S.2.1 dX3_twice_46 rfl (lv_at hl 1 rfl) ?_
        refine z_if_le (tgt := 107) S dX3_twice_47 (by decide) (by omega) (fun h47 => ?_) (fun h47 => ?_)
        · skip
          refine lv_aload_n S.1 S.2.1 dX3_twice_107 rfl (lv_at hl 0 rfl) ?_
          have k4_ : mPre r1 n P (2 * X) := by
            obtain ⟨⟨f1, f2, f3, f4⟩, f5, f6⟩ := id hp
            first
              | (refine ⟨fun j q => ?_, by omega, by omega, ?_⟩
                 · by_cases q1 : j = 0
                   · rw [q1, hcr]; show 0 ≤ zu r2 0 1 0 ∧ zu r2 0 1 0 ≤ 9; rw [zu_s]; omega
                   · rw [zu_n _ _ (by show j ≠ 0; exact q1)]
                     obtain ⟨i, rfl⟩ : ∃ i, j = i + 1 := ⟨j - 1, by omega⟩
                     rw [e2 i (by omega) (by omega)]; exact d1 i (by omega)
                 · have q1 : (n + 1).toNat = n.toNat + 1 := by omega
                   have q2 : (1200 + (P + 1) - (n + 1)).toNat = (1200 + P - n).toNat := by omega
                   rw [q1, q2, hv_cons (r := r1) (fun j q => by rw [zu_n _ _ (by show j + 1 ≠ 0; omega)]; exact e2 j (by omega) (by omega)), f4, hcr]
                   show 2 * (hv r n.toNat * _) = ((zu r2 0 1 0).toNat * _ + _) * _
                   rw [zu_s, ← Nat.mul_assoc, ← ev]
                   show _ = ((1 : Nat) * _ + _) * _
                   rw [Nat.one_mul, Nat.add_comm])
              | (refine ⟨dd, f2, f3, ?_⟩
                 have c0 : cr.toNat = 0 := by omega
                 rw [c0, Nat.zero_mul, Nat.add_zero] at hv1
                 rw [hv1, f4, Nat.mul_assoc])
          refine z_callvV (C := RX3) (n := 0) (As := []) (rest := []) (wr := []) (wn := (fun (u : (Nat → Int) × Int × Int) => [(h, .inr (3, [.ref hb, .int (zI u.2.1), .int (zI u.2.2), .ref ht, .int (zI len)])), (hb, .inl (cB, 1200, .inl (zA u.1))), (ht, .inl (cT, 420, .inl (zA tx)))])) S w (c_X3_trim l D cB cT h hb ht r1 n P tx len (2 * X) k4_ (by omega) (by omega)) gX3_twice_X3_trim (by decide +kernel) rfl ⟨rfl, rfl⟩ ⟨Nat.le_of_ble_eq_true rfl, Nat.le_of_ble_eq_true rfl⟩ [0, 1] [0, 1, 2] [] [0, 1, 2] rfl rfl rfl rfl rfl (by decide) (fun u => rfl) rfl rfl rfl rfl rfl hl.1 (Nat.le_of_ble_eq_true rfl) ⟨Nat.le_of_ble_eq_true rfl, Nat.le_of_ble_eq_true rfl⟩ rfl dX3_twice_108 (fun u H locs p108 w => ?_)
          obtain ⟨r108, n108, P108⟩ := u
          have p108 : mRep r108 n108 P108 (2 * X) ∧ n108 ≤ n ∧ (n108 - P108 ≤ n - P ∨ n108 - P108 = 0) ∧ (P108 ≤ P ∨ P108 = 0) := p108
          have w : zW D _ _ s [(h, .inr (3, [.ref hb, .int (zI n108), .int (zI P108), .ref ht, .int (zI len)])), (hb, .inl (cB, 1200, .inl (zA r108))), (ht, .inl (cT, 420, .inl (zA tx)))] H locs := w
          have k5_ : mRep r108 n108 P108 (2 * X) ∧ n108 ≤ n + 1 ∧ (n108 - P108 ≤ n - P ∨ n108 - P108 = 0) ∧ (P108 ≤ P + 1 ∨ P108 = 0) := by
            obtain ⟨a1, a2, a3, a4⟩ := p108; exact ⟨a1, by omega, by omega, by omega⟩
          exact z_vret S hr hlk w (r108, n108, P108) k5_ rfl dX3_twice_111
        · skip
          refine lv_aload_n S.1 S.2.1 dX3_twice_50 rfl (lv_at hl 0 rfl) ?_
          refine z_get (ci := 3) (C := RX3) (T := TX3) (N := 5) S w 0 rfl rfl in_X3_twice_X3 1 (by decide) ln_X3_twice_23 rfl rfl dX3_twice_51 ?_
          refine lv_istore_n (lv' := [(2, .int (zI n)), (0, .ref h), (1, .int (zI cr))]) S.1 S.2.1 dX3_twice_54 rfl hl (by decide) rfl (fun ls hl => ?_)
          have k6_ : hv r1 n.toNat + 10 ^ n.toNat = 2 * hv r n.toNat := by
            have q : cr.toNat = 1 := by omega
            rw [q, Nat.one_mul] at hv1; exact hv1
          exact lab55 _ r1 r1 cr n (Nat.lt_succ_self _) (by omega) (by omega) dd k6_ (fun j q => rfl) (fun j q1 q2 => by omega) _ _ _ w (lv_sub hl [1, 2, 0] rfl)
      · skip
        have x1 : r1 k.toNat = r k.toNat := e2 _ (by omega)
        have x2 := d1 k.toNat (by omega)
        rw [← x1] at x2
        refine z_iconst S dX3_twice_13 ?_
        refine lv_aload_n S.1 S.2.1 dX3_twice_14 rfl (lv_at hl 0 rfl) ?_
        refine z_get (ci := 3) (C := RX3) (T := TX3) (N := 5) S w 0 rfl rfl in_X3_twice_X3 0 (by decide) ln_X3_twice_7 rfl rfl dX3_twice_15 ?_
        refine lv_iload_n S.1 S.2.1 dX3_twice_18 rfl (lv_at hl 2 rfl) ?_
        refine z_bald S w 1 0 rfl rfl (by omega) (by decide) dX3_twice_19 ?_
        refine z_imul S dX3_twice_20 ?_
        refine lv_iload_n S.1 S.2.1 dX3_twice_21 rfl (lv_at hl 1 rfl) ?_
        refine z_iadd S dX3_twice_22 ?_
        refine lv_istore_n (lv' := [(3, .int (zI ((2 * (r1 k.toNat)) + cr))), (0, .ref h), (1, .int (zI cr)), (2, .int (zI k))]) S.1 S.2.1 dX3_twice_23 rfl hl (by decide) rfl (fun ls hl => ?_)
        refine lv_aload_n S.1 S.2.1 dX3_twice_24 rfl (lv_at hl 1 rfl) ?_
        refine z_get (ci := 3) (C := RX3) (T := TX3) (N := 5) S w 0 rfl rfl in_X3_twice_X3 0 (by decide) ln_X3_twice_7 rfl rfl dX3_twice_25 ?_
        refine lv_iload_n S.1 S.2.1 dX3_twice_28 rfl (lv_at hl 3 rfl) ?_
        refine lv_iload_n S.1 S.2.1 dX3_twice_29 rfl (lv_at hl 0 rfl) ?_
        refine z_bipush S dX3_twice_30 (by decide +kernel) ?_
        refine z_irem S dX3_twice_32 (by omega) (by omega) ?_
        refine z_i2b S dX3_twice_33 (by omega) ?_
        refine z_bast S w 1 0 rfl rfl (by omega) (by decide) (by omega) dX3_twice_34 (fun H locs w => ?_)
        have w : zW D _ _ s [(h, .inr (3, [.ref hb, .int (zI n), .int (zI P), .ref ht, .int (zI len)])), (hb, .inl (cB, 1200, .inl (zA (zu r1 k.toNat (((2 * (r1 k.toNat)) + cr) % 10))))), (ht, .inl (cT, 420, .inl (zA tx)))] H locs := w
        refine lv_iload_n S.1 S.2.1 dX3_twice_35 rfl (lv_at hl 0 rfl) ?_
        refine z_bipush S dX3_twice_36 (by decide +kernel) ?_
        refine z_idiv S dX3_twice_38 (by omega) (by omega) ?_
        refine lv_istore_n (lv' := [(1, .int (zI (((2 * (r1 k.toNat)) + cr) / 10))), (3, .int (zI ((2 * (r1 k.toNat)) + cr))), (0, .ref h), (2, .int (zI k))]) S.1 S.2.1 dX3_twice_39 rfl hl (by decide) rfl (fun ls hl => ?_)
        refine lv_iinc (v := zI (k + (-1))) (lv' := [(2, .int (zI (k + (-1)))), (1, .int (zI (((2 * (r1 k.toNat)) + cr) / 10))), (3, .int (zI ((2 * (r1 k.toNat)) + cr))), (0, .ref h)]) S.1 S.2.1 dX3_twice_40 hl (k := 3) rfl (zI_add k (-1)) (by decide) rfl (fun ls hl => ?_)
        refine lv_goto (tgt := 9) S.1 S.2.1 dX3_twice_43 (by decide) ?_
        have k7_ : ∀ j : Nat, (k + (-1)) < (j : Int) → (j : Int) < n → 0 ≤ (zu r1 k.toNat (((2 * (r1 k.toNat)) + cr) % 10)) j ∧ (zu r1 k.toNat (((2 * (r1 k.toNat)) + cr) % 10)) j ≤ 9 := by
          intro j q q3
          by_cases q1 : (j : Int) = k
          · have q2 : k.toNat = j := by omega
            rw [q2] at x2 ⊢
            rw [zu_s]; omega
          · rw [zu_n _ _ (by omega)]; exact e1 j (by omega) q3
        have k8_ : tv (zu r1 k.toNat (((2 * (r1 k.toNat)) + cr) % 10)) n.toNat (n - 1 - (k + (-1))).toNat + (((2 * (r1 k.toNat)) + cr) / 10).toNat * 10 ^ (n - 1 - (k + (-1))).toNat = 2 * tv r n.toNat (n - 1 - (k + (-1))).toNat := by
          have q1 : (n - 1 - (k + (-1))).toNat = (n - 1 - k).toNat + 1 := by omega
          have q2 : n.toNat - 1 - (n - 1 - k).toNat = k.toNat := by omega
          rw [q1, tv, tv, q2, zu_s, Nat.pow_succ, tv_congr (t := r1) (m := (n - 1 - k).toNat) (fun j k1 k2 => zu_n _ _ (by omega)) (by omega), ← x1]
          exact tw_step ev (by omega)
        exact ih (zu r1 k.toNat (((2 * (r1 k.toNat)) + cr) % 10)) (((2 * (r1 k.toNat)) + cr) / 10) (k + (-1)) (by omega) (by omega) (by omega) k7_ (fun j q => by rw [zu_n _ _ (by omega)]; exact e2 j (by omega)) k8_ _ _ _ w (lv_sub hl [3, 1, 0] rfl)
  have hl : lv_has ls 4 [(0, .ref h)] := hl
  have hpn0 := hp.1.2.1
  refine z_iconst S dX3_twice_0 ?_
  refine lv_istore_n (lv' := [(1, .int (zI 0)), (0, .ref h)]) S.1 S.2.1 dX3_twice_1 rfl hl (by decide) rfl (fun ls hl => ?_)
  refine lv_aload_n S.1 S.2.1 dX3_twice_2 rfl (lv_at hl 1 rfl) ?_
  refine z_get (ci := 3) (C := RX3) (T := TX3) (N := 5) S w 0 rfl rfl in_X3_twice_X3 1 (by decide) ln_X3_twice_23 rfl rfl dX3_twice_3 ?_
  refine z_iconst S dX3_twice_6 ?_
  refine z_isub S dX3_twice_7 ?_
  refine lv_istore_n (lv' := [(2, .int (zI (n - 1))), (1, .int (zI 0)), (0, .ref h)]) S.1 S.2.1 dX3_twice_8 rfl hl (by decide) rfl (fun ls hl => ?_)
  have k9_ : tv r n.toNat (n - 1 - (n - 1)).toNat + (0 : Int).toNat * 10 ^ (n - 1 - (n - 1)).toNat = 2 * tv r n.toNat (n - 1 - (n - 1)).toNat := by
    have q : (n - 1 - (n - 1)).toNat = 0 := by omega
    rw [q]; rfl
  exact lab9 _ r 0 (n - 1) (Nat.lt_succ_self _) (by omega) (by omega) (fun j q1 q2 => by omega) (fun j q => rfl) k9_ _ _ _ w (lv_sub hl [2, 1, 0] rfl)
