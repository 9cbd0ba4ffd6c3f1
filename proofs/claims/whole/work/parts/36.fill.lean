set_option maxRecDepth 20000 in
theorem ln_X3_fill_43 : Cond.fieldLink RX3 43 "DecimalTextModel" "length" "I" ∈ wsX3_fill := by decide +kernel
theorem in_X3_fill_X3 : ∀ w ∈ u_ws RX3 TX3 5, w ∈ wsX3_fill := by decide +kernel
set_option maxRecDepth 20000 in
theorem ln_X3_fill_13 : Cond.fieldLink RX3 13 "DecimalTextModel" "text" "[I" ∈ wsX3_fill := by decide +kernel
set_option maxHeartbeats 4000000 in
set_option maxRecDepth 100000 in
theorem c_X3_fill (l : Launch) (D : va_G) (cB cT : ClassId) (h : Nat) (hb : Nat) (ht : Nat) (r : Nat → Int) (n : Int) (P : Int) (tx : Nat → Int) (len : Int) (mo : Int) (fl : Int) (fr : Int) (pl : Int) (T : List Int) (hT : tRep tx len T) (hlen : len ≤ 400) (hmo : 0 < mo ∧ mo ≤ 400 - len) (hfr : 0 ≤ fr ∧ fr ≤ len) (hpl : pl = 0 ∨ pl = 1) (hfl : 0 ≤ fl ∧ fl ≤ 31) : zMv (T := (Nat → Int) × Int) l yX3_fill wsX3_fill ({ frames := 0, cells := 0, slots := 0, locals := 0 } : Room) D [(cB, .byte), (cT, .int)] [.ref h, .int (zI mo), .int (zI fl), .int (zI fr), .int (zI pl)] [(h, .inr (3, [.ref hb, .int (zI n), .int (zI P), .ref ht, .int (zI len)])), (hb, .inl (cB, 1200, .inl (zA r))), (ht, .inl (cT, 420, .inl (zA tx)))] (fun (u : (Nat → Int) × Int) => tRep u.1 u.2 (padT T fr mo (1 - pl) fl) ∧ u.2 = len + mo) (fun (u : (Nat → Int) × Int) => [(h, .inr (3, [.ref hb, .int (zI n), .int (zI P), .ref ht, .int (zI u.2)])), (hb, .inl (cB, 1200, .inl (zA r))), (ht, .inl (cT, 420, .inl (zA u.1)))]) 0 0 := by
  refine zMv.of (bytes := cX3_fill) (nL := 9) (own := RX3) (by decide) rfl rfl (Nat.le_of_ble_eq_true rfl) ?_
  intro p e s m below meth c ls S hr hlk hnm w hl
  have lab101 : ∀ (nf_ : Nat) (t2 : Nat → Int) (ze : Int) (at1 : Int) (fi : Int) (k : Int), (mo - k).toNat < nf_ → ((fl % 2 = 1 ∧ ze = 0 ∧ at1 = len) ∨ (fl % 2 ≠ 1 ∧ ze = 1 ∧ fl / 8 % 2 = 1 ∧ pl = 0 ∧ at1 = fr) ∨ (fl % 2 ≠ 1 ∧ ze = 0 ∧ ¬ (fl / 8 % 2 = 1 ∧ pl = 0) ∧ at1 = 0)) → (((ze = 1 ∧ fi = 48) ∨ (ze = 0 ∧ fi = 32))) → (0 ≤ k ∧ k ≤ mo) → (∀ j : Nat, (j : Int) < at1 → t2 j = tx j) → (∀ j : Nat, at1 ≤ (j : Int) → (j : Int) < at1 + k → t2 j = fi) → (∀ j : Nat, at1 ≤ (j : Int) → (j : Int) < len → t2 (j + mo.toNat) = tx j) → ∀ (H : Heap) (locs : List Loc) (ls : Array Slot), zW D [(cB, .byte), (cT, .int)] (va_A [(h, .inr (3, [.ref hb, .int (zI n), .int (zI P), .ref ht, .int (zI len)])), (hb, .inl (cB, 1200, .inl (zA r))), (ht, .inl (cT, 420, .inl (zA tx)))] s.heap.size) s [(h, .inr (3, [.ref hb, .int (zI n), .int (zI P), .ref ht, .int (zI len)])), (hb, .inl (cB, 1200, .inl (zA r))), (ht, .inl (cT, 420, .inl (zA t2)))] H locs → lv_has ls 9 [(0, .ref h), (1, .int (zI mo)), (6, .int (zI ze)), (7, .int (zI at1)), (8, .int (zI k))] → W p l e ({ frames := 0, cells := 0, slots := 0, locals := 0 } : Room) s m ([.ref h, .int (zI mo), .int (zI fl), .int (zI fr), .int (zI pl)] : List Value).toArray below meth c H locs 0 0 (MQ below (zQv D [(cB, .byte), (cT, .int)] [(h, .inr (3, [.ref hb, .int (zI n), .int (zI P), .ref ht, .int (zI len)])), (hb, .inl (cB, 1200, .inl (zA r))), (ht, .inl (cT, 420, .inl (zA tx)))] s.heap.size (fun (u : (Nat → Int) × Int) => tRep u.1 u.2 (padT T fr mo (1 - pl) fl) ∧ u.2 = len + mo) (fun (u : (Nat → Int) × Int) => [(h, .inr (3, [.ref hb, .int (zI n), .int (zI P), .ref ht, .int (zI u.2)])), (hb, .inl (cB, 1200, .inl (zA r))), (ht, .inl (cT, 420, .inl (zA u.1)))])) ([.ref h, .int (zI mo), .int (zI fl), .int (zI fr), .int (zI pl)] : List Value).toArray s 0 0 (va_A [(h, .inr (3, [.ref hb, .int (zI n), .int (zI P), .ref ht, .int (zI len)])), (hb, .inl (cB, 1200, .inl (zA r))), (ht, .inl (cT, 420, .inl (zA tx)))] s.heap.size)) (F0 m 101 ls []) := by
    intro nf_
    induction nf_ with
    | zero => intro t2 ze at1 fi k hmeas_; exact absurd hmeas_ (Nat.not_lt_zero _)
    | succ nf_ ih =>
      intro t2 ze at1 fi k hmeas_ hat hfi hk e1 e2 e3 H locs ls w hl
      have hl0 := hT.1
      refine lv_iload S.1 S.2.1 dX3_fill_101 (lv_at hl 4 rfl) ?_
      refine lv_iload_n S.1 S.2.1 dX3_fill_103 rfl (lv_at hl 1 rfl) ?_
      refine z_icmp_ge (tgt := 135) S dX3_fill_104 (by decide) (by omega) (by omega) (fun h104 => ?_) (fun h104 => ?_)
      · skip
        refine lv_aload_n S.1 S.2.1 dX3_fill_135 rfl (lv_at hl 0 rfl) ?_
        refine lv_aload_n S.1 S.2.1 dX3_fill_136 rfl (lv_at hl 0 rfl) ?_
        refine z_get (ci := 3) (C := RX3) (T := TX3) (N := 5) S w 0 rfl rfl in_X3_fill_X3 4 (by decide) ln_X3_fill_43 rfl rfl dX3_fill_137 ?_
        refine lv_iload_n S.1 S.2.1 dX3_fill_140 rfl (lv_at hl 1 rfl) ?_
        refine z_iadd S dX3_fill_141 ?_
        refine z_put (ci := 3) (C := RX3) (T := TX3) (N := 5) S w 0 rfl rfl in_X3_fill_X3 tyX3_ok nmX3 4 (by decide) ln_X3_fill_43 rfl rfl rfl rfl (Nat.le_of_ble_eq_true rfl) dX3_fill_142 (fun H locs w => ?_)
        have w : zW D _ _ s [(h, .inr (3, [.ref hb, .int (zI n), .int (zI P), .ref ht, .int (zI (len + mo))])), (hb, .inl (cB, 1200, .inl (zA r))), (ht, .inl (cT, 420, .inl (zA t2)))] H locs := w
        have k1_ : tRep t2 (len + mo) (padT T fr mo (1 - pl) fl) ∧ (len + mo) = len + mo := by
          refine ⟨?_, rfl⟩
          have q0 := tRep_ins (C' := t2) (pl := at1) (am := mo) (x := fi) hT (by omega) (by omega) (by
            intro j q
            by_cases q1 : (j : Int) < at1
            · rw [if_pos q1]; exact e1 j q1
            · rw [if_neg q1]
              by_cases q2 : (j : Int) < at1 + mo
              · rw [if_pos q2]; exact e2 j (by omega) (by omega)
              · rw [if_neg q2]
                have q3 := e3 (j - mo.toNat) (by omega) (by omega)
                have q4 : j - mo.toNat + mo.toNat = j := by omega
                rw [q4] at q3; exact q3)
          unfold padT
          rw [if_neg (by omega)]
          rcases hat with ⟨c1, c2, c3⟩ | ⟨c1, c2, c3, c4, c5⟩ | ⟨c1, c2, c3, c4⟩
          · have f1 : fi = 32 := by omega
            have f2 : at1.toNat = T.length := by omega
            rw [f1, f2, List.take_length, List.drop_length, List.append_nil] at q0
            rw [if_pos c1]; exact q0
          · have f1 : fi = 48 := by omega
            rw [f1, c5] at q0
            rw [if_neg c1, if_pos ⟨c3, by omega⟩]; exact q0
          · have f1 : fi = 32 := by omega
            rw [f1, c4] at q0
            rw [if_neg c1, if_neg (by omega)]; exact q0
        exact z_vret S hr hlk w (t2, len + mo) k1_ rfl dX3_fill_145
      · skip
        refine lv_aload_n S.1 S.2.1 dX3_fill_107 rfl (lv_at hl 0 rfl) ?_
        refine z_get (ci := 3) (C := RX3) (T := TX3) (N := 5) S w 0 rfl rfl in_X3_fill_X3 3 (by decide) ln_X3_fill_13 rfl rfl dX3_fill_108 ?_
        refine lv_iload S.1 S.2.1 dX3_fill_111 (lv_at hl 3 rfl) ?_
        refine lv_iload S.1 S.2.1 dX3_fill_113 (lv_at hl 4 rfl) ?_
        refine z_iadd S dX3_fill_115 ?_
        refine lv_iload S.1 S.2.1 dX3_fill_116 (lv_at hl 2 rfl) ?_
        refine z_if_eq (tgt := 126) S dX3_fill_118 (by decide) (by omega) (fun h118 => ?_) (fun h118 => ?_)
        · skip
          refine z_bipush S dX3_fill_126 (by decide +kernel) ?_
          refine z_iast S w 2 1 rfl rfl (by omega) (by decide) dX3_fill_128 (fun H locs w => ?_)
          have w : zW D _ _ s [(h, .inr (3, [.ref hb, .int (zI n), .int (zI P), .ref ht, .int (zI len)])), (hb, .inl (cB, 1200, .inl (zA r))), (ht, .inl (cT, 420, .inl (zA (zu t2 (at1 + k).toNat 32))))] H locs := w
          refine lv_iinc (v := zI (k + 1)) (lv' := [(8, .int (zI (k + 1))), (0, .ref h), (1, .int (zI mo)), (6, .int (zI ze)), (7, .int (zI at1))]) S.1 S.2.1 dX3_fill_129 hl (k := 4) rfl (zI_add k 1) (by decide) rfl (fun ls hl => ?_)
          refine lv_goto (tgt := 101) S.1 S.2.1 dX3_fill_132 (by decide) ?_
          have k2_ : ∀ j : Nat, at1 ≤ (j : Int) → (j : Int) < at1 + (k + 1) → (zu t2 (at1 + k).toNat 32) j = fi := by
            intro j q1 q2
            by_cases q3 : (j : Int) = at1 + k
            · have q4 : (at1 + k).toNat = j := by omega
              rw [q4, zu_s]; omega
            · rw [zu_n _ _ (by omega)]; exact e2 j q1 (by omega)
          exact ih (zu t2 (at1 + k).toNat 32) ze at1 fi (k + 1) (by omega) hat hfi (by omega) (fun j q => by rw [zu_n _ _ (by omega)]; exact e1 j q) k2_ (fun j q1 q2 => by rw [zu_n _ _ (by omega)]; exact e3 j q1 q2) _ _ _ w (lv_sub hl [1, 2, 3, 4, 0] rfl)
        · skip
          refine z_bipush S dX3_fill_121 (by decide +kernel) ?_
          refine lv_goto (tgt := 128) S.1 S.2.1 dX3_fill_123 (by decide) ?_
          refine z_iast S w 2 1 rfl rfl (by omega) (by decide) dX3_fill_128 (fun H locs w => ?_)
          have w : zW D _ _ s [(h, .inr (3, [.ref hb, .int (zI n), .int (zI P), .ref ht, .int (zI len)])), (hb, .inl (cB, 1200, .inl (zA r))), (ht, .inl (cT, 420, .inl (zA (zu t2 (at1 + k).toNat 48))))] H locs := w
          refine lv_iinc (v := zI (k + 1)) (lv' := [(8, .int (zI (k + 1))), (0, .ref h), (1, .int (zI mo)), (6, .int (zI ze)), (7, .int (zI at1))]) S.1 S.2.1 dX3_fill_129 hl (k := 4) rfl (zI_add k 1) (by decide) rfl (fun ls hl => ?_)
          refine lv_goto (tgt := 101) S.1 S.2.1 dX3_fill_132 (by decide) ?_
          have k3_ : ∀ j : Nat, at1 ≤ (j : Int) → (j : Int) < at1 + (k + 1) → (zu t2 (at1 + k).toNat 48) j = fi := by
            intro j q1 q2
            by_cases q3 : (j : Int) = at1 + k
            · have q4 : (at1 + k).toNat = j := by omega
              rw [q4, zu_s]; omega
            · rw [zu_n _ _ (by omega)]; exact e2 j q1 (by omega)
          exact ih (zu t2 (at1 + k).toNat 48) ze at1 fi (k + 1) (by omega) hat hfi (by omega) (fun j q => by rw [zu_n _ _ (by omega)]; exact e1 j q) k3_ (fun j q1 q2 => by rw [zu_n _ _ (by omega)]; exact e3 j q1 q2) _ _ _ w (lv_sub hl [1, 2, 3, 4, 0] rfl)
  have lab69 : ∀ (nf_ : Nat) (t1 : Nat → Int) (ze : Int) (at1 : Int) (k : Int), (k + 1).toNat < nf_ → ((fl % 2 = 1 ∧ ze = 0 ∧ at1 = len) ∨ (fl % 2 ≠ 1 ∧ ze = 1 ∧ fl / 8 % 2 = 1 ∧ pl = 0 ∧ at1 = fr) ∨ (fl % 2 ≠ 1 ∧ ze = 0 ∧ ¬ (fl / 8 % 2 = 1 ∧ pl = 0) ∧ at1 = 0)) → (at1 - 1 ≤ k ∧ k ≤ len - 1) → (∀ j : Nat, (j : Int) ≤ k → t1 j = tx j) → (∀ j : Nat, k < (j : Int) → (j : Int) < len → t1 (j + mo.toNat) = tx j) → ∀ (H : Heap) (locs : List Loc) (ls : Array Slot), zW D [(cB, .byte), (cT, .int)] (va_A [(h, .inr (3, [.ref hb, .int (zI n), .int (zI P), .ref ht, .int (zI len)])), (hb, .inl (cB, 1200, .inl (zA r))), (ht, .inl (cT, 420, .inl (zA tx)))] s.heap.size) s [(h, .inr (3, [.ref hb, .int (zI n), .int (zI P), .ref ht, .int (zI len)])), (hb, .inl (cB, 1200, .inl (zA r))), (ht, .inl (cT, 420, .inl (zA t1)))] H locs → lv_has ls 9 [(0, .ref h), (1, .int (zI mo)), (6, .int (zI ze)), (7, .int (zI at1)), (8, .int (zI k))] → W p l e ({ frames := 0, cells := 0, slots := 0, locals := 0 } : Room) s m ([.ref h, .int (zI mo), .int (zI fl), .int (zI fr), .int (zI pl)] : List Value).toArray below meth c H locs 0 0 (MQ below (zQv D [(cB, .byte), (cT, .int)] [(h, .inr (3, [.ref hb, .int (zI n), .int (zI P), .ref ht, .int (zI len)])), (hb, .inl (cB, 1200, .inl (zA r))), (ht, .inl (cT, 420, .inl (zA tx)))] s.heap.size (fun (u : (Nat → Int) × Int) => tRep u.1 u.2 (padT T fr mo (1 - pl) fl) ∧ u.2 = len + mo) (fun (u : (Nat → Int) × Int) => [(h, .inr (3, [.ref hb, .int (zI n), .int (zI P), .ref ht, .int (zI u.2)])), (hb, .inl (cB, 1200, .inl (zA r))), (ht, .inl (cT, 420, .inl (zA u.1)))])) ([.ref h, .int (zI mo), .int (zI fl), .int (zI fr), .int (zI pl)] : List Value).toArray s 0 0 (va_A [(h, .inr (3, [.ref hb, .int (zI n), .int (zI P), .ref ht, .int (zI len)])), (hb, .inl (cB, 1200, .inl (zA r))), (ht, .inl (cT, 420, .inl (zA tx)))] s.heap.size)) (F0 m 69 ls []) := by
    intro nf_
    induction nf_ with
    | zero => intro t1 ze at1 k hmeas_; exact absurd hmeas_ (Nat.not_lt_zero _)
    | succ nf_ ih =>
      intro t1 ze at1 k hmeas_ hat hk e1 e3 H locs ls w hl
      have hl0 := hT.1
      refine lv_iload S.1 S.2.1 dX3_fill_69 (lv_at hl 4 rfl) ?_
      refine lv_iload S.1 S.2.1 dX3_fill_71 (lv_at hl 3 rfl) ?_
      refine z_icmp_lt (tgt := 98) S dX3_fill_73 (by decide) (by omega) (by omega) (fun h73 => ?_) (fun h73 => ?_)
      · skip
        refine z_iconst S dX3_fill_98 ?_
        refine lv_istore (lv' := [(8, .int (zI 0)), (0, .ref h), (1, .int (zI mo)), (6, .int (zI ze)), (7, .int (zI at1))]) S.1 S.2.1 dX3_fill_99 hl (by decide) rfl (fun ls hl => ?_)
        have k4_ : ((ze = 1 ∧ (if ze = 1 then (48 : Int) else 32) = 48) ∨ (ze = 0 ∧ (if ze = 1 then (48 : Int) else 32) = 32)) := by
          by_cases q : ze = 1
          · rw [if_pos q]; omega
          · rw [if_neg q]; omega
        exact lab101 _ t1 ze at1 (if ze = 1 then (48 : Int) else 32) 0 (Nat.lt_succ_self _) hat k4_ (by omega) (fun j q => e1 j (by omega)) (fun j q1 q2 => by omega) (fun j q1 q2 => e3 j (by omega) q2) _ _ _ w (lv_sub hl [1, 2, 3, 4, 0] rfl)
      · skip
        refine lv_aload_n S.1 S.2.1 dX3_fill_76 rfl (lv_at hl 0 rfl) ?_
        refine z_get (ci := 3) (C := RX3) (T := TX3) (N := 5) S w 0 rfl rfl in_X3_fill_X3 3 (by decide) ln_X3_fill_13 rfl rfl dX3_fill_77 ?_
        refine lv_iload S.1 S.2.1 dX3_fill_80 (lv_at hl 4 rfl) ?_
        refine lv_iload_n S.1 S.2.1 dX3_fill_82 rfl (lv_at hl 1 rfl) ?_
        refine z_iadd S dX3_fill_83 ?_
        refine lv_aload_n S.1 S.2.1 dX3_fill_84 rfl (lv_at hl 0 rfl) ?_
        refine z_get (ci := 3) (C := RX3) (T := TX3) (N := 5) S w 0 rfl rfl in_X3_fill_X3 3 (by decide) ln_X3_fill_13 rfl rfl dX3_fill_85 ?_
        refine lv_iload S.1 S.2.1 dX3_fill_88 (lv_at hl 4 rfl) ?_
        refine z_iald S w 2 1 rfl rfl (by omega) (by decide) dX3_fill_90 ?_
        refine z_iast S w 2 1 rfl rfl (by omega) (by decide) dX3_fill_91 (fun H locs w => ?_)
        have w : zW D _ _ s [(h, .inr (3, [.ref hb, .int (zI n), .int (zI P), .ref ht, .int (zI len)])), (hb, .inl (cB, 1200, .inl (zA r))), (ht, .inl (cT, 420, .inl (zA (zu t1 (k + mo).toNat (t1 k.toNat)))))] H locs := w
        refine lv_iinc (v := zI (k + (-1))) (lv' := [(8, .int (zI (k + (-1)))), (0, .ref h), (1, .int (zI mo)), (6, .int (zI ze)), (7, .int (zI at1))]) S.1 S.2.1 dX3_fill_92 hl (k := 4) rfl (zI_add k (-1)) (by decide) rfl (fun ls hl => ?_)
        refine lv_goto (tgt := 69) S.1 S.2.1 dX3_fill_95 (by decide) ?_
        have k5_ : ∀ j : Nat, (k + (-1)) < (j : Int) → (j : Int) < len → (zu t1 (k + mo).toNat (t1 k.toNat)) (j + mo.toNat) = tx j := by
          intro j q1 q2
          by_cases q3 : (j : Int) = k
          · have q4 : j + mo.toNat = (k + mo).toNat := by omega
            have q5 : k.toNat = j := by omega
            rw [q4, zu_s, q5]; exact e1 j (by omega)
          · rw [zu_n _ _ (by omega)]; exact e3 j (by omega) q2
        exact ih (zu t1 (k + mo).toNat (t1 k.toNat)) ze at1 (k + (-1)) (by omega) hat (by omega) (fun j q => by rw [zu_n _ _ (by omega)]; exact e1 j (by omega)) k5_ _ _ _ w (lv_sub hl [1, 2, 3, 4, 0] rfl)
  have lab61 : ∀ (ze : Int) (at1 : Int), ((fl % 2 = 1 ∧ ze = 0 ∧ at1 = len) ∨ (fl % 2 ≠ 1 ∧ ze = 1 ∧ fl / 8 % 2 = 1 ∧ pl = 0 ∧ at1 = fr) ∨ (fl % 2 ≠ 1 ∧ ze = 0 ∧ ¬ (fl / 8 % 2 = 1 ∧ pl = 0) ∧ at1 = 0)) → ∀ (H : Heap) (locs : List Loc) (ls : Array Slot), zW D [(cB, .byte), (cT, .int)] (va_A [(h, .inr (3, [.ref hb, .int (zI n), .int (zI P), .ref ht, .int (zI len)])), (hb, .inl (cB, 1200, .inl (zA r))), (ht, .inl (cT, 420, .inl (zA tx)))] s.heap.size) s [(h, .inr (3, [.ref hb, .int (zI n), .int (zI P), .ref ht, .int (zI len)])), (hb, .inl (cB, 1200, .inl (zA r))), (ht, .inl (cT, 420, .inl (zA tx)))] H locs → lv_has ls 9 [(0, .ref h), (1, .int (zI mo)), (6, .int (zI ze)), (7, .int (zI at1))] → W p l e ({ frames := 0, cells := 0, slots := 0, locals := 0 } : Room) s m ([.ref h, .int (zI mo), .int (zI fl), .int (zI fr), .int (zI pl)] : List Value).toArray below meth c H locs 0 0 (MQ below (zQv D [(cB, .byte), (cT, .int)] [(h, .inr (3, [.ref hb, .int (zI n), .int (zI P), .ref ht, .int (zI len)])), (hb, .inl (cB, 1200, .inl (zA r))), (ht, .inl (cT, 420, .inl (zA tx)))] s.heap.size (fun (u : (Nat → Int) × Int) => tRep u.1 u.2 (padT T fr mo (1 - pl) fl) ∧ u.2 = len + mo) (fun (u : (Nat → Int) × Int) => [(h, .inr (3, [.ref hb, .int (zI n), .int (zI P), .ref ht, .int (zI u.2)])), (hb, .inl (cB, 1200, .inl (zA r))), (ht, .inl (cT, 420, .inl (zA u.1)))])) ([.ref h, .int (zI mo), .int (zI fl), .int (zI fr), .int (zI pl)] : List Value).toArray s 0 0 (va_A [(h, .inr (3, [.ref hb, .int (zI n), .int (zI P), .ref ht, .int (zI len)])), (hb, .inl (cB, 1200, .inl (zA r))), (ht, .inl (cT, 420, .inl (zA tx)))] s.heap.size)) (F0 m 61 ls []) := by
    intro ze at1 hat H locs ls w hl
    have hl0 := hT.1
    refine lv_aload_n S.1 S.2.1 dX3_fill_61 rfl (lv_at hl 0 rfl) ?_
    refine z_get (ci := 3) (C := RX3) (T := TX3) (N := 5) S w 0 rfl rfl in_X3_fill_X3 4 (by decide) ln_X3_fill_43 rfl rfl dX3_fill_62 ?_
    refine z_iconst S dX3_fill_65 ?_
    refine z_isub S dX3_fill_66 ?_
    refine lv_istore (lv' := [(8, .int (zI (len - 1))), (0, .ref h), (1, .int (zI mo)), (6, .int (zI ze)), (7, .int (zI at1))]) S.1 S.2.1 dX3_fill_67 hl (by decide) rfl (fun ls hl => ?_)
    exact lab69 _ tx ze at1 (len - 1) (Nat.lt_succ_self _) hat (by omega) (fun j q => rfl) (fun j q1 q2 => by omega) _ _ _ w (lv_sub hl [1, 2, 3, 4, 0] rfl)
  have hl : lv_has ls 9 [(0, .ref h), (1, .int (zI mo)), (2, .int (zI fl)), (3, .int (zI fr)), (4, .int (zI pl))] := hl
  have hl0 := hT.1
  refine lv_iload_n S.1 S.2.1 dX3_fill_0 rfl (lv_at hl 2 rfl) ?_
  refine z_iconst S dX3_fill_1 ?_
  refine z_iand S dX3_fill_2 (v := (1 * (fl / 1 % 2))) (zI_flag hfl (by decide)) ?_
  refine z_if_eq (tgt := 10) S dX3_fill_3 (by decide) (by omega) (fun h3 => ?_) (fun h3 => ?_)
  · skip
    refine z_iconst S dX3_fill_10 ?_
    refine lv_istore (lv' := [(5, .int (zI 0)), (0, .ref h), (1, .int (zI mo)), (2, .int (zI fl)), (3, .int (zI fr)), (4, .int (zI pl))]) S.1 S.2.1 dX3_fill_11 hl (by decide) rfl (fun ls hl => ?_)
    refine lv_iload S.1 S.2.1 dX3_fill_13 (lv_at hl 0 rfl) ?_
    refine z_if_ne (tgt := 34) S dX3_fill_15 (by decide) (by omega) (fun h15 => ?_) (fun h15 => ?_)
    · skip
      refine z_iconst S dX3_fill_34 ?_
      refine lv_istore (lv' := [(6, .int (zI 0)), (5, .int (zI 0)), (0, .ref h), (1, .int (zI mo)), (2, .int (zI fl)), (3, .int (zI fr)), (4, .int (zI pl))]) S.1 S.2.1 dX3_fill_35 hl (by decide) rfl (fun ls hl => ?_)
      refine lv_iload S.1 S.2.1 dX3_fill_37 (lv_at hl 1 rfl) ?_
      refine z_if_eq (tgt := 49) S dX3_fill_39 (by decide) (by omega) (fun h39 => ?_) (fun h39 => ?_)
      · skip
        refine lv_iload S.1 S.2.1 dX3_fill_49 (lv_at hl 0 rfl) ?_
        refine z_if_eq (tgt := 58) S dX3_fill_51 (by decide) (by omega) (fun h51 => ?_) (fun h51 => ?_)
        · skip
          refine z_iconst S dX3_fill_58 ?_
          refine lv_istore (lv' := [(7, .int (zI 0)), (6, .int (zI 0)), (5, .int (zI 0)), (0, .ref h), (1, .int (zI mo)), (2, .int (zI fl)), (3, .int (zI fr)), (4, .int (zI pl))]) S.1 S.2.1 dX3_fill_59 hl (by decide) rfl (fun ls hl => ?_)
          exact lab61 0 0 (by omega) _ _ _ w (lv_sub hl [3, 4, 1, 0] rfl)
        · skip
          refine lv_iload_n S.1 S.2.1 dX3_fill_54 rfl (lv_at hl 5 rfl) ?_
          refine lv_goto (tgt := 59) S.1 S.2.1 dX3_fill_55 (by decide) ?_
          refine lv_istore (lv' := [(7, .int (zI fr)), (6, .int (zI 0)), (5, .int (zI 0)), (0, .ref h), (1, .int (zI mo)), (2, .int (zI fl)), (3, .int (zI fr)), (4, .int (zI pl))]) S.1 S.2.1 dX3_fill_59 hl (by decide) rfl (fun ls hl => ?_)
          exact lab61 0 fr (by omega) _ _ _ w (lv_sub hl [3, 4, 1, 0] rfl)
      · skip
        refine lv_aload_n S.1 S.2.1 dX3_fill_42 rfl (lv_at hl 2 rfl) ?_
        refine z_get (ci := 3) (C := RX3) (T := TX3) (N := 5) S w 0 rfl rfl in_X3_fill_X3 4 (by decide) ln_X3_fill_43 rfl rfl dX3_fill_43 ?_
        refine lv_goto (tgt := 59) S.1 S.2.1 dX3_fill_46 (by decide) ?_
        refine lv_istore (lv' := [(7, .int (zI len)), (6, .int (zI 0)), (5, .int (zI 0)), (0, .ref h), (1, .int (zI mo)), (2, .int (zI fl)), (3, .int (zI fr)), (4, .int (zI pl))]) S.1 S.2.1 dX3_fill_59 hl (by decide) rfl (fun ls hl => ?_)
        exact lab61 0 len (by omega) _ _ _ w (lv_sub hl [3, 4, 1, 0] rfl)
    · skip
      refine lv_iload_n S.1 S.2.1 dX3_fill_18 rfl (lv_at hl 3 rfl) ?_
      refine z_bipush S dX3_fill_19 (by decide +kernel) ?_
      refine z_iand S dX3_fill_21 (v := (8 * (fl / 8 % 2))) (zI_flag hfl (by decide)) ?_
      refine z_if_eq (tgt := 34) S dX3_fill_22 (by decide) (by omega) (fun h22 => ?_) (fun h22 => ?_)
      · skip
        refine z_iconst S dX3_fill_34 ?_
        refine lv_istore (lv' := [(6, .int (zI 0)), (5, .int (zI 0)), (0, .ref h), (1, .int (zI mo)), (2, .int (zI fl)), (3, .int (zI fr)), (4, .int (zI pl))]) S.1 S.2.1 dX3_fill_35 hl (by decide) rfl (fun ls hl => ?_)
        refine lv_iload S.1 S.2.1 dX3_fill_37 (lv_at hl 1 rfl) ?_
        refine z_if_eq (tgt := 49) S dX3_fill_39 (by decide) (by omega) (fun h39 => ?_) (fun h39 => ?_)
        · skip
          refine lv_iload S.1 S.2.1 dX3_fill_49 (lv_at hl 0 rfl) ?_
          refine z_if_eq (tgt := 58) S dX3_fill_51 (by decide) (by omega) (fun h51 => ?_) (fun h51 => ?_)
          · skip
            refine z_iconst S dX3_fill_58 ?_
            refine lv_istore (lv' := [(7, .int (zI 0)), (6, .int (zI 0)), (5, .int (zI 0)), (0, .ref h), (1, .int (zI mo)), (2, .int (zI fl)), (3, .int (zI fr)), (4, .int (zI pl))]) S.1 S.2.1 dX3_fill_59 hl (by decide) rfl (fun ls hl => ?_)
            exact lab61 0 0 (by omega) _ _ _ w (lv_sub hl [3, 4, 1, 0] rfl)
          · skip
            refine lv_iload_n S.1 S.2.1 dX3_fill_54 rfl (lv_at hl 5 rfl) ?_
            refine lv_goto (tgt := 59) S.1 S.2.1 dX3_fill_55 (by decide) ?_
            refine lv_istore (lv' := [(7, .int (zI fr)), (6, .int (zI 0)), (5, .int (zI 0)), (0, .ref h), (1, .int (zI mo)), (2, .int (zI fl)), (3, .int (zI fr)), (4, .int (zI pl))]) S.1 S.2.1 dX3_fill_59 hl (by decide) rfl (fun ls hl => ?_)
            exact lab61 0 fr (by omega) _ _ _ w (lv_sub hl [3, 4, 1, 0] rfl)
        · skip
          refine lv_aload_n S.1 S.2.1 dX3_fill_42 rfl (lv_at hl 2 rfl) ?_
          refine z_get (ci := 3) (C := RX3) (T := TX3) (N := 5) S w 0 rfl rfl in_X3_fill_X3 4 (by decide) ln_X3_fill_43 rfl rfl dX3_fill_43 ?_
          refine lv_goto (tgt := 59) S.1 S.2.1 dX3_fill_46 (by decide) ?_
          refine lv_istore (lv' := [(7, .int (zI len)), (6, .int (zI 0)), (5, .int (zI 0)), (0, .ref h), (1, .int (zI mo)), (2, .int (zI fl)), (3, .int (zI fr)), (4, .int (zI pl))]) S.1 S.2.1 dX3_fill_59 hl (by decide) rfl (fun ls hl => ?_)
          exact lab61 0 len (by omega) _ _ _ w (lv_sub hl [3, 4, 1, 0] rfl)
      · skip
        refine lv_iload S.1 S.2.1 dX3_fill_25 (lv_at hl 5 rfl) ?_
        refine z_if_ne (tgt := 34) S dX3_fill_27 (by decide) (by omega) (fun h27 => ?_) (fun h27 => ?_)
        · skip
          refine z_iconst S dX3_fill_34 ?_
          refine lv_istore (lv' := [(6, .int (zI 0)), (5, .int (zI 0)), (0, .ref h), (1, .int (zI mo)), (2, .int (zI fl)), (3, .int (zI fr)), (4, .int (zI pl))]) S.1 S.2.1 dX3_fill_35 hl (by decide) rfl (fun ls hl => ?_)
          refine lv_iload S.1 S.2.1 dX3_fill_37 (lv_at hl 1 rfl) ?_
          refine z_if_eq (tgt := 49) S dX3_fill_39 (by decide) (by omega) (fun h39 => ?_) (fun h39 => ?_)
          · skip
            refine lv_iload S.1 S.2.1 dX3_fill_49 (lv_at hl 0 rfl) ?_
            refine z_if_eq (tgt := 58) S dX3_fill_51 (by decide) (by omega) (fun h51 => ?_) (fun h51 => ?_)
            · skip
              refine z_iconst S dX3_fill_58 ?_
              refine lv_istore (lv' := [(7, .int (zI 0)), (6, .int (zI 0)), (5, .int (zI 0)), (0, .ref h), (1, .int (zI mo)), (2, .int (zI fl)), (3, .int (zI fr)), (4, .int (zI pl))]) S.1 S.2.1 dX3_fill_59 hl (by decide) rfl (fun ls hl => ?_)
              exact lab61 0 0 (by omega) _ _ _ w (lv_sub hl [3, 4, 1, 0] rfl)
            · skip
              refine lv_iload_n S.1 S.2.1 dX3_fill_54 rfl (lv_at hl 5 rfl) ?_
              refine lv_goto (tgt := 59) S.1 S.2.1 dX3_fill_55 (by decide) ?_
              refine lv_istore (lv' := [(7, .int (zI fr)), (6, .int (zI 0)), (5, .int (zI 0)), (0, .ref h), (1, .int (zI mo)), (2, .int (zI fl)), (3, .int (zI fr)), (4, .int (zI pl))]) S.1 S.2.1 dX3_fill_59 hl (by decide) rfl (fun ls hl => ?_)
              exact lab61 0 fr (by omega) _ _ _ w (lv_sub hl [3, 4, 1, 0] rfl)
          · skip
            refine lv_aload_n S.1 S.2.1 dX3_fill_42 rfl (lv_at hl 2 rfl) ?_
            refine z_get (ci := 3) (C := RX3) (T := TX3) (N := 5) S w 0 rfl rfl in_X3_fill_X3 4 (by decide) ln_X3_fill_43 rfl rfl dX3_fill_43 ?_
            refine lv_goto (tgt := 59) S.1 S.2.1 dX3_fill_46 (by decide) ?_
            refine lv_istore (lv' := [(7, .int (zI len)), (6, .int (zI 0)), (5, .int (zI 0)), (0, .ref h), (1, .int (zI mo)), (2, .int (zI fl)), (3, .int (zI fr)), (4, .int (zI pl))]) S.1 S.2.1 dX3_fill_59 hl (by decide) rfl (fun ls hl => ?_)
            exact lab61 0 len (by omega) _ _ _ w (lv_sub hl [3, 4, 1, 0] rfl)
        · skip
          refine z_iconst S dX3_fill_30 ?_
          refine lv_goto (tgt := 35) S.1 S.2.1 dX3_fill_31 (by decide) ?_
          refine lv_istore (lv' := [(6, .int (zI 1)), (5, .int (zI 0)), (0, .ref h), (1, .int (zI mo)), (2, .int (zI fl)), (3, .int (zI fr)), (4, .int (zI pl))]) S.1 S.2.1 dX3_fill_35 hl (by decide) rfl (fun ls hl => ?_)
          refine lv_iload S.1 S.2.1 dX3_fill_37 (lv_at hl 1 rfl) ?_
          refine z_if_eq (tgt := 49) S dX3_fill_39 (by decide) (by omega) (fun h39 => ?_) (fun h39 => ?_)
          · skip
            refine lv_iload S.1 S.2.1 dX3_fill_49 (lv_at hl 0 rfl) ?_
            refine z_if_eq (tgt := 58) S dX3_fill_51 (by decide) (by omega) (fun h51 => ?_) (fun h51 => ?_)
            · skip
              refine z_iconst S dX3_fill_58 ?_
              refine lv_istore (lv' := [(7, .int (zI 0)), (6, .int (zI 1)), (5, .int (zI 0)), (0, .ref h), (1, .int (zI mo)), (2, .int (zI fl)), (3, .int (zI fr)), (4, .int (zI pl))]) S.1 S.2.1 dX3_fill_59 hl (by decide) rfl (fun ls hl => ?_)
              exact lab61 1 0 (by omega) _ _ _ w (lv_sub hl [3, 4, 1, 0] rfl)
            · skip
              refine lv_iload_n S.1 S.2.1 dX3_fill_54 rfl (lv_at hl 5 rfl) ?_
              refine lv_goto (tgt := 59) S.1 S.2.1 dX3_fill_55 (by decide) ?_
              refine lv_istore (lv' := [(7, .int (zI fr)), (6, .int (zI 1)), (5, .int (zI 0)), (0, .ref h), (1, .int (zI mo)), (2, .int (zI fl)), (3, .int (zI fr)), (4, .int (zI pl))]) S.1 S.2.1 dX3_fill_59 hl (by decide) rfl (fun ls hl => ?_)
              exact lab61 1 fr (by omega) _ _ _ w (lv_sub hl [3, 4, 1, 0] rfl)
          · skip
            refine lv_aload_n S.1 S.2.1 dX3_fill_42 rfl (lv_at hl 2 rfl) ?_
            refine z_get (ci := 3) (C := RX3) (T := TX3) (N := 5) S w 0 rfl rfl in_X3_fill_X3 4 (by decide) ln_X3_fill_43 rfl rfl dX3_fill_43 ?_
            refine lv_goto (tgt := 59) S.1 S.2.1 dX3_fill_46 (by decide) ?_
            refine lv_istore (lv' := [(7, .int (zI len)), (6, .int (zI 1)), (5, .int (zI 0)), (0, .ref h), (1, .int (zI mo)), (2, .int (zI fl)), (3, .int (zI fr)), (4, .int (zI pl))]) S.1 S.2.1 dX3_fill_59 hl (by decide) rfl (fun ls hl => ?_)
            exact lab61 1 len (by omega) _ _ _ w (lv_sub hl [3, 4, 1, 0] rfl)
  · skip
    refine z_iconst S dX3_fill_6 ?_
    refine lv_goto (tgt := 11) S.1 S.2.1 dX3_fill_7 (by decide) ?_
    refine lv_istore (lv' := [(5, .int (zI 1)), (0, .ref h), (1, .int (zI mo)), (2, .int (zI fl)), (3, .int (zI fr)), (4, .int (zI pl))]) S.1 S.2.1 dX3_fill_11 hl (by decide) rfl (fun ls hl => ?_)
    refine lv_iload S.1 S.2.1 dX3_fill_13 (lv_at hl 0 rfl) ?_
    refine z_if_ne (tgt := 34) S dX3_fill_15 (by decide) (by omega) (fun h15 => ?_) (fun h15 => ?_)
    · skip
      refine z_iconst S dX3_fill_34 ?_
      refine lv_istore (lv' := [(6, .int (zI 0)), (5, .int (zI 1)), (0, .ref h), (1, .int (zI mo)), (2, .int (zI fl)), (3, .int (zI fr)), (4, .int (zI pl))]) S.1 S.2.1 dX3_fill_35 hl (by decide) rfl (fun ls hl => ?_)
      refine lv_iload S.1 S.2.1 dX3_fill_37 (lv_at hl 1 rfl) ?_
      refine z_if_eq (tgt := 49) S dX3_fill_39 (by decide) (by omega) (fun h39 => ?_) (fun h39 => ?_)
      · skip
        refine lv_iload S.1 S.2.1 dX3_fill_49 (lv_at hl 0 rfl) ?_
        refine z_if_eq (tgt := 58) S dX3_fill_51 (by decide) (by omega) (fun h51 => ?_) (fun h51 => ?_)
        · skip
          refine z_iconst S dX3_fill_58 ?_
          refine lv_istore (lv' := [(7, .int (zI 0)), (6, .int (zI 0)), (5, .int (zI 1)), (0, .ref h), (1, .int (zI mo)), (2, .int (zI fl)), (3, .int (zI fr)), (4, .int (zI pl))]) S.1 S.2.1 dX3_fill_59 hl (by decide) rfl (fun ls hl => ?_)
          exact lab61 0 0 (by omega) _ _ _ w (lv_sub hl [3, 4, 1, 0] rfl)
        · skip
          refine lv_iload_n S.1 S.2.1 dX3_fill_54 rfl (lv_at hl 5 rfl) ?_
          refine lv_goto (tgt := 59) S.1 S.2.1 dX3_fill_55 (by decide) ?_
          refine lv_istore (lv' := [(7, .int (zI fr)), (6, .int (zI 0)), (5, .int (zI 1)), (0, .ref h), (1, .int (zI mo)), (2, .int (zI fl)), (3, .int (zI fr)), (4, .int (zI pl))]) S.1 S.2.1 dX3_fill_59 hl (by decide) rfl (fun ls hl => ?_)
          exact lab61 0 fr (by omega) _ _ _ w (lv_sub hl [3, 4, 1, 0] rfl)
      · skip
        refine lv_aload_n S.1 S.2.1 dX3_fill_42 rfl (lv_at hl 2 rfl) ?_
        refine z_get (ci := 3) (C := RX3) (T := TX3) (N := 5) S w 0 rfl rfl in_X3_fill_X3 4 (by decide) ln_X3_fill_43 rfl rfl dX3_fill_43 ?_
        refine lv_goto (tgt := 59) S.1 S.2.1 dX3_fill_46 (by decide) ?_
        refine lv_istore (lv' := [(7, .int (zI len)), (6, .int (zI 0)), (5, .int (zI 1)), (0, .ref h), (1, .int (zI mo)), (2, .int (zI fl)), (3, .int (zI fr)), (4, .int (zI pl))]) S.1 S.2.1 dX3_fill_59 hl (by decide) rfl (fun ls hl => ?_)
        exact lab61 0 len (by omega) _ _ _ w (lv_sub hl [3, 4, 1, 0] rfl)
    · skip
      refine lv_iload_n S.1 S.2.1 dX3_fill_18 rfl (lv_at hl 3 rfl) ?_
      refine z_bipush S dX3_fill_19 (by decide +kernel) ?_
      refine z_iand S dX3_fill_21 (v := (8 * (fl / 8 % 2))) (zI_flag hfl (by decide)) ?_
      refine z_if_eq (tgt := 34) S dX3_fill_22 (by decide) (by omega) (fun h22 => ?_) (fun h22 => ?_)
      · skip
        refine z_iconst S dX3_fill_34 ?_
        refine lv_istore (lv' := [(6, .int (zI 0)), (5, .int (zI 1)), (0, .ref h), (1, .int (zI mo)), (2, .int (zI fl)), (3, .int (zI fr)), (4, .int (zI pl))]) S.1 S.2.1 dX3_fill_35 hl (by decide) rfl (fun ls hl => ?_)
        refine lv_iload S.1 S.2.1 dX3_fill_37 (lv_at hl 1 rfl) ?_
        refine z_if_eq (tgt := 49) S dX3_fill_39 (by decide) (by omega) (fun h39 => ?_) (fun h39 => ?_)
        · skip
          refine lv_iload S.1 S.2.1 dX3_fill_49 (lv_at hl 0 rfl) ?_
          refine z_if_eq (tgt := 58) S dX3_fill_51 (by decide) (by omega) (fun h51 => ?_) (fun h51 => ?_)
          · skip
            refine z_iconst S dX3_fill_58 ?_
            refine lv_istore (lv' := [(7, .int (zI 0)), (6, .int (zI 0)), (5, .int (zI 1)), (0, .ref h), (1, .int (zI mo)), (2, .int (zI fl)), (3, .int (zI fr)), (4, .int (zI pl))]) S.1 S.2.1 dX3_fill_59 hl (by decide) rfl (fun ls hl => ?_)
            exact lab61 0 0 (by omega) _ _ _ w (lv_sub hl [3, 4, 1, 0] rfl)
          · skip
            refine lv_iload_n S.1 S.2.1 dX3_fill_54 rfl (lv_at hl 5 rfl) ?_
            refine lv_goto (tgt := 59) S.1 S.2.1 dX3_fill_55 (by decide) ?_
            refine lv_istore (lv' := [(7, .int (zI fr)), (6, .int (zI 0)), (5, .int (zI 1)), (0, .ref h), (1, .int (zI mo)), (2, .int (zI fl)), (3, .int (zI fr)), (4, .int (zI pl))]) S.1 S.2.1 dX3_fill_59 hl (by decide) rfl (fun ls hl => ?_)
            exact lab61 0 fr (by omega) _ _ _ w (lv_sub hl [3, 4, 1, 0] rfl)
        · skip
          refine lv_aload_n S.1 S.2.1 dX3_fill_42 rfl (lv_at hl 2 rfl) ?_
          refine z_get (ci := 3) (C := RX3) (T := TX3) (N := 5) S w 0 rfl rfl in_X3_fill_X3 4 (by decide) ln_X3_fill_43 rfl rfl dX3_fill_43 ?_
          refine lv_goto (tgt := 59) S.1 S.2.1 dX3_fill_46 (by decide) ?_
          refine lv_istore (lv' := [(7, .int (zI len)), (6, .int (zI 0)), (5, .int (zI 1)), (0, .ref h), (1, .int (zI mo)), (2, .int (zI fl)), (3, .int (zI fr)), (4, .int (zI pl))]) S.1 S.2.1 dX3_fill_59 hl (by decide) rfl (fun ls hl => ?_)
          exact lab61 0 len (by omega) _ _ _ w (lv_sub hl [3, 4, 1, 0] rfl)
      · skip
        refine lv_iload S.1 S.2.1 dX3_fill_25 (lv_at hl 5 rfl) ?_
        refine z_if_ne (tgt := 34) S dX3_fill_27 (by decide) (by omega) (fun h27 => ?_) (fun h27 => ?_)
        · skip
          refine z_iconst S dX3_fill_34 ?_
          refine lv_istore (lv' := [(6, .int (zI 0)), (5, .int (zI 1)), (0, .ref h), (1, .int (zI mo)), (2, .int (zI fl)), (3, .int (zI fr)), (4, .int (zI pl))]) S.1 S.2.1 dX3_fill_35 hl (by decide) rfl (fun ls hl => ?_)
          refine lv_iload S.1 S.2.1 dX3_fill_37 (lv_at hl 1 rfl) ?_
          refine z_if_eq (tgt := 49) S dX3_fill_39 (by decide) (by omega) (fun h39 => ?_) (fun h39 => ?_)
          · skip
            refine lv_iload S.1 S.2.1 dX3_fill_49 (lv_at hl 0 rfl) ?_
            refine z_if_eq (tgt := 58) S dX3_fill_51 (by decide) (by omega) (fun h51 => ?_) (fun h51 => ?_)
            · skip
              refine z_iconst S dX3_fill_58 ?_
              refine lv_istore (lv' := [(7, .int (zI 0)), (6, .int (zI 0)), (5, .int (zI 1)), (0, .ref h), (1, .int (zI mo)), (2, .int (zI fl)), (3, .int (zI fr)), (4, .int (zI pl))]) S.1 S.2.1 dX3_fill_59 hl (by decide) rfl (fun ls hl => ?_)
              exact lab61 0 0 (by omega) _ _ _ w (lv_sub hl [3, 4, 1, 0] rfl)
            · skip
              refine lv_iload_n S.1 S.2.1 dX3_fill_54 rfl (lv_at hl 5 rfl) ?_
              refine lv_goto (tgt := 59) S.1 S.2.1 dX3_fill_55 (by decide) ?_
              refine lv_istore (lv' := [(7, .int (zI fr)), (6, .int (zI 0)), (5, .int (zI 1)), (0, .ref h), (1, .int (zI mo)), (2, .int (zI fl)), (3, .int (zI fr)), (4, .int (zI pl))]) S.1 S.2.1 dX3_fill_59 hl (by decide) rfl (fun ls hl => ?_)
              exact lab61 0 fr (by omega) _ _ _ w (lv_sub hl [3, 4, 1, 0] rfl)
          · skip
            refine lv_aload_n S.1 S.2.1 dX3_fill_42 rfl (lv_at hl 2 rfl) ?_
            refine z_get (ci := 3) (C := RX3) (T := TX3) (N := 5) S w 0 rfl rfl in_X3_fill_X3 4 (by decide) ln_X3_fill_43 rfl rfl dX3_fill_43 ?_
            refine lv_goto (tgt := 59) S.1 S.2.1 dX3_fill_46 (by decide) ?_
            refine lv_istore (lv' := [(7, .int (zI len)), (6, .int (zI 0)), (5, .int (zI 1)), (0, .ref h), (1, .int (zI mo)), (2, .int (zI fl)), (3, .int (zI fr)), (4, .int (zI pl))]) S.1 S.2.1 dX3_fill_59 hl (by decide) rfl (fun ls hl => ?_)
            exact lab61 0 len (by omega) _ _ _ w (lv_sub hl [3, 4, 1, 0] rfl)
        · skip
          refine z_iconst S dX3_fill_30 ?_
          refine lv_goto (tgt := 35) S.1 S.2.1 dX3_fill_31 (by decide) ?_
          refine lv_istore (lv' := [(6, .int (zI 1)), (5, .int (zI 1)), (0, .ref h), (1, .int (zI mo)), (2, .int (zI fl)), (3, .int (zI fr)), (4, .int (zI pl))]) S.1 S.2.1 dX3_fill_35 hl (by decide) rfl (fun ls hl => ?_)
          refine lv_iload S.1 S.2.1 dX3_fill_37 (lv_at hl 1 rfl) ?_
          refine z_if_eq (tgt := 49) S dX3_fill_39 (by decide) (by omega) (fun h39 => ?_) (fun h39 => ?_)
          · skip
            refine lv_iload S.1 S.2.1 dX3_fill_49 (lv_at hl 0 rfl) ?_
            refine z_if_eq (tgt := 58) S dX3_fill_51 (by decide) (by omega) (fun h51 => ?_) (fun h51 => ?_)
            · skip
              refine z_iconst S dX3_fill_58 ?_
              refine lv_istore (lv' := [(7, .int (zI 0)), (6, .int (zI 1)), (5, .int (zI 1)), (0, .ref h), (1, .int (zI mo)), (2, .int (zI fl)), (3, .int (zI fr)), (4, .int (zI pl))]) S.1 S.2.1 dX3_fill_59 hl (by decide) rfl (fun ls hl => ?_)
              exact lab61 1 0 (by omega) _ _ _ w (lv_sub hl [3, 4, 1, 0] rfl)
            · skip
              refine lv_iload_n S.1 S.2.1 dX3_fill_54 rfl (lv_at hl 5 rfl) ?_
              refine lv_goto (tgt := 59) S.1 S.2.1 dX3_fill_55 (by decide) ?_
              refine lv_istore (lv' := [(7, .int (zI fr)), (6, .int (zI 1)), (5, .int (zI 1)), (0, .ref h), (1, .int (zI mo)), (2, .int (zI fl)), (3, .int (zI fr)), (4, .int (zI pl))]) S.1 S.2.1 dX3_fill_59 hl (by decide) rfl (fun ls hl => ?_)
              exact lab61 1 fr (by omega) _ _ _ w (lv_sub hl [3, 4, 1, 0] rfl)
          · skip
            refine lv_aload_n S.1 S.2.1 dX3_fill_42 rfl (lv_at hl 2 rfl) ?_
            refine z_get (ci := 3) (C := RX3) (T := TX3) (N := 5) S w 0 rfl rfl in_X3_fill_X3 4 (by decide) ln_X3_fill_43 rfl rfl dX3_fill_43 ?_
            refine lv_goto (tgt := 59) S.1 S.2.1 dX3_fill_46 (by decide) ?_
            refine lv_istore (lv' := [(7, .int (zI len)), (6, .int (zI 1)), (5, .int (zI 1)), (0, .ref h), (1, .int (zI mo)), (2, .int (zI fl)), (3, .int (zI fr)), (4, .int (zI pl))]) S.1 S.2.1 dX3_fill_59 hl (by decide) rfl (fun ls hl => ?_)
            exact lab61 1 len (by omega) _ _ _ w (lv_sub hl [3, 4, 1, 0] rfl)
