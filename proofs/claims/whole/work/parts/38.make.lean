set_option maxRecDepth 20000 in
theorem ln_X3_make_43 : Cond.fieldLink RX3 43 "DecimalTextModel" "length" "I" ∈ wsX3_make := by decide +kernel
theorem in_X3_make_X3 : ∀ w ∈ u_ws RX3 TX3 5, w ∈ wsX3_make := by decide +kernel
set_option maxHeartbeats 4000000 in
set_option maxRecDepth 100000 in
theorem c_X3_make (l : Launch) (D : va_G) (cB cT : ClassId) (h : Nat) (hb : Nat) (ht : Nat) (r : Nat → Int) (n : Int) (P : Int) (tx : Nat → Int) (len : Int) (bz : Int) (how : Int) (p1 : Int) (wd : Int) (fl : Int) (hbz : -9223372036854775808 ≤ bz ∧ bz ≤ 9223372036854775807) (a1 : -2147483648 ≤ how ∧ how ≤ 2147483647) (a2 : -2147483648 ≤ p1 ∧ p1 ≤ 2147483647) (a3 : -2147483648 ≤ wd ∧ wd ≤ 2147483647) (a4 : -2147483648 ≤ fl ∧ fl ≤ 2147483647) : zMi (T := (Nat → Int) × Int × Int × (Nat → Int) × Int) l yX3_make wsX3_make ({ frames := 3, cells := 0, slots := 0, locals := 72 } : Room) D [(cB, .byte), (cT, .int)] [.ref h, .long (lI bz), .int (zI how), .int (zI p1), .int (zI wd), .int (zI fl)] [(h, .inr (3, [.ref hb, .int (zI n), .int (zI P), .ref ht, .int (zI len)])), (hb, .inl (cB, 1200, .inl (zA r))), (ht, .inl (cT, 420, .inl (zA tx)))] (fun (z : Int) (u : (Nat → Int) × Int × Int × (Nat → Int) × Int) => (¬ okF bz how p1 wd fl ∧ z = -1 ∧ u.2.2.2.1 = tx ∧ u.2.2.2.2 = len) ∨ (okF bz how p1 wd fl ∧ z = ((mkT bz how p1 wd fl).length : Int) ∧ tRep u.2.2.2.1 u.2.2.2.2 (mkT bz how p1 wd fl) ∧ u.2.2.2.2 ≤ 400)) (fun (u : (Nat → Int) × Int × Int × (Nat → Int) × Int) => [(h, .inr (3, [.ref hb, .int (zI u.2.1), .int (zI u.2.2.1), .ref ht, .int (zI u.2.2.2.2)])), (hb, .inl (cB, 1200, .inl (zA u.1))), (ht, .inl (cT, 420, .inl (zA u.2.2.2.1)))]) 0 0 := by
  refine zMi.of (bytes := cX3_make) (nL := 10) (own := RX3) (by decide) rfl rfl (Nat.le_of_ble_eq_true rfl) ?_
  intro p e s m below meth c ls S hr hlk hnm w hl
  have lab53 : (¬ okF bz how p1 wd fl) → ∀ (H : Heap) (locs : List Loc) (ls : Array Slot), zW D [(cB, .byte), (cT, .int)] (va_A [(h, .inr (3, [.ref hb, .int (zI n), .int (zI P), .ref ht, .int (zI len)])), (hb, .inl (cB, 1200, .inl (zA r))), (ht, .inl (cT, 420, .inl (zA tx)))] s.heap.size) s [(h, .inr (3, [.ref hb, .int (zI n), .int (zI P), .ref ht, .int (zI len)])), (hb, .inl (cB, 1200, .inl (zA r))), (ht, .inl (cT, 420, .inl (zA tx)))] H locs → lv_has ls 10 [(0, .ref h)] → W p l e ({ frames := 3, cells := 0, slots := 0, locals := 72 } : Room) s m ([.ref h, .long (lI bz), .int (zI how), .int (zI p1), .int (zI wd), .int (zI fl)] : List Value).toArray below meth c H locs 0 0 (MQ below (zQi D [(cB, .byte), (cT, .int)] [(h, .inr (3, [.ref hb, .int (zI n), .int (zI P), .ref ht, .int (zI len)])), (hb, .inl (cB, 1200, .inl (zA r))), (ht, .inl (cT, 420, .inl (zA tx)))] s.heap.size (fun (z : Int) (u : (Nat → Int) × Int × Int × (Nat → Int) × Int) => (¬ okF bz how p1 wd fl ∧ z = -1 ∧ u.2.2.2.1 = tx ∧ u.2.2.2.2 = len) ∨ (okF bz how p1 wd fl ∧ z = ((mkT bz how p1 wd fl).length : Int) ∧ tRep u.2.2.2.1 u.2.2.2.2 (mkT bz how p1 wd fl) ∧ u.2.2.2.2 ≤ 400)) (fun (u : (Nat → Int) × Int × Int × (Nat → Int) × Int) => [(h, .inr (3, [.ref hb, .int (zI u.2.1), .int (zI u.2.2.1), .ref ht, .int (zI u.2.2.2.2)])), (hb, .inl (cB, 1200, .inl (zA u.1))), (ht, .inl (cT, 420, .inl (zA u.2.2.2.1)))])) ([.ref h, .long (lI bz), .int (zI how), .int (zI p1), .int (zI wd), .int (zI fl)] : List Value).toArray s 0 0 (va_A [(h, .inr (3, [.ref hb, .int (zI n), .int (zI P), .ref ht, .int (zI len)])), (hb, .inl (cB, 1200, .inl (zA r))), (ht, .inl (cT, 420, .inl (zA tx)))] s.heap.size)) (F0 m 53 ls []) := by
    intro  hno H locs ls w hl
    refine z_iconst S dX3_make_53 ?_
    exact z_iret S hr hlk w (zNar_int _) (r, n, P, tx, len) (Or.inl ⟨hno, rfl, rfl, rfl⟩) rfl dX3_make_54
  have lab168 : ∀ (r1 : Nat → Int) (n1 : Int) (P1 : Int) (tx1 : Nat → Int) (len1 : Int) (fr : Int), (okF bz how p1 wd fl) → (tRep tx1 len1 (bare bz how p1 fl)) → (len1 ≤ 350) → (fr = ((sgT bz fl).length : Int)) → ∀ (H : Heap) (locs : List Loc) (ls : Array Slot), zW D [(cB, .byte), (cT, .int)] (va_A [(h, .inr (3, [.ref hb, .int (zI n), .int (zI P), .ref ht, .int (zI len)])), (hb, .inl (cB, 1200, .inl (zA r))), (ht, .inl (cT, 420, .inl (zA tx)))] s.heap.size) s [(h, .inr (3, [.ref hb, .int (zI n1), .int (zI P1), .ref ht, .int (zI len1)])), (hb, .inl (cB, 1200, .inl (zA r1))), (ht, .inl (cT, 420, .inl (zA tx1)))] H locs → lv_has ls 10 [(0, .ref h), (1, .long (lI bz)), (5, .int (zI wd)), (6, .int (zI fl)), (8, .int (zI fr))] → W p l e ({ frames := 3, cells := 0, slots := 0, locals := 72 } : Room) s m ([.ref h, .long (lI bz), .int (zI how), .int (zI p1), .int (zI wd), .int (zI fl)] : List Value).toArray below meth c H locs 0 0 (MQ below (zQi D [(cB, .byte), (cT, .int)] [(h, .inr (3, [.ref hb, .int (zI n), .int (zI P), .ref ht, .int (zI len)])), (hb, .inl (cB, 1200, .inl (zA r))), (ht, .inl (cT, 420, .inl (zA tx)))] s.heap.size (fun (z : Int) (u : (Nat → Int) × Int × Int × (Nat → Int) × Int) => (¬ okF bz how p1 wd fl ∧ z = -1 ∧ u.2.2.2.1 = tx ∧ u.2.2.2.2 = len) ∨ (okF bz how p1 wd fl ∧ z = ((mkT bz how p1 wd fl).length : Int) ∧ tRep u.2.2.2.1 u.2.2.2.2 (mkT bz how p1 wd fl) ∧ u.2.2.2.2 ≤ 400)) (fun (u : (Nat → Int) × Int × Int × (Nat → Int) × Int) => [(h, .inr (3, [.ref hb, .int (zI u.2.1), .int (zI u.2.2.1), .ref ht, .int (zI u.2.2.2.2)])), (hb, .inl (cB, 1200, .inl (zA u.1))), (ht, .inl (cT, 420, .inl (zA u.2.2.2.1)))])) ([.ref h, .long (lI bz), .int (zI how), .int (zI p1), .int (zI wd), .int (zI fl)] : List Value).toArray s 0 0 (va_A [(h, .inr (3, [.ref hb, .int (zI n), .int (zI P), .ref ht, .int (zI len)])), (hb, .inl (cB, 1200, .inl (zA r))), (ht, .inl (cT, 420, .inl (zA tx)))] s.heap.size)) (F0 m 168 ls []) := by
    intro r1 n1 P1 tx1 len1 fr hok t1 hl1 hfr H locs ls w hl
    have hk2 := hok
    unfold okF at hk2
    have g2 := t1.1
    have hbl : ((sgT bz fl).length : Int) ≤ ((bare bz how p1 fl).length : Int) := by unfold bare; rw [List.length_append]; omega
    refine lv_iload S.1 S.2.1 dX3_make_168 (lv_at hl 2 rfl) ?_
    refine lv_aload_n S.1 S.2.1 dX3_make_170 rfl (lv_at hl 0 rfl) ?_
    refine z_get (ci := 3) (C := RX3) (T := TX3) (N := 5) S w 0 rfl rfl in_X3_make_X3 4 (by decide) ln_X3_make_43 rfl rfl dX3_make_171 ?_
    refine z_isub S dX3_make_174 ?_
    refine lv_istore (lv' := [(9, .int (zI (wd - len1))), (0, .ref h), (1, .long (lI bz)), (5, .int (zI wd)), (6, .int (zI fl)), (8, .int (zI fr))]) S.1 S.2.1 dX3_make_175 hl (by decide) rfl (fun ls hl => ?_)
    refine lv_iload S.1 S.2.1 dX3_make_177 (lv_at hl 0 rfl) ?_
    refine z_if_le (tgt := 196) S dX3_make_179 (by decide) (by omega) (fun h179 => ?_) (fun h179 => ?_)
    · skip
      refine lv_aload_n S.1 S.2.1 dX3_make_196 rfl (lv_at hl 1 rfl) ?_
      refine z_get (ci := 3) (C := RX3) (T := TX3) (N := 5) S w 0 rfl rfl in_X3_make_X3 4 (by decide) ln_X3_make_43 rfl rfl dX3_make_197 ?_
      have k1_ : (¬ okF bz how p1 wd fl ∧ (len1 : Int) = -1 ∧ tx1 = tx ∧ len1 = len) ∨ (okF bz how p1 wd fl ∧ (len1 : Int) = ((mkT bz how p1 wd fl).length : Int) ∧ tRep tx1 len1 (mkT bz how p1 wd fl) ∧ len1 ≤ 400) := by
        right
        have e : mkT bz how p1 wd fl = bare bz how p1 fl := by
          unfold mkT padT
          rw [if_pos (by omega)]
        rw [e]
        exact ⟨hok, g2, t1, by omega⟩
      exact z_iret S hr hlk w (zNar_int _) (r1, n1, P1, tx1, len1) k1_ rfl dX3_make_200
    · skip
      refine lv_aload_n S.1 S.2.1 dX3_make_182 rfl (lv_at hl 1 rfl) ?_
      refine lv_iload S.1 S.2.1 dX3_make_183 (lv_at hl 0 rfl) ?_
      refine lv_iload S.1 S.2.1 dX3_make_185 (lv_at hl 4 rfl) ?_
      refine lv_iload S.1 S.2.1 dX3_make_187 (lv_at hl 5 rfl) ?_
      refine lv_lload_n S.1 S.2.1 dX3_make_189 rfl (lv_at hl 2 rfl) ?_
      refine z_calliS (n := 1) (As := [.long (lI bz)]) (rest := [.int (zI fr), .int (zI fl), .int (zI (wd - len1)), .ref h]) (wr := [(h, .inr (3, [.ref hb, .int (zI n1), .int (zI P1), .ref ht, .int (zI len1)])), (hb, .inl (cB, 1200, .inl (zA r1))), (ht, .inl (cT, 420, .inl (zA tx1)))]) (wn := (fun (u : Unit) => [(h, .inr (3, [.ref hb, .int (zI n1), .int (zI P1), .ref ht, .int (zI len1)])), (hb, .inl (cB, 1200, .inl (zA r1))), (ht, .inl (cT, 420, .inl (zA tx1)))])) S w (c_X3_infinite l D bz (by omega)) gX3_make_X3_infinite (by decide +kernel) rfl ⟨rfl, rfl⟩ ⟨Nat.le_of_ble_eq_true rfl, Nat.le_of_ble_eq_true rfl⟩ [] [] [0, 1, 2] [0, 1, 2] rfl rfl rfl rfl rfl (by decide) (fun u => rfl) rfl rfl hl.1 (Nat.le_of_ble_eq_true rfl) ⟨Nat.le_of_ble_eq_true rfl, Nat.le_of_ble_eq_true rfl⟩ rfl dX3_make_190 (fun z190 _ H locs p190 w => ?_)
      have p190 : (z190 = 1 ∧ (xE bz = 2047 ∧ bz % 4503599627370496 = 0)) ∨ (z190 = 0 ∧ ¬ (xE bz = 2047 ∧ bz % 4503599627370496 = 0)) := p190
      have w : zW D _ _ s [(h, .inr (3, [.ref hb, .int (zI n1), .int (zI P1), .ref ht, .int (zI len1)])), (hb, .inl (cB, 1200, .inl (zA r1))), (ht, .inl (cT, 420, .inl (zA tx1)))] H locs := w
      refine z_callvV (C := RX3) (n := 4) (As := [.int (zI (wd - len1)), .int (zI fl), .int (zI fr), .int (zI z190)]) (rest := []) (wr := []) (wn := (fun (u : (Nat → Int) × Int) => [(h, .inr (3, [.ref hb, .int (zI n1), .int (zI P1), .ref ht, .int (zI u.2)])), (hb, .inl (cB, 1200, .inl (zA r1))), (ht, .inl (cT, 420, .inl (zA u.1)))])) S w (c_X3_fill l D cB cT h hb ht r1 n1 P1 tx1 len1 (wd - len1) fl fr z190 (bare bz how p1 fl) t1 (by omega) (by omega) (by omega) (by omega) (by omega)) gX3_make_X3_fill (by decide +kernel) rfl ⟨rfl, rfl⟩ ⟨Nat.le_of_ble_eq_true rfl, Nat.le_of_ble_eq_true rfl⟩ [0, 1] [0, 1, 2] [] [0, 1, 2] rfl rfl rfl rfl rfl (by decide) (fun u => rfl) rfl rfl rfl rfl rfl hl.1 (Nat.le_of_ble_eq_true rfl) ⟨Nat.le_of_ble_eq_true rfl, Nat.le_of_ble_eq_true rfl⟩ rfl dX3_make_193 (fun u H locs p193 w => ?_)
      obtain ⟨tx193, len193⟩ := u
      have p193 : tRep tx193 len193 (padT (bare bz how p1 fl) fr (wd - len1) (1 - z190) fl) ∧ len193 = len1 + (wd - len1) := p193
      have w : zW D _ _ s [(h, .inr (3, [.ref hb, .int (zI n1), .int (zI P1), .ref ht, .int (zI len193)])), (hb, .inl (cB, 1200, .inl (zA r1))), (ht, .inl (cT, 420, .inl (zA tx193)))] H locs := w
      refine lv_aload_n S.1 S.2.1 dX3_make_196 rfl (lv_at hl 1 rfl) ?_
      refine z_get (ci := 3) (C := RX3) (T := TX3) (N := 5) S w 0 rfl rfl in_X3_make_X3 4 (by decide) ln_X3_make_43 rfl rfl dX3_make_197 ?_
      have k2_ : (¬ okF bz how p1 wd fl ∧ (len193 : Int) = -1 ∧ tx193 = tx ∧ len193 = len) ∨ (okF bz how p1 wd fl ∧ (len193 : Int) = ((mkT bz how p1 wd fl).length : Int) ∧ tRep tx193 len193 (mkT bz how p1 wd fl) ∧ len193 ≤ 400) := by
        right
        obtain ⟨q1, q2⟩ := p193
        have e : (1 - z190 : Int) = (if xE bz = 2047 then 0 else 1) := by
          by_cases q : xE bz = 2047
          · rw [if_pos q]; omega
          · rw [if_neg q]; omega
        rw [e, hfr, g2] at q1
        exact ⟨hok, q1.1, q1, by omega⟩
      exact z_iret S hr hlk w (zNar_int _) (r1, n1, P1, tx193, len193) k2_ rfl dX3_make_200
  have lab109 : ∀ (tx1 : Nat → Int) (len1 : Int), (okF bz how p1 wd fl) → (tRep tx1 len1 (sgT bz fl)) → (len1 ≤ 1) → ∀ (H : Heap) (locs : List Loc) (ls : Array Slot), zW D [(cB, .byte), (cT, .int)] (va_A [(h, .inr (3, [.ref hb, .int (zI n), .int (zI P), .ref ht, .int (zI len)])), (hb, .inl (cB, 1200, .inl (zA r))), (ht, .inl (cT, 420, .inl (zA tx)))] s.heap.size) s [(h, .inr (3, [.ref hb, .int (zI n), .int (zI P), .ref ht, .int (zI len1)])), (hb, .inl (cB, 1200, .inl (zA r))), (ht, .inl (cT, 420, .inl (zA tx1)))] H locs → lv_has ls 10 [(0, .ref h), (1, .long (lI bz)), (3, .int (zI how)), (4, .int (zI p1)), (5, .int (zI wd)), (6, .int (zI fl))] → W p l e ({ frames := 3, cells := 0, slots := 0, locals := 72 } : Room) s m ([.ref h, .long (lI bz), .int (zI how), .int (zI p1), .int (zI wd), .int (zI fl)] : List Value).toArray below meth c H locs 0 0 (MQ below (zQi D [(cB, .byte), (cT, .int)] [(h, .inr (3, [.ref hb, .int (zI n), .int (zI P), .ref ht, .int (zI len)])), (hb, .inl (cB, 1200, .inl (zA r))), (ht, .inl (cT, 420, .inl (zA tx)))] s.heap.size (fun (z : Int) (u : (Nat → Int) × Int × Int × (Nat → Int) × Int) => (¬ okF bz how p1 wd fl ∧ z = -1 ∧ u.2.2.2.1 = tx ∧ u.2.2.2.2 = len) ∨ (okF bz how p1 wd fl ∧ z = ((mkT bz how p1 wd fl).length : Int) ∧ tRep u.2.2.2.1 u.2.2.2.2 (mkT bz how p1 wd fl) ∧ u.2.2.2.2 ≤ 400)) (fun (u : (Nat → Int) × Int × Int × (Nat → Int) × Int) => [(h, .inr (3, [.ref hb, .int (zI u.2.1), .int (zI u.2.2.1), .ref ht, .int (zI u.2.2.2.2)])), (hb, .inl (cB, 1200, .inl (zA u.1))), (ht, .inl (cT, 420, .inl (zA u.2.2.2.1)))])) ([.ref h, .long (lI bz), .int (zI how), .int (zI p1), .int (zI wd), .int (zI fl)] : List Value).toArray s 0 0 (va_A [(h, .inr (3, [.ref hb, .int (zI n), .int (zI P), .ref ht, .int (zI len)])), (hb, .inl (cB, 1200, .inl (zA r))), (ht, .inl (cT, 420, .inl (zA tx)))] s.heap.size)) (F0 m 109 ls []) := by
    intro tx1 len1 hok t1 hl1 H locs ls w hl
    have hk2 := hok
    unfold okF at hk2
    have g2 := t1.1
    refine lv_aload_n S.1 S.2.1 dX3_make_109 rfl (lv_at hl 0 rfl) ?_
    refine z_get (ci := 3) (C := RX3) (T := TX3) (N := 5) S w 0 rfl rfl in_X3_make_X3 4 (by decide) ln_X3_make_43 rfl rfl dX3_make_110 ?_
    refine lv_istore (lv' := [(8, .int (zI len1)), (0, .ref h), (1, .long (lI bz)), (3, .int (zI how)), (4, .int (zI p1)), (5, .int (zI wd)), (6, .int (zI fl))]) S.1 S.2.1 dX3_make_113 hl (by decide) rfl (fun ls hl => ?_)
    refine lv_lload_n S.1 S.2.1 dX3_make_115 rfl (lv_at hl 2 rfl) ?_
    refine z_calliS (n := 1) (As := [.long (lI bz)]) (rest := []) (wr := [(h, .inr (3, [.ref hb, .int (zI n), .int (zI P), .ref ht, .int (zI len1)])), (hb, .inl (cB, 1200, .inl (zA r))), (ht, .inl (cT, 420, .inl (zA tx1)))]) (wn := (fun (u : Unit) => [(h, .inr (3, [.ref hb, .int (zI n), .int (zI P), .ref ht, .int (zI len1)])), (hb, .inl (cB, 1200, .inl (zA r))), (ht, .inl (cT, 420, .inl (zA tx1)))])) S w (c_X3_infinite l D bz (by omega)) gX3_make_X3_infinite (by decide +kernel) rfl ⟨rfl, rfl⟩ ⟨Nat.le_of_ble_eq_true rfl, Nat.le_of_ble_eq_true rfl⟩ [] [] [0, 1, 2] [0, 1, 2] rfl rfl rfl rfl rfl (by decide) (fun u => rfl) rfl rfl hl.1 (Nat.le_of_ble_eq_true rfl) ⟨Nat.le_of_ble_eq_true rfl, Nat.le_of_ble_eq_true rfl⟩ rfl dX3_make_116 (fun z116 _ H locs p116 w => ?_)
    have p116 : (z116 = 1 ∧ (xE bz = 2047 ∧ bz % 4503599627370496 = 0)) ∨ (z116 = 0 ∧ ¬ (xE bz = 2047 ∧ bz % 4503599627370496 = 0)) := p116
    have w : zW D _ _ s [(h, .inr (3, [.ref hb, .int (zI n), .int (zI P), .ref ht, .int (zI len1)])), (hb, .inl (cB, 1200, .inl (zA r))), (ht, .inl (cT, 420, .inl (zA tx1)))] H locs := w
    refine z_if_eq (tgt := 143) S dX3_make_119 (by decide) (by omega) (fun h119 => ?_) (fun h119 => ?_)
    · skip
      refine lv_aload_n S.1 S.2.1 dX3_make_143 rfl (lv_at hl 1 rfl) ?_
      refine lv_lload_n S.1 S.2.1 dX3_make_144 rfl (lv_at hl 2 rfl) ?_
      refine z_callvV (C := RX3) (n := 1) (As := [.long (lI bz)]) (rest := []) (wr := []) (wn := (fun (u : (Nat → Int) × Int × Int) => [(h, .inr (3, [.ref hb, .int (zI u.2.1), .int (zI u.2.2), .ref ht, .int (zI len1)])), (hb, .inl (cB, 1200, .inl (zA u.1))), (ht, .inl (cT, 420, .inl (zA tx1)))])) S w (c_X3_spread l D cB cT h hb ht r n P tx1 len1 bz (by omega) (by omega)) gX3_make_X3_spread (by decide +kernel) rfl ⟨rfl, rfl⟩ ⟨Nat.le_of_ble_eq_true rfl, Nat.le_of_ble_eq_true rfl⟩ [0, 1] [0, 1, 2] [] [0, 1, 2] rfl rfl rfl rfl rfl (by decide) (fun u => rfl) rfl rfl rfl rfl rfl hl.1 (Nat.le_of_ble_eq_true rfl) ⟨Nat.le_of_ble_eq_true rfl, Nat.le_of_ble_eq_true rfl⟩ rfl dX3_make_145 (fun u H locs p145 w => ?_)
      obtain ⟨r2, n2, P2⟩ := u
      have p145 : mRep r2 n2 P2 (xX bz) ∧ n2 ≤ 1190 ∧ (-1100 ≤ P2 ∧ P2 ≤ 1100) := p145
      have w : zW D _ _ s [(h, .inr (3, [.ref hb, .int (zI n2), .int (zI P2), .ref ht, .int (zI len1)])), (hb, .inl (cB, 1200, .inl (zA r2))), (ht, .inl (cT, 420, .inl (zA tx1)))] H locs := w
      obtain ⟨b1, b2, b3⟩ := p145
      refine lv_aload_n S.1 S.2.1 dX3_make_148 rfl (lv_at hl 1 rfl) ?_
      refine lv_iload_n S.1 S.2.1 dX3_make_149 rfl (lv_at hl 3 rfl) ?_
      refine lv_iload S.1 S.2.1 dX3_make_150 (lv_at hl 4 rfl) ?_
      refine lv_iload S.1 S.2.1 dX3_make_152 (lv_at hl 6 rfl) ?_
      refine z_bipush S dX3_make_154 (by decide +kernel) ?_
      refine z_iand S dX3_make_156 (v := (16 * (fl / 16 % 2))) (zI_flag (by omega) (by decide)) ?_
      refine z_if_eq (tgt := 164) S dX3_make_157 (by decide) (by omega) (fun h157 => ?_) (fun h157 => ?_)
      · skip
        refine z_iconst S dX3_make_164 ?_
        refine z_callvV (C := RX3) (n := 3) (As := [.int (zI how), .int (zI p1), .int (zI 0)]) (rest := []) (wr := []) (wn := (fun (u : (Nat → Int) × Int × Int × (Nat → Int) × Int) => [(h, .inr (3, [.ref hb, .int (zI u.2.1), .int (zI u.2.2.1), .ref ht, .int (zI u.2.2.2.2)])), (hb, .inl (cB, 1200, .inl (zA u.1))), (ht, .inl (cT, 420, .inl (zA u.2.2.2.1)))])) S w (c_X3_body l D cB cT h hb ht r2 n2 P2 tx1 len1 how p1 0 (xX bz) (sgT bz fl) b1 (by omega) (by omega) (xX_bnd (by omega)) (by omega) (by omega) (by omega) t1 (by omega)) gX3_make_X3_body (by decide +kernel) rfl ⟨rfl, rfl⟩ ⟨Nat.le_of_ble_eq_true rfl, Nat.le_of_ble_eq_true rfl⟩ [0, 1] [0, 1, 2] [] [0, 1, 2] rfl rfl rfl rfl rfl (by decide) (fun u => rfl) rfl rfl rfl rfl rfl hl.1 (Nat.le_of_ble_eq_true rfl) ⟨Nat.le_of_ble_eq_true rfl, Nat.le_of_ble_eq_true rfl⟩ rfl dX3_make_165 (fun u H locs p165 w => ?_)
        obtain ⟨r165, n165, P165, tx165, len165⟩ := u
        have p165 : tRep tx165 len165 ((sgT bz fl) ++ (if how = 0 then plT (xX bz) p1 (if 0 < p1 ∨ (0 : Int) = 1 then (1 : Int) else 0) else epT (xX bz) p1 (if 0 < p1 ∨ (0 : Int) = 1 then (1 : Int) else 0) (if how = 2 then (69 : Int) else 101))) ∧ len165 ≤ 340 := p165
        have w : zW D _ _ s [(h, .inr (3, [.ref hb, .int (zI n165), .int (zI P165), .ref ht, .int (zI len165)])), (hb, .inl (cB, 1200, .inl (zA r165))), (ht, .inl (cT, 420, .inl (zA tx165)))] H locs := w
        have k3_ : tRep tx165 len165 (bare bz how p1 fl) := by
          have q1 := p165.1
          unfold bare boT
          rw [if_neg (show ¬ xE bz = 2047 by omega)]
          first
            | (have e : ptF p1 fl = (if 0 < p1 ∨ (1 : Int) = 1 then (1 : Int) else 0) := by
                 unfold ptF
                 by_cases q : 0 < p1 ∨ fl / 16 % 2 = 1
                 · rw [if_pos q, if_pos (show 0 < p1 ∨ (1 : Int) = 1 by omega)]
                 · rw [if_neg q, if_neg (show ¬ (0 < p1 ∨ (1 : Int) = 1) by omega)]
               rw [e]; exact q1)
            | (have e : ptF p1 fl = (if 0 < p1 ∨ (0 : Int) = 1 then (1 : Int) else 0) := by
                 unfold ptF
                 by_cases q : 0 < p1 ∨ fl / 16 % 2 = 1
                 · rw [if_pos q, if_pos (show 0 < p1 ∨ (0 : Int) = 1 by omega)]
                 · rw [if_neg q, if_neg (show ¬ (0 < p1 ∨ (0 : Int) = 1) by omega)]
               rw [e]; exact q1)
        exact lab168 r165 n165 P165 tx165 len165 len1 hok k3_ (by omega) (by omega) _ _ _ w (lv_sub hl [1, 2, 5, 6, 0] rfl)
      · skip
        refine z_iconst S dX3_make_160 ?_
        refine lv_goto (tgt := 165) S.1 S.2.1 dX3_make_161 (by decide) ?_
        refine z_callvV (C := RX3) (n := 3) (As := [.int (zI how), .int (zI p1), .int (zI 1)]) (rest := []) (wr := []) (wn := (fun (u : (Nat → Int) × Int × Int × (Nat → Int) × Int) => [(h, .inr (3, [.ref hb, .int (zI u.2.1), .int (zI u.2.2.1), .ref ht, .int (zI u.2.2.2.2)])), (hb, .inl (cB, 1200, .inl (zA u.1))), (ht, .inl (cT, 420, .inl (zA u.2.2.2.1)))])) S w (c_X3_body l D cB cT h hb ht r2 n2 P2 tx1 len1 how p1 1 (xX bz) (sgT bz fl) b1 (by omega) (by omega) (xX_bnd (by omega)) (by omega) (by omega) (by omega) t1 (by omega)) gX3_make_X3_body (by decide +kernel) rfl ⟨rfl, rfl⟩ ⟨Nat.le_of_ble_eq_true rfl, Nat.le_of_ble_eq_true rfl⟩ [0, 1] [0, 1, 2] [] [0, 1, 2] rfl rfl rfl rfl rfl (by decide) (fun u => rfl) rfl rfl rfl rfl rfl hl.1 (Nat.le_of_ble_eq_true rfl) ⟨Nat.le_of_ble_eq_true rfl, Nat.le_of_ble_eq_true rfl⟩ rfl dX3_make_165 (fun u H locs p165 w => ?_)
        obtain ⟨r165, n165, P165, tx165, len165⟩ := u
        have p165 : tRep tx165 len165 ((sgT bz fl) ++ (if how = 0 then plT (xX bz) p1 (if 0 < p1 ∨ (1 : Int) = 1 then (1 : Int) else 0) else epT (xX bz) p1 (if 0 < p1 ∨ (1 : Int) = 1 then (1 : Int) else 0) (if how = 2 then (69 : Int) else 101))) ∧ len165 ≤ 340 := p165
        have w : zW D _ _ s [(h, .inr (3, [.ref hb, .int (zI n165), .int (zI P165), .ref ht, .int (zI len165)])), (hb, .inl (cB, 1200, .inl (zA r165))), (ht, .inl (cT, 420, .inl (zA tx165)))] H locs := w
        have k4_ : tRep tx165 len165 (bare bz how p1 fl) := by
          have q1 := p165.1
          unfold bare boT
          rw [if_neg (show ¬ xE bz = 2047 by omega)]
          first
            | (have e : ptF p1 fl = (if 0 < p1 ∨ (1 : Int) = 1 then (1 : Int) else 0) := by
                 unfold ptF
                 by_cases q : 0 < p1 ∨ fl / 16 % 2 = 1
                 · rw [if_pos q, if_pos (show 0 < p1 ∨ (1 : Int) = 1 by omega)]
                 · rw [if_neg q, if_neg (show ¬ (0 < p1 ∨ (1 : Int) = 1) by omega)]
               rw [e]; exact q1)
            | (have e : ptF p1 fl = (if 0 < p1 ∨ (0 : Int) = 1 then (1 : Int) else 0) := by
                 unfold ptF
                 by_cases q : 0 < p1 ∨ fl / 16 % 2 = 1
                 · rw [if_pos q, if_pos (show 0 < p1 ∨ (0 : Int) = 1 by omega)]
                 · rw [if_neg q, if_neg (show ¬ (0 < p1 ∨ (0 : Int) = 1) by omega)]
               rw [e]; exact q1)
        exact lab168 r165 n165 P165 tx165 len165 len1 hok k4_ (by omega) (by omega) _ _ _ w (lv_sub hl [1, 2, 5, 6, 0] rfl)
    · skip
      refine lv_aload_n S.1 S.2.1 dX3_make_122 rfl (lv_at hl 1 rfl) ?_
      refine z_bipush S dX3_make_123 (by decide +kernel) ?_
      refine z_callvV (C := RX3) (n := 1) (As := [.int (zI 105)]) (rest := []) (wr := []) (wn := (fun (u : (Nat → Int) × Int) => [(h, .inr (3, [.ref hb, .int (zI n), .int (zI P), .ref ht, .int (zI u.2)])), (hb, .inl (cB, 1200, .inl (zA r))), (ht, .inl (cT, 420, .inl (zA u.1)))])) S w (c_X3_put l D cB cT h hb ht r n P tx1 len1 105 (by omega)) gX3_make_X3_put (by decide +kernel) rfl ⟨rfl, rfl⟩ ⟨Nat.le_of_ble_eq_true rfl, Nat.le_of_ble_eq_true rfl⟩ [0, 1] [0, 1, 2] [] [0, 1, 2] rfl rfl rfl rfl rfl (by decide) (fun u => rfl) rfl rfl rfl rfl rfl hl.1 (Nat.le_of_ble_eq_true rfl) ⟨Nat.le_of_ble_eq_true rfl, Nat.le_of_ble_eq_true rfl⟩ rfl dX3_make_125 (fun u H locs p125 w => ?_)
      obtain ⟨tx125, len125⟩ := u
      have p125 : tx125 = zu tx1 len1.toNat (105 : Int) ∧ len125 = len1 + 1 := p125
      have w : zW D _ _ s [(h, .inr (3, [.ref hb, .int (zI n), .int (zI P), .ref ht, .int (zI len125)])), (hb, .inl (cB, 1200, .inl (zA r))), (ht, .inl (cT, 420, .inl (zA tx125)))] H locs := w
      have t125 := tRep_put' t1 p125
      refine lv_aload_n S.1 S.2.1 dX3_make_128 rfl (lv_at hl 1 rfl) ?_
      refine z_bipush S dX3_make_129 (by decide +kernel) ?_
      refine z_callvV (C := RX3) (n := 1) (As := [.int (zI 110)]) (rest := []) (wr := []) (wn := (fun (u : (Nat → Int) × Int) => [(h, .inr (3, [.ref hb, .int (zI n), .int (zI P), .ref ht, .int (zI u.2)])), (hb, .inl (cB, 1200, .inl (zA r))), (ht, .inl (cT, 420, .inl (zA u.1)))])) S w (c_X3_put l D cB cT h hb ht r n P tx125 len125 110 (by omega)) gX3_make_X3_put (by decide +kernel) rfl ⟨rfl, rfl⟩ ⟨Nat.le_of_ble_eq_true rfl, Nat.le_of_ble_eq_true rfl⟩ [0, 1] [0, 1, 2] [] [0, 1, 2] rfl rfl rfl rfl rfl (by decide) (fun u => rfl) rfl rfl rfl rfl rfl hl.1 (Nat.le_of_ble_eq_true rfl) ⟨Nat.le_of_ble_eq_true rfl, Nat.le_of_ble_eq_true rfl⟩ rfl dX3_make_131 (fun u H locs p131 w => ?_)
      obtain ⟨tx131, len131⟩ := u
      have p131 : tx131 = zu tx125 len125.toNat (110 : Int) ∧ len131 = len125 + 1 := p131
      have w : zW D _ _ s [(h, .inr (3, [.ref hb, .int (zI n), .int (zI P), .ref ht, .int (zI len131)])), (hb, .inl (cB, 1200, .inl (zA r))), (ht, .inl (cT, 420, .inl (zA tx131)))] H locs := w
      have t131 := tRep_put' t125 p131
      refine lv_aload_n S.1 S.2.1 dX3_make_134 rfl (lv_at hl 1 rfl) ?_
      refine z_bipush S dX3_make_135 (by decide +kernel) ?_
      refine z_callvV (C := RX3) (n := 1) (As := [.int (zI 102)]) (rest := []) (wr := []) (wn := (fun (u : (Nat → Int) × Int) => [(h, .inr (3, [.ref hb, .int (zI n), .int (zI P), .ref ht, .int (zI u.2)])), (hb, .inl (cB, 1200, .inl (zA r))), (ht, .inl (cT, 420, .inl (zA u.1)))])) S w (c_X3_put l D cB cT h hb ht r n P tx131 len131 102 (by omega)) gX3_make_X3_put (by decide +kernel) rfl ⟨rfl, rfl⟩ ⟨Nat.le_of_ble_eq_true rfl, Nat.le_of_ble_eq_true rfl⟩ [0, 1] [0, 1, 2] [] [0, 1, 2] rfl rfl rfl rfl rfl (by decide) (fun u => rfl) rfl rfl rfl rfl rfl hl.1 (Nat.le_of_ble_eq_true rfl) ⟨Nat.le_of_ble_eq_true rfl, Nat.le_of_ble_eq_true rfl⟩ rfl dX3_make_137 (fun u H locs p137 w => ?_)
      obtain ⟨tx137, len137⟩ := u
      have p137 : tx137 = zu tx131 len131.toNat (102 : Int) ∧ len137 = len131 + 1 := p137
      have w : zW D _ _ s [(h, .inr (3, [.ref hb, .int (zI n), .int (zI P), .ref ht, .int (zI len137)])), (hb, .inl (cB, 1200, .inl (zA r))), (ht, .inl (cT, 420, .inl (zA tx137)))] H locs := w
      have t137 := tRep_put' t131 p137
      rw [List.append_assoc, List.append_assoc] at t137
      refine lv_goto (tgt := 168) S.1 S.2.1 dX3_make_140 (by decide) ?_
      exact lab168 r n P tx137 len137 len1 hok (by unfold bare boT; rw [if_pos (by omega)]; exact t137) (by omega) (by omega) _ _ _ w (lv_sub hl [1, 2, 5, 6, 0] rfl)
  have lab98 : ∀ (sg : Int), (okF bz how p1 wd fl) → ((sg = 0 ∧ sgT bz fl = []) ∨ (sg ≠ 0 ∧ sgT bz fl = [sg])) → (0 ≤ sg ∧ sg ≤ 100) → ∀ (H : Heap) (locs : List Loc) (ls : Array Slot), zW D [(cB, .byte), (cT, .int)] (va_A [(h, .inr (3, [.ref hb, .int (zI n), .int (zI P), .ref ht, .int (zI len)])), (hb, .inl (cB, 1200, .inl (zA r))), (ht, .inl (cT, 420, .inl (zA tx)))] s.heap.size) s [(h, .inr (3, [.ref hb, .int (zI n), .int (zI P), .ref ht, .int (zI 0)])), (hb, .inl (cB, 1200, .inl (zA r))), (ht, .inl (cT, 420, .inl (zA tx)))] H locs → lv_has ls 10 [(0, .ref h), (1, .long (lI bz)), (3, .int (zI how)), (4, .int (zI p1)), (5, .int (zI wd)), (6, .int (zI fl)), (7, .int (zI sg))] → W p l e ({ frames := 3, cells := 0, slots := 0, locals := 72 } : Room) s m ([.ref h, .long (lI bz), .int (zI how), .int (zI p1), .int (zI wd), .int (zI fl)] : List Value).toArray below meth c H locs 0 0 (MQ below (zQi D [(cB, .byte), (cT, .int)] [(h, .inr (3, [.ref hb, .int (zI n), .int (zI P), .ref ht, .int (zI len)])), (hb, .inl (cB, 1200, .inl (zA r))), (ht, .inl (cT, 420, .inl (zA tx)))] s.heap.size (fun (z : Int) (u : (Nat → Int) × Int × Int × (Nat → Int) × Int) => (¬ okF bz how p1 wd fl ∧ z = -1 ∧ u.2.2.2.1 = tx ∧ u.2.2.2.2 = len) ∨ (okF bz how p1 wd fl ∧ z = ((mkT bz how p1 wd fl).length : Int) ∧ tRep u.2.2.2.1 u.2.2.2.2 (mkT bz how p1 wd fl) ∧ u.2.2.2.2 ≤ 400)) (fun (u : (Nat → Int) × Int × Int × (Nat → Int) × Int) => [(h, .inr (3, [.ref hb, .int (zI u.2.1), .int (zI u.2.2.1), .ref ht, .int (zI u.2.2.2.2)])), (hb, .inl (cB, 1200, .inl (zA u.1))), (ht, .inl (cT, 420, .inl (zA u.2.2.2.1)))])) ([.ref h, .long (lI bz), .int (zI how), .int (zI p1), .int (zI wd), .int (zI fl)] : List Value).toArray s 0 0 (va_A [(h, .inr (3, [.ref hb, .int (zI n), .int (zI P), .ref ht, .int (zI len)])), (hb, .inl (cB, 1200, .inl (zA r))), (ht, .inl (cT, 420, .inl (zA tx)))] s.heap.size)) (F0 m 98 ls []) := by
    intro sg hok hsg hsb H locs ls w hl
    have t0 := tRep_nil tx
    refine lv_iload S.1 S.2.1 dX3_make_98 (lv_at hl 6 rfl) ?_
    refine z_if_eq (tgt := 109) S dX3_make_100 (by decide) (by omega) (fun h100 => ?_) (fun h100 => ?_)
    · skip
      have k5_ : tRep tx (0 : Int) (sgT bz fl) := by
        rcases hsg with ⟨q1, q2⟩ | ⟨q1, q2⟩
        · rw [q2]; exact t0
        · omega
      exact lab109 tx 0 hok k5_ (by omega) _ _ _ w (lv_sub hl [0, 1, 2, 3, 4, 5] rfl)
    · skip
      refine lv_aload_n S.1 S.2.1 dX3_make_103 rfl (lv_at hl 0 rfl) ?_
      refine lv_iload S.1 S.2.1 dX3_make_104 (lv_at hl 6 rfl) ?_
      refine z_callvV (C := RX3) (n := 1) (As := [.int (zI sg)]) (rest := []) (wr := []) (wn := (fun (u : (Nat → Int) × Int) => [(h, .inr (3, [.ref hb, .int (zI n), .int (zI P), .ref ht, .int (zI u.2)])), (hb, .inl (cB, 1200, .inl (zA r))), (ht, .inl (cT, 420, .inl (zA u.1)))])) S w (c_X3_put l D cB cT h hb ht r n P tx 0 sg (by omega)) gX3_make_X3_put (by decide +kernel) rfl ⟨rfl, rfl⟩ ⟨Nat.le_of_ble_eq_true rfl, Nat.le_of_ble_eq_true rfl⟩ [0, 1] [0, 1, 2] [] [0, 1, 2] rfl rfl rfl rfl rfl (by decide) (fun u => rfl) rfl rfl rfl rfl rfl hl.1 (Nat.le_of_ble_eq_true rfl) ⟨Nat.le_of_ble_eq_true rfl, Nat.le_of_ble_eq_true rfl⟩ rfl dX3_make_106 (fun u H locs p106 w => ?_)
      obtain ⟨tx106, len106⟩ := u
      have p106 : tx106 = zu tx (0 : Int).toNat sg ∧ len106 = (0 : Int) + 1 := p106
      have w : zW D _ _ s [(h, .inr (3, [.ref hb, .int (zI n), .int (zI P), .ref ht, .int (zI len106)])), (hb, .inl (cB, 1200, .inl (zA r))), (ht, .inl (cT, 420, .inl (zA tx106)))] H locs := w
      have k6_ : tRep tx106 len106 (sgT bz fl) := by
        have q := tRep_put' t0 p106
        rcases hsg with ⟨q1, q2⟩ | ⟨q1, q2⟩
        · omega
        · rw [q2]; exact q
      exact lab109 tx106 len106 hok k6_ (by omega) _ _ _ w (lv_sub hl [0, 1, 2, 3, 4, 5] rfl)
  have hl : lv_has ls 10 [(0, .ref h), (1, .long (lI bz)), (3, .int (zI how)), (4, .int (zI p1)), (5, .int (zI wd)), (6, .int (zI fl))] := hl
  refine lv_iload_n S.1 S.2.1 dX3_make_0 rfl (lv_at hl 2 rfl) ?_
  refine z_if_lt (tgt := 53) S dX3_make_1 (by decide) (by omega) (fun h1 => ?_) (fun h1 => ?_)
  · skip
    exact lab53 (by unfold okF; omega) _ _ _ w (lv_sub hl [0] rfl)
  · skip
    refine lv_iload_n S.1 S.2.1 dX3_make_4 rfl (lv_at hl 2 rfl) ?_
    refine z_iconst S dX3_make_5 ?_
    refine z_icmp_gt (tgt := 53) S dX3_make_6 (by decide) (by omega) (by omega) (fun h6 => ?_) (fun h6 => ?_)
    · skip
      exact lab53 (by unfold okF; omega) _ _ _ w (lv_sub hl [0] rfl)
    · skip
      refine lv_iload S.1 S.2.1 dX3_make_9 (lv_at hl 3 rfl) ?_
      refine z_if_lt (tgt := 53) S dX3_make_11 (by decide) (by omega) (fun h11 => ?_) (fun h11 => ?_)
      · skip
        exact lab53 (by unfold okF; omega) _ _ _ w (lv_sub hl [0] rfl)
      · skip
        refine lv_iload S.1 S.2.1 dX3_make_14 (lv_at hl 3 rfl) ?_
        refine z_bipush S dX3_make_16 (by decide +kernel) ?_
        refine z_icmp_gt (tgt := 53) S dX3_make_18 (by decide) (by omega) (by omega) (fun h18 => ?_) (fun h18 => ?_)
        · skip
          exact lab53 (by unfold okF; omega) _ _ _ w (lv_sub hl [0] rfl)
        · skip
          refine lv_iload S.1 S.2.1 dX3_make_21 (lv_at hl 4 rfl) ?_
          refine z_if_lt (tgt := 53) S dX3_make_23 (by decide) (by omega) (fun h23 => ?_) (fun h23 => ?_)
          · skip
            exact lab53 (by unfold okF; omega) _ _ _ w (lv_sub hl [0] rfl)
          · skip
            refine lv_iload S.1 S.2.1 dX3_make_26 (lv_at hl 4 rfl) ?_
            refine z_sipush S dX3_make_28 (by decide +kernel) ?_
            refine z_icmp_gt (tgt := 53) S dX3_make_31 (by decide) (by omega) (by omega) (fun h31 => ?_) (fun h31 => ?_)
            · skip
              exact lab53 (by unfold okF; omega) _ _ _ w (lv_sub hl [0] rfl)
            · skip
              refine lv_iload S.1 S.2.1 dX3_make_34 (lv_at hl 5 rfl) ?_
              refine z_if_lt (tgt := 53) S dX3_make_36 (by decide) (by omega) (fun h36 => ?_) (fun h36 => ?_)
              · skip
                exact lab53 (by unfold okF; omega) _ _ _ w (lv_sub hl [0] rfl)
              · skip
                refine lv_iload S.1 S.2.1 dX3_make_39 (lv_at hl 5 rfl) ?_
                refine z_bipush S dX3_make_41 (by decide +kernel) ?_
                refine z_icmp_gt (tgt := 53) S dX3_make_43 (by decide) (by omega) (by omega) (fun h43 => ?_) (fun h43 => ?_)
                · skip
                  exact lab53 (by unfold okF; omega) _ _ _ w (lv_sub hl [0] rfl)
                · skip
                  refine lv_lload_n S.1 S.2.1 dX3_make_46 rfl (lv_at hl 1 rfl) ?_
                  refine z_calliS (n := 1) (As := [.long (lI bz)]) (rest := []) (wr := [(h, .inr (3, [.ref hb, .int (zI n), .int (zI P), .ref ht, .int (zI len)])), (hb, .inl (cB, 1200, .inl (zA r))), (ht, .inl (cT, 420, .inl (zA tx)))]) (wn := (fun (u : Unit) => [(h, .inr (3, [.ref hb, .int (zI n), .int (zI P), .ref ht, .int (zI len)])), (hb, .inl (cB, 1200, .inl (zA r))), (ht, .inl (cT, 420, .inl (zA tx)))])) S w (c_X3_none l D bz (by omega)) gX3_make_X3_none (by decide +kernel) rfl ⟨rfl, rfl⟩ ⟨Nat.le_of_ble_eq_true rfl, Nat.le_of_ble_eq_true rfl⟩ [] [] [0, 1, 2] [0, 1, 2] rfl rfl rfl rfl rfl (by decide) (fun u => rfl) rfl rfl hl.1 (Nat.le_of_ble_eq_true rfl) ⟨Nat.le_of_ble_eq_true rfl, Nat.le_of_ble_eq_true rfl⟩ rfl dX3_make_47 (fun z47 _ H locs p47 w => ?_)
                  have p47 : (z47 = 1 ∧ (xE bz = 2047 ∧ bz % 4503599627370496 ≠ 0)) ∨ (z47 = 0 ∧ ¬ (xE bz = 2047 ∧ bz % 4503599627370496 ≠ 0)) := p47
                  have w : zW D _ _ s [(h, .inr (3, [.ref hb, .int (zI n), .int (zI P), .ref ht, .int (zI len)])), (hb, .inl (cB, 1200, .inl (zA r))), (ht, .inl (cT, 420, .inl (zA tx)))] H locs := w
                  refine z_if_eq (tgt := 55) S dX3_make_50 (by decide) (by omega) (fun h50 => ?_) (fun h50 => ?_)
                  · skip
                    have hok : okF bz how p1 wd fl := by unfold okF; omega
                    refine lv_aload_n S.1 S.2.1 dX3_make_55 rfl (lv_at hl 0 rfl) ?_
                    refine z_iconst S dX3_make_56 ?_
                    refine z_put (ci := 3) (C := RX3) (T := TX3) (N := 5) S w 0 rfl rfl in_X3_make_X3 tyX3_ok nmX3 4 (by decide) ln_X3_make_43 rfl rfl rfl rfl (Nat.le_of_ble_eq_true rfl) dX3_make_57 (fun H locs w => ?_)
                    have w : zW D _ _ s [(h, .inr (3, [.ref hb, .int (zI n), .int (zI P), .ref ht, .int (zI 0)])), (hb, .inl (cB, 1200, .inl (zA r))), (ht, .inl (cT, 420, .inl (zA tx)))] H locs := w
                    refine lv_lload_n S.1 S.2.1 dX3_make_60 rfl (lv_at hl 1 rfl) ?_
                    refine z_lconst (z := 0) S dX3_make_61 (by decide +kernel) ?_
                    refine z_lcmp S dX3_make_62 (by omega) (by omega) (fun c62 hc62 => ?_)
                    refine z_if_ge (tgt := 71) S dX3_make_63 (by decide) (by omega) (fun h63 => ?_) (fun h63 => ?_)
                    · skip
                      refine lv_iload S.1 S.2.1 dX3_make_71 (lv_at hl 5 rfl) ?_
                      refine z_iconst S dX3_make_73 ?_
                      refine z_iand S dX3_make_74 (v := (2 * (fl / 2 % 2))) (zI_flag (by omega) (by decide)) ?_
                      refine z_if_eq (tgt := 83) S dX3_make_75 (by decide) (by omega) (fun h75 => ?_) (fun h75 => ?_)
                      · skip
                        refine lv_iload S.1 S.2.1 dX3_make_83 (lv_at hl 5 rfl) ?_
                        refine z_iconst S dX3_make_85 ?_
                        refine z_iand S dX3_make_86 (v := (4 * (fl / 4 % 2))) (zI_flag (by omega) (by decide)) ?_
                        refine z_if_eq (tgt := 95) S dX3_make_87 (by decide) (by omega) (fun h87 => ?_) (fun h87 => ?_)
                        · skip
                          refine z_iconst S dX3_make_95 ?_
                          refine lv_istore (lv' := [(7, .int (zI 0)), (0, .ref h), (1, .long (lI bz)), (3, .int (zI how)), (4, .int (zI p1)), (5, .int (zI wd)), (6, .int (zI fl))]) S.1 S.2.1 dX3_make_96 hl (by decide) rfl (fun ls hl => ?_)
                          have k7_ : ((0 : Int) = 0 ∧ sgT bz fl = []) ∨ ((0 : Int) ≠ 0 ∧ sgT bz fl = [(0 : Int)]) := by
                            unfold sgT
                            first
                              | (rw [if_pos (show bz < 0 by omega)]; exact Or.inr ⟨by omega, rfl⟩)
                              | (rw [if_neg (show ¬ bz < 0 by omega), if_pos (show fl / 2 % 2 = 1 by omega)]; exact Or.inr ⟨by omega, rfl⟩)
                              | (rw [if_neg (show ¬ bz < 0 by omega), if_neg (show ¬ fl / 2 % 2 = 1 by omega), if_pos (show fl / 4 % 2 = 1 by omega)]; exact Or.inr ⟨by omega, rfl⟩)
                              | (rw [if_neg (show ¬ bz < 0 by omega), if_neg (show ¬ fl / 2 % 2 = 1 by omega), if_neg (show ¬ fl / 4 % 2 = 1 by omega)]; exact Or.inl ⟨rfl, rfl⟩)
                          exact lab98 0 hok k7_ (by omega) _ _ _ w (lv_sub hl [1, 2, 3, 4, 5, 6, 0] rfl)
                        · skip
                          refine z_bipush S dX3_make_90 (by decide +kernel) ?_
                          refine lv_goto (tgt := 96) S.1 S.2.1 dX3_make_92 (by decide) ?_
                          refine lv_istore (lv' := [(7, .int (zI 32)), (0, .ref h), (1, .long (lI bz)), (3, .int (zI how)), (4, .int (zI p1)), (5, .int (zI wd)), (6, .int (zI fl))]) S.1 S.2.1 dX3_make_96 hl (by decide) rfl (fun ls hl => ?_)
                          have k8_ : ((32 : Int) = 0 ∧ sgT bz fl = []) ∨ ((32 : Int) ≠ 0 ∧ sgT bz fl = [(32 : Int)]) := by
                            unfold sgT
                            first
                              | (rw [if_pos (show bz < 0 by omega)]; exact Or.inr ⟨by omega, rfl⟩)
                              | (rw [if_neg (show ¬ bz < 0 by omega), if_pos (show fl / 2 % 2 = 1 by omega)]; exact Or.inr ⟨by omega, rfl⟩)
                              | (rw [if_neg (show ¬ bz < 0 by omega), if_neg (show ¬ fl / 2 % 2 = 1 by omega), if_pos (show fl / 4 % 2 = 1 by omega)]; exact Or.inr ⟨by omega, rfl⟩)
                              | (rw [if_neg (show ¬ bz < 0 by omega), if_neg (show ¬ fl / 2 % 2 = 1 by omega), if_neg (show ¬ fl / 4 % 2 = 1 by omega)]; exact Or.inl ⟨rfl, rfl⟩)
                          exact lab98 32 hok k8_ (by omega) _ _ _ w (lv_sub hl [1, 2, 3, 4, 5, 6, 0] rfl)
                      · skip
                        refine z_bipush S dX3_make_78 (by decide +kernel) ?_
                        refine lv_goto (tgt := 96) S.1 S.2.1 dX3_make_80 (by decide) ?_
                        refine lv_istore (lv' := [(7, .int (zI 43)), (0, .ref h), (1, .long (lI bz)), (3, .int (zI how)), (4, .int (zI p1)), (5, .int (zI wd)), (6, .int (zI fl))]) S.1 S.2.1 dX3_make_96 hl (by decide) rfl (fun ls hl => ?_)
                        have k9_ : ((43 : Int) = 0 ∧ sgT bz fl = []) ∨ ((43 : Int) ≠ 0 ∧ sgT bz fl = [(43 : Int)]) := by
                          unfold sgT
                          first
                            | (rw [if_pos (show bz < 0 by omega)]; exact Or.inr ⟨by omega, rfl⟩)
                            | (rw [if_neg (show ¬ bz < 0 by omega), if_pos (show fl / 2 % 2 = 1 by omega)]; exact Or.inr ⟨by omega, rfl⟩)
                            | (rw [if_neg (show ¬ bz < 0 by omega), if_neg (show ¬ fl / 2 % 2 = 1 by omega), if_pos (show fl / 4 % 2 = 1 by omega)]; exact Or.inr ⟨by omega, rfl⟩)
                            | (rw [if_neg (show ¬ bz < 0 by omega), if_neg (show ¬ fl / 2 % 2 = 1 by omega), if_neg (show ¬ fl / 4 % 2 = 1 by omega)]; exact Or.inl ⟨rfl, rfl⟩)
                        exact lab98 43 hok k9_ (by omega) _ _ _ w (lv_sub hl [1, 2, 3, 4, 5, 6, 0] rfl)
                    · skip
                      refine z_bipush S dX3_make_66 (by decide +kernel) ?_
                      refine lv_goto (tgt := 96) S.1 S.2.1 dX3_make_68 (by decide) ?_
                      refine lv_istore (lv' := [(7, .int (zI 45)), (0, .ref h), (1, .long (lI bz)), (3, .int (zI how)), (4, .int (zI p1)), (5, .int (zI wd)), (6, .int (zI fl))]) S.1 S.2.1 dX3_make_96 hl (by decide) rfl (fun ls hl => ?_)
                      have k10_ : ((45 : Int) = 0 ∧ sgT bz fl = []) ∨ ((45 : Int) ≠ 0 ∧ sgT bz fl = [(45 : Int)]) := by
                        unfold sgT
                        first
                          | (rw [if_pos (show bz < 0 by omega)]; exact Or.inr ⟨by omega, rfl⟩)
                          | (rw [if_neg (show ¬ bz < 0 by omega), if_pos (show fl / 2 % 2 = 1 by omega)]; exact Or.inr ⟨by omega, rfl⟩)
                          | (rw [if_neg (show ¬ bz < 0 by omega), if_neg (show ¬ fl / 2 % 2 = 1 by omega), if_pos (show fl / 4 % 2 = 1 by omega)]; exact Or.inr ⟨by omega, rfl⟩)
                          | (rw [if_neg (show ¬ bz < 0 by omega), if_neg (show ¬ fl / 2 % 2 = 1 by omega), if_neg (show ¬ fl / 4 % 2 = 1 by omega)]; exact Or.inl ⟨rfl, rfl⟩)
                      exact lab98 45 hok k10_ (by omega) _ _ _ w (lv_sub hl [1, 2, 3, 4, 5, 6, 0] rfl)
                  · skip
                    exact lab53 (by unfold okF; omega) _ _ _ w (lv_sub hl [0] rfl)
