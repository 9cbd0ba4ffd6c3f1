set_option maxRecDepth 20000 in
theorem ml_X0_init_3 : Cond.methodLink RX0 3 objectInit ∈ wsX0_init := by decide +kernel
set_option maxRecDepth 20000 in
theorem im_X0_init_obj : Cond.instanceMethod objectInit ∈ wsX0_init := by decide +kernel
set_option maxRecDepth 20000 in
theorem co_X0_init_obj : Cond.code objectInit ⟨#[0xb1]⟩ 1 none ∈ wsX0_init := by decide +kernel
set_option maxRecDepth 20000 in
theorem ac_X0_init_char : Cond.arrayClass .char ∈ wsX0_init := by decide +kernel
set_option maxRecDepth 20000 in
theorem ln_X0_init_9 : Cond.fieldLink RX0 9 "DecimalText$Line" "codes" "[C" ∈ wsX0_init := by decide +kernel
theorem in_X0_init_X0 : ∀ w ∈ u_ws RX0 TX0 2, w ∈ wsX0_init := by decide +kernel
set_option maxRecDepth 20000 in
theorem ln_X0_init_15 : Cond.fieldLink RX0 15 "DecimalText$Line" "length" "I" ∈ wsX0_init := by decide +kernel
set_option maxHeartbeats 4000000 in
set_option maxRecDepth 100000 in
theorem c_X0_init (l : Launch) (D : va_G) (h : Nat) : zMk (T := Nat × ClassId) l yX0_init wsX0_init ({ frames := 1, cells := 1, slots := 400, locals := 12 } : Room) D [.ref h] [(h, .inr (0, [.null, .int (zI 0)]))] (fun (_ : Nat × ClassId) => True) (fun (u : Nat × ClassId) => [(h, .inr (0, [.ref u.1, .int (zI 0)])), (u.1, .inl (u.2, 400, .inl (zA (fun _ => 0))))]) (fun (u : Nat × ClassId) => [(u.2, .char)]) 1 400 := by
  refine zMk.of (bytes := cX0_init) (nL := 1) (own := RX0) (by decide) rfl rfl (Nat.le_of_ble_eq_true rfl) ?_
  intro p e s m below meth c ls S hr hlk hnm w hl
  have hl : lv_has ls 1 [(0, .ref h)] := hl
  refine lv_aload_n S.1 S.2.1 dX0_init_0 rfl (lv_at hl 0 rfl) ?_
  refine W.objInit S.1 S.2.1 S.2.2.2.1 (S.2.2.2.2 _ ml_X0_init_3) (S.2.2.2.2 _ im_X0_init_obj) (S.2.2.2.2 _ co_X0_init_obj) rfl (by rw [S.2.2.1]; exact hl.1) rfl dX0_init_1 (Nat.le_of_ble_eq_true rfl) (Nat.le_of_ble_eq_true rfl) ?_
  refine W.eq (g2 := F0 m 4 ls []) rfl ?_
  refine lv_aload_n S.1 S.2.1 dX0_init_4 rfl (lv_at hl 0 rfl) ?_
  refine z_sipush S dX0_init_5 (by decide +kernel) ?_
  refine z_newa (N := 400) S w ac_X0_init_char rfl (fun _ => rfl) rfl (by decide) (by decide) (Nat.le_of_ble_eq_true rfl) (Nat.le_of_ble_eq_true rfl) dX0_init_8 (fun q8 cA8 H w => ?_)
  have w : zW D _ _ s [(h, .inr (0, [.null, .int (zI 0)])), (q8, .inl (cA8, 400, .inl (zA (fun _ => 0))))] H _ := w
  refine z_putF (ci := 0) (C := RX0) (T := TX0) (N := 2) S w 0 rfl rfl in_X0_init_X0 tyX0_ok nmX0 0 (by decide) ln_X0_init_9 rfl rfl hnm rfl rfl rfl (Nat.le_of_ble_eq_true rfl) dX0_init_10 (fun H locs w => ?_)
  have w : zW D _ _ s [(h, .inr (0, [.ref q8, .int (zI 0)])), (q8, .inl (cA8, 400, .inl (zA (fun _ => 0))))] H locs := w
  refine lv_aload_n S.1 S.2.1 dX0_init_13 rfl (lv_at hl 0 rfl) ?_
  refine z_iconst S dX0_init_14 ?_
  refine z_put (ci := 0) (C := RX0) (T := TX0) (N := 2) S w 0 rfl rfl in_X0_init_X0 tyX0_ok nmX0 1 (by decide) ln_X0_init_15 rfl rfl rfl rfl (Nat.le_of_ble_eq_true rfl) dX0_init_15 (fun H locs w => ?_)
  have w : zW D _ _ s [(h, .inr (0, [.ref q8, .int (zI 0)])), (q8, .inl (cA8, 400, .inl (zA (fun _ => 0))))] H locs := w
  exact z_kret S hr hlk w (q8, cA8) trivial rfl rfl dX0_init_18

set_option maxRecDepth 20000 in
theorem ml_X1_init_5 : Cond.methodLink RX1 5 objectInit ∈ wsX1_init := by decide +kernel
set_option maxRecDepth 20000 in
theorem im_X1_init_obj : Cond.instanceMethod objectInit ∈ wsX1_init := by decide +kernel
set_option maxRecDepth 20000 in
theorem co_X1_init_obj : Cond.code objectInit ⟨#[0xb1]⟩ 1 none ∈ wsX1_init := by decide +kernel
set_option maxRecDepth 20000 in
theorem ac_X1_init_int : Cond.arrayClass .int ∈ wsX1_init := by decide +kernel
set_option maxRecDepth 20000 in
theorem ln_X1_init_11 : Cond.fieldLink RX1 11 "DecimalText$Worth" "limbs" "[I" ∈ wsX1_init := by decide +kernel
theorem in_X1_init_X1 : ∀ w ∈ u_ws RX1 TX1 5, w ∈ wsX1_init := by decide +kernel
set_option maxRecDepth 20000 in
theorem ln_X1_init_15 : Cond.fieldLink RX1 15 "DecimalText$Worth" "limbCount" "I" ∈ wsX1_init := by decide +kernel
set_option maxRecDepth 20000 in
theorem ln_X1_init_19 : Cond.fieldLink RX1 19 "DecimalText$Worth" "row" "[I" ∈ wsX1_init := by decide +kernel
set_option maxRecDepth 20000 in
theorem ln_X1_init_22 : Cond.fieldLink RX1 22 "DecimalText$Worth" "count" "I" ∈ wsX1_init := by decide +kernel
set_option maxRecDepth 20000 in
theorem ln_X1_init_25 : Cond.fieldLink RX1 25 "DecimalText$Worth" "decimals" "I" ∈ wsX1_init := by decide +kernel
set_option maxHeartbeats 4000000 in
set_option maxRecDepth 100000 in
theorem c_X1_init (l : Launch) (D : va_G) (h : Nat) : zMk (T := Nat × Nat × ClassId × ClassId) l yX1_init wsX1_init ({ frames := 1, cells := 2, slots := 860, locals := 12 } : Room) D [.ref h] [(h, .inr (1, [.null, .int (zI 0), .null, .int (zI 0), .int (zI 0)]))] (fun (_ : Nat × Nat × ClassId × ClassId) => True) (fun (u : Nat × Nat × ClassId × ClassId) => [(h, .inr (1, [.ref u.1, .int (zI 0), .ref u.2.1, .int (zI 0), .int (zI 0)])), (u.1, .inl (u.2.2.1, 86, .inl (zA (fun _ => 0)))), (u.2.1, .inl (u.2.2.2, 774, .inl (zA (fun _ => 0))))]) (fun (u : Nat × Nat × ClassId × ClassId) => [(u.2.2.1, .int), (u.2.2.2, .int)]) 2 860 := by
  refine zMk.of (bytes := cX1_init) (nL := 1) (own := RX1) (by decide) rfl rfl (Nat.le_of_ble_eq_true rfl) ?_
  intro p e s m below meth c ls S hr hlk hnm w hl
  have hl : lv_has ls 1 [(0, .ref h)] := hl
  refine lv_aload_n S.1 S.2.1 dX1_init_0 rfl (lv_at hl 0 rfl) ?_
  refine W.objInit S.1 S.2.1 S.2.2.2.1 (S.2.2.2.2 _ ml_X1_init_5) (S.2.2.2.2 _ im_X1_init_obj) (S.2.2.2.2 _ co_X1_init_obj) rfl (by rw [S.2.2.1]; exact hl.1) rfl dX1_init_1 (Nat.le_of_ble_eq_true rfl) (Nat.le_of_ble_eq_true rfl) ?_
  refine W.eq (g2 := F0 m 4 ls []) rfl ?_
  refine lv_aload_n S.1 S.2.1 dX1_init_4 rfl (lv_at hl 0 rfl) ?_
  refine z_bipush S dX1_init_5 (by decide +kernel) ?_
  refine z_newa (N := 86) S w ac_X1_init_int rfl (fun _ => rfl) rfl (by decide) (by decide) (Nat.le_of_ble_eq_true rfl) (Nat.le_of_ble_eq_true rfl) dX1_init_7 (fun q7 cA7 H w => ?_)
  have w : zW D _ _ s [(h, .inr (1, [.null, .int (zI 0), .null, .int (zI 0), .int (zI 0)])), (q7, .inl (cA7, 86, .inl (zA (fun _ => 0))))] H _ := w
  refine z_putF (ci := 1) (C := RX1) (T := TX1) (N := 5) S w 0 rfl rfl in_X1_init_X1 tyX1_ok nmX1 0 (by decide) ln_X1_init_11 rfl rfl hnm rfl rfl rfl (Nat.le_of_ble_eq_true rfl) dX1_init_9 (fun H locs w => ?_)
  have w : zW D _ _ s [(h, .inr (1, [.ref q7, .int (zI 0), .null, .int (zI 0), .int (zI 0)])), (q7, .inl (cA7, 86, .inl (zA (fun _ => 0))))] H locs := w
  refine lv_aload_n S.1 S.2.1 dX1_init_12 rfl (lv_at hl 0 rfl) ?_
  refine z_iconst S dX1_init_13 ?_
  refine z_put (ci := 1) (C := RX1) (T := TX1) (N := 5) S w 0 rfl rfl in_X1_init_X1 tyX1_ok nmX1 1 (by decide) ln_X1_init_15 rfl rfl rfl rfl (Nat.le_of_ble_eq_true rfl) dX1_init_14 (fun H locs w => ?_)
  have w : zW D _ _ s [(h, .inr (1, [.ref q7, .int (zI 0), .null, .int (zI 0), .int (zI 0)])), (q7, .inl (cA7, 86, .inl (zA (fun _ => 0))))] H locs := w
  refine lv_aload_n S.1 S.2.1 dX1_init_17 rfl (lv_at hl 0 rfl) ?_
  refine z_sipush S dX1_init_18 (by decide +kernel) ?_
  refine z_newa (N := 774) S w ac_X1_init_int rfl (fun _ => rfl) rfl (by decide) (by decide) (Nat.le_of_ble_eq_true rfl) (Nat.le_of_ble_eq_true rfl) dX1_init_21 (fun q21 cA21 H w => ?_)
  have w : zW D _ _ s [(h, .inr (1, [.ref q7, .int (zI 0), .null, .int (zI 0), .int (zI 0)])), (q7, .inl (cA7, 86, .inl (zA (fun _ => 0)))), (q21, .inl (cA21, 774, .inl (zA (fun _ => 0))))] H _ := w
  refine z_putF (ci := 1) (C := RX1) (T := TX1) (N := 5) S w 0 rfl rfl in_X1_init_X1 tyX1_ok nmX1 2 (by decide) ln_X1_init_19 rfl rfl hnm rfl rfl rfl (Nat.le_of_ble_eq_true rfl) dX1_init_23 (fun H locs w => ?_)
  have w : zW D _ _ s [(h, .inr (1, [.ref q7, .int (zI 0), .ref q21, .int (zI 0), .int (zI 0)])), (q7, .inl (cA7, 86, .inl (zA (fun _ => 0)))), (q21, .inl (cA21, 774, .inl (zA (fun _ => 0))))] H locs := w
  refine lv_aload_n S.1 S.2.1 dX1_init_26 rfl (lv_at hl 0 rfl) ?_
  refine z_iconst S dX1_init_27 ?_
  refine z_put (ci := 1) (C := RX1) (T := TX1) (N := 5) S w 0 rfl rfl in_X1_init_X1 tyX1_ok nmX1 3 (by decide) ln_X1_init_22 rfl rfl rfl rfl (Nat.le_of_ble_eq_true rfl) dX1_init_28 (fun H locs w => ?_)
  have w : zW D _ _ s [(h, .inr (1, [.ref q7, .int (zI 0), .ref q21, .int (zI 0), .int (zI 0)])), (q7, .inl (cA7, 86, .inl (zA (fun _ => 0)))), (q21, .inl (cA21, 774, .inl (zA (fun _ => 0))))] H locs := w
  refine lv_aload_n S.1 S.2.1 dX1_init_31 rfl (lv_at hl 0 rfl) ?_
  refine z_iconst S dX1_init_32 ?_
  refine z_put (ci := 1) (C := RX1) (T := TX1) (N := 5) S w 0 rfl rfl in_X1_init_X1 tyX1_ok nmX1 4 (by decide) ln_X1_init_25 rfl rfl rfl rfl (Nat.le_of_ble_eq_true rfl) dX1_init_33 (fun H locs w => ?_)
  have w : zW D _ _ s [(h, .inr (1, [.ref q7, .int (zI 0), .ref q21, .int (zI 0), .int (zI 0)])), (q7, .inl (cA7, 86, .inl (zA (fun _ => 0)))), (q21, .inl (cA21, 774, .inl (zA (fun _ => 0))))] H locs := w
  exact z_kret S hr hlk w (q7, q21, cA7, cA21) trivial rfl rfl dX1_init_36

set_option maxRecDepth 20000 in
theorem ml_X3_init_1 : Cond.methodLink RX3 1 objectInit ∈ wsX3_init := by decide +kernel
set_option maxRecDepth 20000 in
theorem im_X3_init_obj : Cond.instanceMethod objectInit ∈ wsX3_init := by decide +kernel
set_option maxRecDepth 20000 in
theorem co_X3_init_obj : Cond.code objectInit ⟨#[0xb1]⟩ 1 none ∈ wsX3_init := by decide +kernel
set_option maxRecDepth 20000 in
theorem ac_X3_init_byte : Cond.arrayClass .byte ∈ wsX3_init := by decide +kernel
set_option maxRecDepth 20000 in
theorem ln_X3_init_7 : Cond.fieldLink RX3 7 "DecimalTextModel" "row" "[B" ∈ wsX3_init := by decide +kernel
theorem in_X3_init_X3 : ∀ w ∈ u_ws RX3 TX3 5, w ∈ wsX3_init := by decide +kernel
set_option maxRecDepth 20000 in
theorem ac_X3_init_int : Cond.arrayClass .int ∈ wsX3_init := by decide +kernel
set_option maxRecDepth 20000 in
theorem ln_X3_init_13 : Cond.fieldLink RX3 13 "DecimalTextModel" "text" "[I" ∈ wsX3_init := by decide +kernel
set_option maxHeartbeats 4000000 in
set_option maxRecDepth 100000 in
theorem c_X3_init (l : Launch) (D : va_G) (h : Nat) : zMk (T := Nat × Nat × ClassId × ClassId) l yX3_init wsX3_init ({ frames := 1, cells := 2, slots := 1620, locals := 12 } : Room) D [.ref h] [(h, .inr (3, [.null, .int (zI 0), .int (zI 0), .null, .int (zI 0)]))] (fun (_ : Nat × Nat × ClassId × ClassId) => True) (fun (u : Nat × Nat × ClassId × ClassId) => [(h, .inr (3, [.ref u.1, .int (zI 0), .int (zI 0), .ref u.2.1, .int (zI 0)])), (u.1, .inl (u.2.2.1, 1200, .inl (zA (fun _ => 0)))), (u.2.1, .inl (u.2.2.2, 420, .inl (zA (fun _ => 0))))]) (fun (u : Nat × Nat × ClassId × ClassId) => [(u.2.2.1, .byte), (u.2.2.2, .int)]) 2 1620 := by
  refine zMk.of (bytes := cX3_init) (nL := 1) (own := RX3) (by decide) rfl rfl (Nat.le_of_ble_eq_true rfl) ?_
  intro p e s m below meth c ls S hr hlk hnm w hl
  have hl : lv_has ls 1 [(0, .ref h)] := hl
  refine lv_aload_n S.1 S.2.1 dX3_init_0 rfl (lv_at hl 0 rfl) ?_
  refine W.objInit S.1 S.2.1 S.2.2.2.1 (S.2.2.2.2 _ ml_X3_init_1) (S.2.2.2.2 _ im_X3_init_obj) (S.2.2.2.2 _ co_X3_init_obj) rfl (by rw [S.2.2.1]; exact hl.1) rfl dX3_init_1 (Nat.le_of_ble_eq_true rfl) (Nat.le_of_ble_eq_true rfl) ?_
  refine W.eq (g2 := F0 m 4 ls []) rfl ?_
  refine lv_aload_n S.1 S.2.1 dX3_init_4 rfl (lv_at hl 0 rfl) ?_
  refine z_sipush S dX3_init_5 (by decide +kernel) ?_
  refine z_newa (N := 1200) S w ac_X3_init_byte rfl (fun _ => rfl) rfl (by decide) (by decide) (Nat.le_of_ble_eq_true rfl) (Nat.le_of_ble_eq_true rfl) dX3_init_8 (fun q8 cA8 H w => ?_)
  have w : zW D _ _ s [(h, .inr (3, [.null, .int (zI 0), .int (zI 0), .null, .int (zI 0)])), (q8, .inl (cA8, 1200, .inl (zA (fun _ => 0))))] H _ := w
  refine z_putF (ci := 3) (C := RX3) (T := TX3) (N := 5) S w 0 rfl rfl in_X3_init_X3 tyX3_ok nmX3 0 (by decide) ln_X3_init_7 rfl rfl hnm rfl rfl rfl (Nat.le_of_ble_eq_true rfl) dX3_init_10 (fun H locs w => ?_)
  have w : zW D _ _ s [(h, .inr (3, [.ref q8, .int (zI 0), .int (zI 0), .null, .int (zI 0)])), (q8, .inl (cA8, 1200, .inl (zA (fun _ => 0))))] H locs := w
  refine lv_aload_n S.1 S.2.1 dX3_init_13 rfl (lv_at hl 0 rfl) ?_
  refine z_sipush S dX3_init_14 (by decide +kernel) ?_
  refine z_newa (N := 420) S w ac_X3_init_int rfl (fun _ => rfl) rfl (by decide) (by decide) (Nat.le_of_ble_eq_true rfl) (Nat.le_of_ble_eq_true rfl) dX3_init_17 (fun q17 cA17 H w => ?_)
  have w : zW D _ _ s [(h, .inr (3, [.ref q8, .int (zI 0), .int (zI 0), .null, .int (zI 0)])), (q8, .inl (cA8, 1200, .inl (zA (fun _ => 0)))), (q17, .inl (cA17, 420, .inl (zA (fun _ => 0))))] H _ := w
  refine z_putF (ci := 3) (C := RX3) (T := TX3) (N := 5) S w 0 rfl rfl in_X3_init_X3 tyX3_ok nmX3 3 (by decide) ln_X3_init_13 rfl rfl hnm rfl rfl rfl (Nat.le_of_ble_eq_true rfl) dX3_init_19 (fun H locs w => ?_)
  have w : zW D _ _ s [(h, .inr (3, [.ref q8, .int (zI 0), .int (zI 0), .ref q17, .int (zI 0)])), (q8, .inl (cA8, 1200, .inl (zA (fun _ => 0)))), (q17, .inl (cA17, 420, .inl (zA (fun _ => 0))))] H locs := w
  exact z_kret S hr hlk w (q8, q17, cA8, cA17) trivial rfl rfl dX3_init_22

set_option maxRecDepth 20000 in
theorem ml_X2_init_3 : Cond.methodLink RX2 3 objectInit ∈ wsX2_init := by decide +kernel
set_option maxRecDepth 20000 in
theorem im_X2_init_obj : Cond.instanceMethod objectInit ∈ wsX2_init := by decide +kernel
set_option maxRecDepth 20000 in
theorem co_X2_init_obj : Cond.code objectInit ⟨#[0xb1]⟩ 1 none ∈ wsX2_init := by decide +kernel
set_option maxRecDepth 20000 in
theorem cl_X2_init_9 : Cond.classLink RX2 9 RX1 ∈ wsX2_init := by decide +kernel
set_option maxRecDepth 20000 in
theorem nst_X2_init_X1 : Cond.instantiable RX1 5 ∈ wsX2_init := by decide +kernel
set_option maxRecDepth 20000 in
theorem ini_X2_init_RX1 : Cond.initialized RX1 ∈ wsX2_init := by decide +kernel
theorem in_X2_init_X1 : ∀ w ∈ u_ws RX1 TX1 5, w ∈ wsX2_init := by decide +kernel
set_option maxRecDepth 20000 in
theorem ml_X2_init_11 : Cond.methodLink RX2 11 yX1_init ∈ wsX2_init := by decide +kernel
set_option maxRecDepth 20000 in
theorem im_X2_init_X1_init : Cond.instanceMethod yX1_init ∈ wsX2_init := by decide +kernel
set_option maxRecDepth 20000 in
theorem ln_X2_init_12 : Cond.fieldLink RX2 12 "DecimalText" "worth" "LDecimalText$Worth;" ∈ wsX2_init := by decide +kernel
theorem in_X2_init_X2 : ∀ w ∈ u_ws RX2 TX2 2, w ∈ wsX2_init := by decide +kernel
set_option maxRecDepth 20000 in
theorem cl_X2_init_16 : Cond.classLink RX2 16 RX0 ∈ wsX2_init := by decide +kernel
set_option maxRecDepth 20000 in
theorem nst_X2_init_X0 : Cond.instantiable RX0 2 ∈ wsX2_init := by decide +kernel
set_option maxRecDepth 20000 in
theorem ini_X2_init_RX0 : Cond.initialized RX0 ∈ wsX2_init := by decide +kernel
theorem in_X2_init_X0 : ∀ w ∈ u_ws RX0 TX0 2, w ∈ wsX2_init := by decide +kernel
set_option maxRecDepth 20000 in
theorem ml_X2_init_18 : Cond.methodLink RX2 18 yX0_init ∈ wsX2_init := by decide +kernel
set_option maxRecDepth 20000 in
theorem im_X2_init_X0_init : Cond.instanceMethod yX0_init ∈ wsX2_init := by decide +kernel
set_option maxRecDepth 20000 in
theorem ln_X2_init_19 : Cond.fieldLink RX2 19 "DecimalText" "line" "LDecimalText$Line;" ∈ wsX2_init := by decide +kernel
set_option maxHeartbeats 4000000 in
set_option maxRecDepth 100000 in
theorem c_X2_init (l : Launch) (D : va_G) (h : Nat) : zMk (T := Nat × Nat × Nat × Nat × Nat × ClassId × ClassId × ClassId) l yX2_init wsX2_init ({ frames := 2, cells := 5, slots := 1267, locals := 32 } : Room) D [.ref h] [(h, .inr (2, [.null, .null]))] (fun (_ : Nat × Nat × Nat × Nat × Nat × ClassId × ClassId × ClassId) => True) (fun (u : Nat × Nat × Nat × Nat × Nat × ClassId × ClassId × ClassId) => [(h, .inr (2, [.ref u.1, .ref u.2.2.2.1])), (u.1, .inr (1, [.ref u.2.1, .int (zI 0), .ref u.2.2.1, .int (zI 0), .int (zI 0)])), (u.2.1, .inl (u.2.2.2.2.2.1, 86, .inl (zA (fun _ => 0)))), (u.2.2.1, .inl (u.2.2.2.2.2.2.1, 774, .inl (zA (fun _ => 0)))), (u.2.2.2.1, .inr (0, [.ref u.2.2.2.2.1, .int (zI 0)])), (u.2.2.2.2.1, .inl (u.2.2.2.2.2.2.2, 400, .inl (zA (fun _ => 0))))]) (fun (u : Nat × Nat × Nat × Nat × Nat × ClassId × ClassId × ClassId) => [(u.2.2.2.2.2.1, .int), (u.2.2.2.2.2.2.1, .int), (u.2.2.2.2.2.2.2, .char)]) 5 1267 := by
  refine zMk.of (bytes := cX2_init) (nL := 1) (own := RX2) (by decide) rfl rfl (Nat.le_of_ble_eq_true rfl) ?_
  intro p e s m below meth c ls S hr hlk hnm w hl
  have hl : lv_has ls 1 [(0, .ref h)] := hl
  refine lv_aload_n S.1 S.2.1 dX2_init_0 rfl (lv_at hl 0 rfl) ?_
  refine W.objInit S.1 S.2.1 S.2.2.2.1 (S.2.2.2.2 _ ml_X2_init_3) (S.2.2.2.2 _ im_X2_init_obj) (S.2.2.2.2 _ co_X2_init_obj) rfl (by rw [S.2.2.1]; exact hl.1) rfl dX2_init_1 (Nat.le_of_ble_eq_true rfl) (Nat.le_of_ble_eq_true rfl) ?_
  refine W.eq (g2 := F0 m 4 ls []) rfl ?_
  refine lv_aload_n S.1 S.2.1 dX2_init_4 rfl (lv_at hl 0 rfl) ?_
  refine z_new (ci := 1) (fs := [.null, .int (zI 0), .null, .int (zI 0), .int (zI 0)]) (C := RX1) (TT := TX1) (N := 5) S w in_X2_init_X1 tyX1_ok cl_X2_init_9 nst_X2_init_X1 ini_X2_init_RX1 rfl (fun j hj => by rcases (show j = 0 ∨ j = 1 ∨ j = 2 ∨ j = 3 ∨ j = 4 by omega) with rfl | rfl | rfl | rfl | rfl <;> rfl) (Nat.le_of_ble_eq_true rfl) (Nat.le_of_ble_eq_true rfl) dX2_init_5 (fun o5 H w => ?_)
  have w : zW D _ _ s [(h, .inr (2, [.null, .null])), (o5, .inr (1, [.null, .int (zI 0), .null, .int (zI 0), .int (zI 0)]))] H _ := w
  refine lv_dup S.1 S.2.1 dX2_init_8 rfl ?_
  refine z_callK (n := 0) (As := []) (rest := [.ref o5, .ref h]) (wr := [(h, .inr (2, [.null, .null]))]) (wn := (fun (u : Nat × Nat × ClassId × ClassId) => [(h, .inr (2, [.null, .null])), (o5, .inr (1, [.ref u.1, .int (zI 0), .ref u.2.1, .int (zI 0), .int (zI 0)])), (u.1, .inl (u.2.2.1, 86, .inl (zA (fun _ => 0)))), (u.2.1, .inl (u.2.2.2, 774, .inl (zA (fun _ => 0))))])) S w (c_X1_init l D o5) gX2_init_X1_init ml_X2_init_11 im_X2_init_X1_init ini_X2_init_RX1 rfl (by decide +kernel) rfl ⟨rfl, rfl⟩ ⟨Nat.le_of_ble_eq_true rfl, Nat.le_of_ble_eq_true rfl⟩ [1] [0] [0, 1, 2, 3] rfl rfl rfl rfl (by decide) (fun u => rfl) rfl rfl hl.1 (Nat.le_of_ble_eq_true rfl) ⟨Nat.le_of_ble_eq_true rfl, Nat.le_of_ble_eq_true rfl⟩ rfl dX2_init_9 (fun u H locs _ w => ?_)
  obtain ⟨ha_9, hr1_9, cL_9, cR_9⟩ := u
  have w : zW D _ _ s [(h, .inr (2, [.null, .null])), (o5, .inr (1, [.ref ha_9, .int (zI 0), .ref hr1_9, .int (zI 0), .int (zI 0)])), (ha_9, .inl (cL_9, 86, .inl (zA (fun _ => 0)))), (hr1_9, .inl (cR_9, 774, .inl (zA (fun _ => 0))))] H locs := w
  refine z_putF (ci := 2) (C := RX2) (T := TX2) (N := 2) S w 0 rfl rfl in_X2_init_X2 tyX2_ok nmX2 0 (by decide) ln_X2_init_12 rfl rfl hnm rfl rfl rfl (Nat.le_of_ble_eq_true rfl) dX2_init_12 (fun H locs w => ?_)
  have w : zW D _ _ s [(h, .inr (2, [.ref o5, .null])), (o5, .inr (1, [.ref ha_9, .int (zI 0), .ref hr1_9, .int (zI 0), .int (zI 0)])), (ha_9, .inl (cL_9, 86, .inl (zA (fun _ => 0)))), (hr1_9, .inl (cR_9, 774, .inl (zA (fun _ => 0))))] H locs := w
  refine lv_aload_n S.1 S.2.1 dX2_init_15 rfl (lv_at hl 0 rfl) ?_
  refine z_new (ci := 0) (fs := [.null, .int (zI 0)]) (C := RX0) (TT := TX0) (N := 2) S w in_X2_init_X0 tyX0_ok cl_X2_init_16 nst_X2_init_X0 ini_X2_init_RX0 rfl (fun j hj => by rcases (show j = 0 ∨ j = 1 by omega) with rfl | rfl <;> rfl) (Nat.le_of_ble_eq_true rfl) (Nat.le_of_ble_eq_true rfl) dX2_init_16 (fun o16 H w => ?_)
  have w : zW D _ _ s [(h, .inr (2, [.ref o5, .null])), (o5, .inr (1, [.ref ha_9, .int (zI 0), .ref hr1_9, .int (zI 0), .int (zI 0)])), (ha_9, .inl (cL_9, 86, .inl (zA (fun _ => 0)))), (hr1_9, .inl (cR_9, 774, .inl (zA (fun _ => 0)))), (o16, .inr (0, [.null, .int (zI 0)]))] H _ := w
  refine lv_dup S.1 S.2.1 dX2_init_19 rfl ?_
  refine z_callK (n := 0) (As := []) (rest := [.ref o16, .ref h]) (wr := [(h, .inr (2, [.ref o5, .null])), (o5, .inr (1, [.ref ha_9, .int (zI 0), .ref hr1_9, .int (zI 0), .int (zI 0)])), (ha_9, .inl (cL_9, 86, .inl (zA (fun _ => 0)))), (hr1_9, .inl (cR_9, 774, .inl (zA (fun _ => 0))))]) (wn := (fun (u : Nat × ClassId) => [(h, .inr (2, [.ref o5, .null])), (o5, .inr (1, [.ref ha_9, .int (zI 0), .ref hr1_9, .int (zI 0), .int (zI 0)])), (ha_9, .inl (cL_9, 86, .inl (zA (fun _ => 0)))), (hr1_9, .inl (cR_9, 774, .inl (zA (fun _ => 0)))), (o16, .inr (0, [.ref u.1, .int (zI 0)])), (u.1, .inl (u.2, 400, .inl (zA (fun _ => 0))))])) S w (c_X0_init l D o16) gX2_init_X0_init ml_X2_init_18 im_X2_init_X0_init ini_X2_init_RX0 rfl (by decide +kernel) rfl ⟨rfl, rfl⟩ ⟨Nat.le_of_ble_eq_true rfl, Nat.le_of_ble_eq_true rfl⟩ [4] [0, 1, 2, 3] [0, 1, 2, 3, 4, 5] rfl rfl rfl rfl (by decide) (fun u => rfl) rfl rfl hl.1 (Nat.le_of_ble_eq_true rfl) ⟨Nat.le_of_ble_eq_true rfl, Nat.le_of_ble_eq_true rfl⟩ rfl dX2_init_20 (fun u H locs _ w => ?_)
  obtain ⟨hc_20, cC_20⟩ := u
  have w : zW D _ _ s [(h, .inr (2, [.ref o5, .null])), (o5, .inr (1, [.ref ha_9, .int (zI 0), .ref hr1_9, .int (zI 0), .int (zI 0)])), (ha_9, .inl (cL_9, 86, .inl (zA (fun _ => 0)))), (hr1_9, .inl (cR_9, 774, .inl (zA (fun _ => 0)))), (o16, .inr (0, [.ref hc_20, .int (zI 0)])), (hc_20, .inl (cC_20, 400, .inl (zA (fun _ => 0))))] H locs := w
  refine z_putF (ci := 2) (C := RX2) (T := TX2) (N := 2) S w 0 rfl rfl in_X2_init_X2 tyX2_ok nmX2 1 (by decide) ln_X2_init_19 rfl rfl hnm rfl rfl rfl (Nat.le_of_ble_eq_true rfl) dX2_init_23 (fun H locs w => ?_)
  have w : zW D _ _ s [(h, .inr (2, [.ref o5, .ref o16])), (o5, .inr (1, [.ref ha_9, .int (zI 0), .ref hr1_9, .int (zI 0), .int (zI 0)])), (ha_9, .inl (cL_9, 86, .inl (zA (fun _ => 0)))), (hr1_9, .inl (cR_9, 774, .inl (zA (fun _ => 0)))), (o16, .inr (0, [.ref hc_20, .int (zI 0)])), (hc_20, .inl (cC_20, 400, .inl (zA (fun _ => 0))))] H locs := w
  exact z_kret S hr hlk w (o5, ha_9, hr1_9, o16, hc_20, cL_9, cR_9, cC_20) trivial rfl rfl dX2_init_26
