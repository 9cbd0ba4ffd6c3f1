/-- a row of the class's codes: what it holds, and that its codes are such -/
def lRep (C : Nat → Int) (len : Int) (T : List Int) : Prop := tRep C len T ∧ ∀ j : Nat, (j : Int) < len → 0 ≤ C j ∧ C j ≤ 65535
theorem lRep_put' {C C' : Nat → Int} {len len' : Int} {T : List Int} {x : Int} (h : lRep C len T) (hx : 0 ≤ x ∧ x ≤ 65535) (hp : C' = zu C len.toNat x ∧ len' = len + 1) : lRep C' len' (T ++ [x]) := by
  have h0 := h.1.1
  refine ⟨tRep_put' h.1 hp, fun j hj => ?_⟩
  rw [hp.1]
  by_cases k : j = len.toNat
  · rw [k, zu_s]; exact hx
  · rw [zu_n _ _ k]; exact h.2 j (by omega)
theorem lRep_nil (C : Nat → Int) : lRep C 0 [] := ⟨tRep_nil C, fun j hj => by omega⟩

set_option maxHeartbeats 4000000 in
set_option maxRecDepth 100000 in
theorem c_X2_isWithin (l : Launch) (D : va_G) (a : Int) (b : Int) (ha : -2147483648 ≤ a ∧ a ≤ 2147483647) (hb : -2147483648 ≤ b ∧ b ≤ 2147483647) : zMi (T := Unit) l yX2_isWithin wsX2_isWithin ({ frames := 0, cells := 0, slots := 0, locals := 0 } : Room) D [] [.int (zI a), .int (zI b)] [] (fun (z : Int) (u : Unit) => (z = 1 ∧ 0 ≤ a ∧ a ≤ b) ∨ (z = 0 ∧ ¬ (0 ≤ a ∧ a ≤ b))) (fun (u : Unit) => []) 0 0 := by
  refine zMi.of (bytes := cX2_isWithin) (nL := 2) (own := RX2) (by decide) rfl rfl (Nat.le_of_ble_eq_true rfl) ?_
  intro p e s m below meth c ls S hr hlk hnm w hl
  have hl : lv_has ls 2 [(0, .int (zI a)), (1, .int (zI b))] := hl
  refine lv_iload_n S.1 S.2.1 dX2_isWithin_0 rfl (lv_at hl 0 rfl) ?_
  refine z_if_lt (tgt := 13) S dX2_isWithin_1 (by decide) (by omega) (fun h1 => ?_) (fun h1 => ?_)
  · skip
    refine z_iconst S dX2_isWithin_13 ?_
    have k1_ : ((0 : Int) = 1 ∧ 0 ≤ a ∧ a ≤ b) ∨ ((0 : Int) = 0 ∧ ¬ (0 ≤ a ∧ a ≤ b)) := by
      omega
    exact z_iret S hr hlk w zNar_b0 () k1_ rfl dX2_isWithin_14
  · skip
    refine lv_iload_n S.1 S.2.1 dX2_isWithin_4 rfl (lv_at hl 0 rfl) ?_
    refine lv_iload_n S.1 S.2.1 dX2_isWithin_5 rfl (lv_at hl 1 rfl) ?_
    refine z_icmp_gt (tgt := 13) S dX2_isWithin_6 (by decide) (by omega) (by omega) (fun h6 => ?_) (fun h6 => ?_)
    · skip
      refine z_iconst S dX2_isWithin_13 ?_
      have k2_ : ((0 : Int) = 1 ∧ 0 ≤ a ∧ a ≤ b) ∨ ((0 : Int) = 0 ∧ ¬ (0 ≤ a ∧ a ≤ b)) := by
        omega
      exact z_iret S hr hlk w zNar_b0 () k2_ rfl dX2_isWithin_14
    · skip
      refine z_iconst S dX2_isWithin_9 ?_
      refine lv_goto (tgt := 14) S.1 S.2.1 dX2_isWithin_10 (by decide) ?_
      have k3_ : ((1 : Int) = 1 ∧ 0 ≤ a ∧ a ≤ b) ∨ ((1 : Int) = 0 ∧ ¬ (0 ≤ a ∧ a ≤ b)) := by
        omega
      exact z_iret S hr hlk w zNar_b1 () k3_ rfl dX2_isWithin_14

set_option maxHeartbeats 4000000 in
set_option maxRecDepth 100000 in
theorem c_X2_isForm (l : Launch) (D : va_G) (how : Int) (p1 : Int) (wd : Int) (fl : Int) (h1 : -2147483648 ≤ how ∧ how ≤ 2147483647) (h2 : -2147483648 ≤ p1 ∧ p1 ≤ 2147483647) (h3 : -2147483648 ≤ wd ∧ wd ≤ 2147483647) (h4 : -2147483648 ≤ fl ∧ fl ≤ 2147483647) : zMi (T := Unit) l yX2_isForm wsX2_isForm ({ frames := 1, cells := 0, slots := 0, locals := 21 } : Room) D [] [.int (zI how), .int (zI p1), .int (zI wd), .int (zI fl)] [] (fun (z : Int) (u : Unit) => (z = 1 ∧ (0 ≤ how ∧ how ≤ 2) ∧ (0 ≤ p1 ∧ p1 ≤ 15) ∧ (0 ≤ wd ∧ wd ≤ 400) ∧ (0 ≤ fl ∧ fl ≤ 31)) ∨ (z = 0 ∧ ¬ ((0 ≤ how ∧ how ≤ 2) ∧ (0 ≤ p1 ∧ p1 ≤ 15) ∧ (0 ≤ wd ∧ wd ≤ 400) ∧ (0 ≤ fl ∧ fl ≤ 31)))) (fun (u : Unit) => []) 0 0 := by
  refine zMi.of (bytes := cX2_isForm) (nL := 4) (own := RX2) (by decide) rfl rfl (Nat.le_of_ble_eq_true rfl) ?_
  intro p e s m below meth c ls S hr hlk hnm w hl
  have hl : lv_has ls 4 [(0, .int (zI how)), (1, .int (zI p1)), (2, .int (zI wd)), (3, .int (zI fl))] := hl
  refine lv_iload_n S.1 S.2.1 dX2_isForm_0 rfl (lv_at hl 0 rfl) ?_
  refine z_iconst S dX2_isForm_1 ?_
  refine z_calliS (n := 2) (As := [.int (zI how), .int (zI 2)]) (rest := []) (wr := []) (wn := (fun (u : Unit) => [])) S w (c_X2_isWithin l D how 2 (by omega) (by omega)) gX2_isForm_X2_isWithin (by decide +kernel) rfl ⟨rfl, rfl⟩ ⟨Nat.le_of_ble_eq_true rfl, Nat.le_of_ble_eq_true rfl⟩ [] [] [] [] rfl rfl rfl rfl rfl (by decide) (fun u => rfl) rfl rfl hl.1 (Nat.le_of_ble_eq_true rfl) ⟨Nat.le_of_ble_eq_true rfl, Nat.le_of_ble_eq_true rfl⟩ rfl dX2_isForm_2 (fun z2 _ H locs p2 w => ?_)
  have p2 : (z2 = 1 ∧ 0 ≤ how ∧ how ≤ (2 : Int)) ∨ (z2 = 0 ∧ ¬ (0 ≤ how ∧ how ≤ (2 : Int))) := p2
  have w : zW D _ _ s [] H locs := w
  refine z_if_eq (tgt := 40) S dX2_isForm_5 (by decide) (by omega) (fun h5 => ?_) (fun h5 => ?_)
  · skip
    refine z_iconst S dX2_isForm_40 ?_
    have k1_ : ((0 : Int) = 1 ∧ (0 ≤ how ∧ how ≤ 2) ∧ (0 ≤ p1 ∧ p1 ≤ 15) ∧ (0 ≤ wd ∧ wd ≤ 400) ∧ (0 ≤ fl ∧ fl ≤ 31)) ∨ ((0 : Int) = 0 ∧ ¬ ((0 ≤ how ∧ how ≤ 2) ∧ (0 ≤ p1 ∧ p1 ≤ 15) ∧ (0 ≤ wd ∧ wd ≤ 400) ∧ (0 ≤ fl ∧ fl ≤ 31))) := by
      omega
    exact z_iret S hr hlk w zNar_b0 () k1_ rfl dX2_isForm_41
  · skip
    refine lv_iload_n S.1 S.2.1 dX2_isForm_8 rfl (lv_at hl 1 rfl) ?_
    refine z_bipush S dX2_isForm_9 (by decide +kernel) ?_
    refine z_calliS (n := 2) (As := [.int (zI p1), .int (zI 15)]) (rest := []) (wr := []) (wn := (fun (u : Unit) => [])) S w (c_X2_isWithin l D p1 15 (by omega) (by omega)) gX2_isForm_X2_isWithin (by decide +kernel) rfl ⟨rfl, rfl⟩ ⟨Nat.le_of_ble_eq_true rfl, Nat.le_of_ble_eq_true rfl⟩ [] [] [] [] rfl rfl rfl rfl rfl (by decide) (fun u => rfl) rfl rfl hl.1 (Nat.le_of_ble_eq_true rfl) ⟨Nat.le_of_ble_eq_true rfl, Nat.le_of_ble_eq_true rfl⟩ rfl dX2_isForm_11 (fun z11 _ H locs p11 w => ?_)
    have p11 : (z11 = 1 ∧ 0 ≤ p1 ∧ p1 ≤ (15 : Int)) ∨ (z11 = 0 ∧ ¬ (0 ≤ p1 ∧ p1 ≤ (15 : Int))) := p11
    have w : zW D _ _ s [] H locs := w
    refine z_if_eq (tgt := 40) S dX2_isForm_14 (by decide) (by omega) (fun h14 => ?_) (fun h14 => ?_)
    · skip
      refine z_iconst S dX2_isForm_40 ?_
      have k2_ : ((0 : Int) = 1 ∧ (0 ≤ how ∧ how ≤ 2) ∧ (0 ≤ p1 ∧ p1 ≤ 15) ∧ (0 ≤ wd ∧ wd ≤ 400) ∧ (0 ≤ fl ∧ fl ≤ 31)) ∨ ((0 : Int) = 0 ∧ ¬ ((0 ≤ how ∧ how ≤ 2) ∧ (0 ≤ p1 ∧ p1 ≤ 15) ∧ (0 ≤ wd ∧ wd ≤ 400) ∧ (0 ≤ fl ∧ fl ≤ 31))) := by
        omega
      exact z_iret S hr hlk w zNar_b0 () k2_ rfl dX2_isForm_41
    · skip
      refine lv_iload_n S.1 S.2.1 dX2_isForm_17 rfl (lv_at hl 2 rfl) ?_
      refine z_sipush S dX2_isForm_18 (by decide +kernel) ?_
      refine z_calliS (n := 2) (As := [.int (zI wd), .int (zI 400)]) (rest := []) (wr := []) (wn := (fun (u : Unit) => [])) S w (c_X2_isWithin l D wd 400 (by omega) (by omega)) gX2_isForm_X2_isWithin (by decide +kernel) rfl ⟨rfl, rfl⟩ ⟨Nat.le_of_ble_eq_true rfl, Nat.le_of_ble_eq_true rfl⟩ [] [] [] [] rfl rfl rfl rfl rfl (by decide) (fun u => rfl) rfl rfl hl.1 (Nat.le_of_ble_eq_true rfl) ⟨Nat.le_of_ble_eq_true rfl, Nat.le_of_ble_eq_true rfl⟩ rfl dX2_isForm_21 (fun z21 _ H locs p21 w => ?_)
      have p21 : (z21 = 1 ∧ 0 ≤ wd ∧ wd ≤ (400 : Int)) ∨ (z21 = 0 ∧ ¬ (0 ≤ wd ∧ wd ≤ (400 : Int))) := p21
      have w : zW D _ _ s [] H locs := w
      refine z_if_eq (tgt := 40) S dX2_isForm_24 (by decide) (by omega) (fun h24 => ?_) (fun h24 => ?_)
      · skip
        refine z_iconst S dX2_isForm_40 ?_
        have k3_ : ((0 : Int) = 1 ∧ (0 ≤ how ∧ how ≤ 2) ∧ (0 ≤ p1 ∧ p1 ≤ 15) ∧ (0 ≤ wd ∧ wd ≤ 400) ∧ (0 ≤ fl ∧ fl ≤ 31)) ∨ ((0 : Int) = 0 ∧ ¬ ((0 ≤ how ∧ how ≤ 2) ∧ (0 ≤ p1 ∧ p1 ≤ 15) ∧ (0 ≤ wd ∧ wd ≤ 400) ∧ (0 ≤ fl ∧ fl ≤ 31))) := by
          omega
        exact z_iret S hr hlk w zNar_b0 () k3_ rfl dX2_isForm_41
      · skip
        refine lv_iload_n S.1 S.2.1 dX2_isForm_27 rfl (lv_at hl 3 rfl) ?_
        refine z_bipush S dX2_isForm_28 (by decide +kernel) ?_
        refine z_calliS (n := 2) (As := [.int (zI fl), .int (zI 31)]) (rest := []) (wr := []) (wn := (fun (u : Unit) => [])) S w (c_X2_isWithin l D fl 31 (by omega) (by omega)) gX2_isForm_X2_isWithin (by decide +kernel) rfl ⟨rfl, rfl⟩ ⟨Nat.le_of_ble_eq_true rfl, Nat.le_of_ble_eq_true rfl⟩ [] [] [] [] rfl rfl rfl rfl rfl (by decide) (fun u => rfl) rfl rfl hl.1 (Nat.le_of_ble_eq_true rfl) ⟨Nat.le_of_ble_eq_true rfl, Nat.le_of_ble_eq_true rfl⟩ rfl dX2_isForm_30 (fun z30 _ H locs p30 w => ?_)
        have p30 : (z30 = 1 ∧ 0 ≤ fl ∧ fl ≤ (31 : Int)) ∨ (z30 = 0 ∧ ¬ (0 ≤ fl ∧ fl ≤ (31 : Int))) := p30
        have w : zW D _ _ s [] H locs := w
        refine z_if_eq (tgt := 40) S dX2_isForm_33 (by decide) (by omega) (fun h33 => ?_) (fun h33 => ?_)
        · skip
          refine z_iconst S dX2_isForm_40 ?_
          have k4_ : ((0 : Int) = 1 ∧ (0 ≤ how ∧ how ≤ 2) ∧ (0 ≤ p1 ∧ p1 ≤ 15) ∧ (0 ≤ wd ∧ wd ≤ 400) ∧ (0 ≤ fl ∧ fl ≤ 31)) ∨ ((0 : Int) = 0 ∧ ¬ ((0 ≤ how ∧ how ≤ 2) ∧ (0 ≤ p1 ∧ p1 ≤ 15) ∧ (0 ≤ wd ∧ wd ≤ 400) ∧ (0 ≤ fl ∧ fl ≤ 31))) := by
            omega
          exact z_iret S hr hlk w zNar_b0 () k4_ rfl dX2_isForm_41
        · skip
          refine z_iconst S dX2_isForm_36 ?_
          refine lv_goto (tgt := 41) S.1 S.2.1 dX2_isForm_37 (by decide) ?_
          have k5_ : ((1 : Int) = 1 ∧ (0 ≤ how ∧ how ≤ 2) ∧ (0 ≤ p1 ∧ p1 ≤ 15) ∧ (0 ≤ wd ∧ wd ≤ 400) ∧ (0 ≤ fl ∧ fl ≤ 31)) ∨ ((1 : Int) = 0 ∧ ¬ ((0 ≤ how ∧ how ≤ 2) ∧ (0 ≤ p1 ∧ p1 ≤ 15) ∧ (0 ≤ wd ∧ wd ≤ 400) ∧ (0 ≤ fl ∧ fl ≤ 31))) := by
            omega
          exact z_iret S hr hlk w zNar_b1 () k5_ rfl dX2_isForm_41

set_option maxHeartbeats 4000000 in
set_option maxRecDepth 100000 in
theorem c_X2_has (l : Launch) (D : va_G) (fl : Int) (k : Int) (hfl : 0 ≤ fl ∧ fl ≤ 31) (hk : k ∈ ([1, 2, 4, 8, 16] : List Int)) : zMi (T := Unit) l yX2_has wsX2_has ({ frames := 0, cells := 0, slots := 0, locals := 0 } : Room) D [] [.int (zI fl), .int (zI k)] [] (fun (z : Int) (u : Unit) => (z = 1 ∧ fl / k % 2 = 1) ∨ (z = 0 ∧ fl / k % 2 ≠ 1)) (fun (u : Unit) => []) 0 0 := by
  refine zMi.of (bytes := cX2_has) (nL := 2) (own := RX2) (by decide) rfl rfl (Nat.le_of_ble_eq_true rfl) ?_
  intro p e s m below meth c ls S hr hlk hnm w hl
  have hl : lv_has ls 2 [(0, .int (zI fl)), (1, .int (zI k))] := hl
  refine lv_iload_n S.1 S.2.1 dX2_has_0 rfl (lv_at hl 0 rfl) ?_
  refine lv_iload_n S.1 S.2.1 dX2_has_1 rfl (lv_at hl 1 rfl) ?_
  refine z_iand S dX2_has_2 (v := (k * (fl / k % 2))) (zI_flag hfl hk) ?_
  have kb : (fl / k % 2 = 0 ∨ fl / k % 2 = 1) := by omega
  have kp : 1 ≤ k ∧ k ≤ 16 := by
    simp only [List.mem_cons, List.mem_nil_iff, or_false] at hk
    omega
  have kv : (fl / k % 2 = 0 ∧ k * (fl / k % 2) = 0) ∨ (fl / k % 2 = 1 ∧ k * (fl / k % 2) = k) := by
    rcases kb with q | q
    · exact Or.inl ⟨q, by rw [q, Int.mul_zero]⟩
    · exact Or.inr ⟨q, by rw [q, Int.mul_one]⟩
  refine z_if_eq (tgt := 10) S dX2_has_3 (by decide) (by omega) (fun h3 => ?_) (fun h3 => ?_)
  · skip
    refine z_iconst S dX2_has_10 ?_
    have k1_ : ((0 : Int) = 1 ∧ fl / k % 2 = 1) ∨ ((0 : Int) = 0 ∧ fl / k % 2 ≠ 1) := by
      omega
    exact z_iret S hr hlk w zNar_b0 () k1_ rfl dX2_has_11
  · skip
    refine z_iconst S dX2_has_6 ?_
    refine lv_goto (tgt := 11) S.1 S.2.1 dX2_has_7 (by decide) ?_
    have k2_ : ((1 : Int) = 1 ∧ fl / k % 2 = 1) ∨ ((1 : Int) = 0 ∧ fl / k % 2 ≠ 1) := by
      omega
    exact z_iret S hr hlk w zNar_b1 () k2_ rfl dX2_has_11

set_option maxHeartbeats 4000000 in
set_option maxRecDepth 100000 in
theorem c_X2_isFinite (l : Launch) (D : va_G) (bz : Int) (hbz : -9223372036854775808 ≤ bz ∧ bz ≤ 9223372036854775807) : zMi (T := Unit) l yX2_isFinite wsX2_isFinite ({ frames := 1, cells := 0, slots := 0, locals := 21 } : Room) D [] [.long (lI bz)] [] (fun (z : Int) (u : Unit) => (z = 1 ∧ xE bz ≠ 2047) ∨ (z = 0 ∧ xE bz = 2047)) (fun (u : Unit) => []) 0 0 := by
  refine zMi.of (bytes := cX2_isFinite) (nL := 2) (own := RX2) (by decide) rfl rfl (Nat.le_of_ble_eq_true rfl) ?_
  intro p e s m below meth c ls S hr hlk hnm w hl
  have hl : lv_has ls 2 [(0, .long (lI bz))] := hl
  refine lv_lload_n S.1 S.2.1 dX2_isFinite_0 rfl (lv_at hl 0 rfl) ?_
  refine z_calliS (n := 1) (As := [.long (lI bz)]) (rest := []) (wr := []) (wn := (fun (u : Unit) => [])) S w (c_X2_exponentField l D bz (by omega)) gX2_isFinite_X2_exponentField (by decide +kernel) rfl ⟨rfl, rfl⟩ ⟨Nat.le_of_ble_eq_true rfl, Nat.le_of_ble_eq_true rfl⟩ [] [] [] [] rfl rfl rfl rfl rfl (by decide) (fun u => rfl) rfl rfl hl.1 (Nat.le_of_ble_eq_true rfl) ⟨Nat.le_of_ble_eq_true rfl, Nat.le_of_ble_eq_true rfl⟩ rfl dX2_isFinite_1 (fun z1 _ H locs p1 w => ?_)
  have p1 : z1 = xE bz := p1
  have w : zW D _ _ s [] H locs := w
  have hE : 0 ≤ xE bz ∧ xE bz < 2048 := by unfold xE; omega
  refine z_sipush S dX2_isFinite_4 (by decide +kernel) ?_
  refine z_icmp_eq (tgt := 14) S dX2_isFinite_7 (by decide) (by omega) (by omega) (fun h7 => ?_) (fun h7 => ?_)
  · skip
    refine z_iconst S dX2_isFinite_14 ?_
    have k1_ : ((0 : Int) = 1 ∧ xE bz ≠ 2047) ∨ ((0 : Int) = 0 ∧ xE bz = 2047) := by
      omega
    exact z_iret S hr hlk w zNar_b0 () k1_ rfl dX2_isFinite_15
  · skip
    refine z_iconst S dX2_isFinite_10 ?_
    refine lv_goto (tgt := 15) S.1 S.2.1 dX2_isFinite_11 (by decide) ?_
    have k2_ : ((1 : Int) = 1 ∧ xE bz ≠ 2047) ∨ ((1 : Int) = 0 ∧ xE bz = 2047) := by
      omega
    exact z_iret S hr hlk w zNar_b1 () k2_ rfl dX2_isFinite_15

set_option maxRecDepth 20000 in
theorem kl_X2_isNoNumber_78 : Cond.constantLong RX2 78 (4503599627370495) ∈ wsX2_isNoNumber := by decide +kernel
set_option maxHeartbeats 4000000 in
set_option maxRecDepth 100000 in
theorem c_X2_isNoNumber (l : Launch) (D : va_G) (bz : Int) (hbz : -9223372036854775808 ≤ bz ∧ bz ≤ 9223372036854775807) : zMi (T := Unit) l yX2_isNoNumber wsX2_isNoNumber ({ frames := 2, cells := 0, slots := 0, locals := 42 } : Room) D [] [.long (lI bz)] [] (fun (z : Int) (u : Unit) => (z = 1 ∧ (xE bz = 2047 ∧ bz % 4503599627370496 ≠ 0)) ∨ (z = 0 ∧ ¬ (xE bz = 2047 ∧ bz % 4503599627370496 ≠ 0))) (fun (u : Unit) => []) 0 0 := by
  refine zMi.of (bytes := cX2_isNoNumber) (nL := 2) (own := RX2) (by decide) rfl rfl (Nat.le_of_ble_eq_true rfl) ?_
  intro p e s m below meth c ls S hr hlk hnm w hl
  have hl : lv_has ls 2 [(0, .long (lI bz))] := hl
  refine lv_lload_n S.1 S.2.1 dX2_isNoNumber_0 rfl (lv_at hl 0 rfl) ?_
  refine z_calliS (n := 1) (As := [.long (lI bz)]) (rest := []) (wr := []) (wn := (fun (u : Unit) => [])) S w (c_X2_isFinite l D bz (by omega)) gX2_isNoNumber_X2_isFinite (by decide +kernel) rfl ⟨rfl, rfl⟩ ⟨Nat.le_of_ble_eq_true rfl, Nat.le_of_ble_eq_true rfl⟩ [] [] [] [] rfl rfl rfl rfl rfl (by decide) (fun u => rfl) rfl rfl hl.1 (Nat.le_of_ble_eq_true rfl) ⟨Nat.le_of_ble_eq_true rfl, Nat.le_of_ble_eq_true rfl⟩ rfl dX2_isNoNumber_1 (fun z1 _ H locs p1 w => ?_)
  have p1 : (z1 = 1 ∧ xE bz ≠ 2047) ∨ (z1 = 0 ∧ xE bz = 2047) := p1
  have w : zW D _ _ s [] H locs := w
  refine z_if_ne (tgt := 21) S dX2_isNoNumber_4 (by decide) (by omega) (fun h4 => ?_) (fun h4 => ?_)
  · skip
    refine z_iconst S dX2_isNoNumber_21 ?_
    have k1_ : ((0 : Int) = 1 ∧ (xE bz = 2047 ∧ bz % 4503599627370496 ≠ 0)) ∨ ((0 : Int) = 0 ∧ ¬ (xE bz = 2047 ∧ bz % 4503599627370496 ≠ 0)) := by
      omega
    exact z_iret S hr hlk w zNar_b0 () k1_ rfl dX2_isNoNumber_22
  · skip
    refine lv_lload_n S.1 S.2.1 dX2_isNoNumber_7 rfl (lv_at hl 0 rfl) ?_
    refine z_ldc2 (v := 4503599627370495) S 4503599627370495 kl_X2_isNoNumber_78 (by decide +kernel) dX2_isNoNumber_8 ?_
    refine z_land S dX2_isNoNumber_11 (v := (bz % 4503599627370496)) (lI_m52 bz) ?_
    refine z_lconst (z := 0) S dX2_isNoNumber_12 (by decide +kernel) ?_
    refine z_lcmp S dX2_isNoNumber_13 (by omega) (by omega) (fun c13 hc13 => ?_)
    refine z_if_eq (tgt := 21) S dX2_isNoNumber_14 (by decide) (by omega) (fun h14 => ?_) (fun h14 => ?_)
    · skip
      refine z_iconst S dX2_isNoNumber_21 ?_
      have k2_ : ((0 : Int) = 1 ∧ (xE bz = 2047 ∧ bz % 4503599627370496 ≠ 0)) ∨ ((0 : Int) = 0 ∧ ¬ (xE bz = 2047 ∧ bz % 4503599627370496 ≠ 0)) := by
        omega
      exact z_iret S hr hlk w zNar_b0 () k2_ rfl dX2_isNoNumber_22
    · skip
      refine z_iconst S dX2_isNoNumber_17 ?_
      refine lv_goto (tgt := 22) S.1 S.2.1 dX2_isNoNumber_18 (by decide) ?_
      have k3_ : ((1 : Int) = 1 ∧ (xE bz = 2047 ∧ bz % 4503599627370496 ≠ 0)) ∨ ((1 : Int) = 0 ∧ ¬ (xE bz = 2047 ∧ bz % 4503599627370496 ≠ 0)) := by
        omega
      exact z_iret S hr hlk w zNar_b1 () k3_ rfl dX2_isNoNumber_22

set_option maxRecDepth 20000 in
theorem ln_X2_at_19 : Cond.fieldLink RX2 19 "DecimalText" "line" "LDecimalText$Line;" ∈ wsX2_at := by decide +kernel
theorem in_X2_at_X2 : ∀ w ∈ u_ws RX2 TX2 2, w ∈ wsX2_at := by decide +kernel
set_option maxHeartbeats 4000000 in
set_option maxRecDepth 100000 in
theorem c_X2_at (l : Launch) (D : va_G) (cC : ClassId) (h : Nat) (hw : Nat) (hn : Nat) (hc : Nat) (C : Nat → Int) (len : Int) (T : List Int) (i : Int) (hT : tRep C len T) (hlen : len ≤ 400) (hi : -2147483648 ≤ i ∧ i ≤ 2147483647) : zMi (T := Unit) l yX2_at wsX2_at ({ frames := 1, cells := 0, slots := 0, locals := 21 } : Room) D [(cC, .char)] [.ref h, .int (zI i)] [(h, .inr (2, [.ref hw, .ref hn])), (hn, .inr (0, [.ref hc, .int (zI len)])), (hc, .inl (cC, 400, .inl (zA C)))] (fun (z : Int) (u : Unit) => z = (if 0 ≤ i ∧ i < len then C i.toNat else -1)) (fun (u : Unit) => [(h, .inr (2, [.ref hw, .ref hn])), (hn, .inr (0, [.ref hc, .int (zI len)])), (hc, .inl (cC, 400, .inl (zA C)))]) 0 0 := by
  refine zMi.of (bytes := cX2_at) (nL := 2) (own := RX2) (by decide) rfl rfl (Nat.le_of_ble_eq_true rfl) ?_
  intro p e s m below meth c ls S hr hlk hnm w hl
  have hl : lv_has ls 2 [(0, .ref h), (1, .int (zI i))] := hl
  refine lv_aload_n S.1 S.2.1 dX2_at_0 rfl (lv_at hl 0 rfl) ?_
  refine z_get (ci := 2) (C := RX2) (T := TX2) (N := 2) S w 0 rfl rfl in_X2_at_X2 1 (by decide) ln_X2_at_19 rfl rfl dX2_at_1 ?_
  refine lv_iload_n S.1 S.2.1 dX2_at_4 rfl (lv_at hl 1 rfl) ?_
  refine z_calliV (C := RX0) (n := 1) (As := [.int (zI i)]) (rest := []) (wr := [(h, .inr (2, [.ref hw, .ref hn]))]) (wn := (fun (u : Unit) => [(h, .inr (2, [.ref hw, .ref hn])), (hn, .inr (0, [.ref hc, .int (zI len)])), (hc, .inl (cC, 400, .inl (zA C)))])) S w (c_X0_codeAt l D cC hn hc C len i (by have := hT.1; omega) (by omega)) gX2_at_X0_codeAt (by decide +kernel) rfl ⟨rfl, rfl⟩ ⟨Nat.le_of_ble_eq_true rfl, Nat.le_of_ble_eq_true rfl⟩ [0] [1, 2] [0] [0, 1, 2] rfl rfl rfl rfl rfl (by decide) (fun u => rfl) rfl rfl rfl rfl rfl hl.1 (Nat.le_of_ble_eq_true rfl) ⟨Nat.le_of_ble_eq_true rfl, Nat.le_of_ble_eq_true rfl⟩ rfl dX2_at_5 (fun z5 _ H locs p5 w => ?_)
  have p5 : z5 = (if 0 ≤ i ∧ i < len then C i.toNat else -1) := p5
  have w : zW D _ _ s [(h, .inr (2, [.ref hw, .ref hn])), (hn, .inr (0, [.ref hc, .int (zI len)])), (hc, .inl (cC, 400, .inl (zA C)))] H locs := w
  exact z_iret S hr hlk w (zNar_int _) () p5 rfl dX2_at_8

set_option maxRecDepth 20000 in
theorem ln_X2_putDigit_19 : Cond.fieldLink RX2 19 "DecimalText" "line" "LDecimalText$Line;" ∈ wsX2_putDigit := by decide +kernel
theorem in_X2_putDigit_X2 : ∀ w ∈ u_ws RX2 TX2 2, w ∈ wsX2_putDigit := by decide +kernel
set_option maxHeartbeats 4000000 in
set_option maxRecDepth 100000 in
theorem c_X2_putDigit (l : Launch) (D : va_G) (cC : ClassId) (h : Nat) (hw : Nat) (hn : Nat) (hc : Nat) (C : Nat → Int) (len : Int) (T : List Int) (d : Int) (hT : lRep C len T) (hlen : len < 400) (hd : 0 ≤ d ∧ d ≤ 1000) : zMv (T := (Nat → Int) × Int) l yX2_putDigit wsX2_putDigit ({ frames := 1, cells := 0, slots := 0, locals := 21 } : Room) D [(cC, .char)] [.ref h, .int (zI d)] [(h, .inr (2, [.ref hw, .ref hn])), (hn, .inr (0, [.ref hc, .int (zI len)])), (hc, .inl (cC, 400, .inl (zA C)))] (fun (u : (Nat → Int) × Int) => lRep u.1 u.2 (T ++ [48 + d]) ∧ u.2 = len + 1) (fun (u : (Nat → Int) × Int) => [(h, .inr (2, [.ref hw, .ref hn])), (hn, .inr (0, [.ref hc, .int (zI u.2)])), (hc, .inl (cC, 400, .inl (zA u.1)))]) 0 0 := by
  refine zMv.of (bytes := cX2_putDigit) (nL := 2) (own := RX2) (by decide) rfl rfl (Nat.le_of_ble_eq_true rfl) ?_
  intro p e s m below meth c ls S hr hlk hnm w hl
  have hl : lv_has ls 2 [(0, .ref h), (1, .int (zI d))] := hl
  have hl0 := hT.1.1
  refine lv_aload_n S.1 S.2.1 dX2_putDigit_0 rfl (lv_at hl 0 rfl) ?_
  refine z_get (ci := 2) (C := RX2) (T := TX2) (N := 2) S w 0 rfl rfl in_X2_putDigit_X2 1 (by decide) ln_X2_putDigit_19 rfl rfl dX2_putDigit_1 ?_
  refine z_bipush S dX2_putDigit_4 (by decide +kernel) ?_
  refine lv_iload_n S.1 S.2.1 dX2_putDigit_6 rfl (lv_at hl 1 rfl) ?_
  refine z_iadd S dX2_putDigit_7 ?_
  refine z_i2c S dX2_putDigit_8 (by omega) ?_
  refine z_callvV (C := RX0) (n := 1) (As := [.int (zI (48 + d))]) (rest := []) (wr := [(h, .inr (2, [.ref hw, .ref hn]))]) (wn := (fun (u : (Nat → Int) × Int) => [(h, .inr (2, [.ref hw, .ref hn])), (hn, .inr (0, [.ref hc, .int (zI u.2)])), (hc, .inl (cC, 400, .inl (zA u.1)))])) S w (c_X0_put l D cC hn hc C len (48 + d) (by omega) (by omega)) gX2_putDigit_X0_put (by decide +kernel) rfl ⟨rfl, rfl⟩ ⟨Nat.le_of_ble_eq_true rfl, Nat.le_of_ble_eq_true rfl⟩ [0] [1, 2] [0] [0, 1, 2] rfl rfl rfl rfl rfl (by decide) (fun u => rfl) rfl rfl rfl rfl rfl hl.1 (Nat.le_of_ble_eq_true rfl) ⟨Nat.le_of_ble_eq_true rfl, Nat.le_of_ble_eq_true rfl⟩ rfl dX2_putDigit_9 (fun u H locs p9 w => ?_)
  obtain ⟨C9, len9⟩ := u
  have p9 : C9 = zu C len.toNat (48 + d) ∧ len9 = len + 1 := p9
  have w : zW D _ _ s [(h, .inr (2, [.ref hw, .ref hn])), (hn, .inr (0, [.ref hc, .int (zI len9)])), (hc, .inl (cC, 400, .inl (zA C9)))] H locs := w
  exact z_vret S hr hlk w (C9, len9) ⟨lRep_put' hT (by omega) p9, p9.2⟩ rfl dX2_putDigit_12

set_option maxRecDepth 20000 in
theorem ln_X2_putSign_19 : Cond.fieldLink RX2 19 "DecimalText" "line" "LDecimalText$Line;" ∈ wsX2_putSign := by decide +kernel
theorem in_X2_putSign_X2 : ∀ w ∈ u_ws RX2 TX2 2, w ∈ wsX2_putSign := by decide +kernel
set_option maxHeartbeats 4000000 in
set_option maxRecDepth 100000 in
theorem c_X2_putSign (l : Launch) (D : va_G) (cC : ClassId) (h : Nat) (hw : Nat) (hn : Nat) (hc : Nat) (C : Nat → Int) (len : Int) (T : List Int) (bz : Int) (fl : Int) (hT : lRep C len T) (hlen : len < 100) (hbz : -9223372036854775808 ≤ bz ∧ bz ≤ 9223372036854775807) (hfl : 0 ≤ fl ∧ fl ≤ 31) : zMv (T := (Nat → Int) × Int) l yX2_putSign wsX2_putSign ({ frames := 1, cells := 0, slots := 0, locals := 21 } : Room) D [(cC, .char)] [.ref h, .long (lI bz), .int (zI fl)] [(h, .inr (2, [.ref hw, .ref hn])), (hn, .inr (0, [.ref hc, .int (zI len)])), (hc, .inl (cC, 400, .inl (zA C)))] (fun (u : (Nat → Int) × Int) => lRep u.1 u.2 (T ++ sgT bz fl) ∧ u.2 = len + ((sgT bz fl).length : Int)) (fun (u : (Nat → Int) × Int) => [(h, .inr (2, [.ref hw, .ref hn])), (hn, .inr (0, [.ref hc, .int (zI u.2)])), (hc, .inl (cC, 400, .inl (zA u.1)))]) 0 0 := by
  refine zMv.of (bytes := cX2_putSign) (nL := 4) (own := RX2) (by decide) rfl rfl (Nat.le_of_ble_eq_true rfl) ?_
  intro p e s m below meth c ls S hr hlk hnm w hl
  have hl : lv_has ls 4 [(0, .ref h), (1, .long (lI bz)), (3, .int (zI fl))] := hl
  have hl0 := hT.1.1
  refine lv_lload_n S.1 S.2.1 dX2_putSign_0 rfl (lv_at hl 1 rfl) ?_
  refine z_lconst (z := 0) S dX2_putSign_1 (by decide +kernel) ?_
  refine z_lcmp S dX2_putSign_2 (by omega) (by omega) (fun c2 hc2 => ?_)
  refine z_if_ge (tgt := 18) S dX2_putSign_3 (by decide) (by omega) (fun h3 => ?_) (fun h3 => ?_)
  · skip
    refine lv_iload_n S.1 S.2.1 dX2_putSign_18 rfl (lv_at hl 2 rfl) ?_
    refine z_iconst S dX2_putSign_19 ?_
    refine z_calliS (n := 2) (As := [.int (zI fl), .int (zI 2)]) (rest := []) (wr := [(h, .inr (2, [.ref hw, .ref hn])), (hn, .inr (0, [.ref hc, .int (zI len)])), (hc, .inl (cC, 400, .inl (zA C)))]) (wn := (fun (u : Unit) => [(h, .inr (2, [.ref hw, .ref hn])), (hn, .inr (0, [.ref hc, .int (zI len)])), (hc, .inl (cC, 400, .inl (zA C)))])) S w (c_X2_has l D fl 2 (by omega) (by decide)) gX2_putSign_X2_has (by decide +kernel) rfl ⟨rfl, rfl⟩ ⟨Nat.le_of_ble_eq_true rfl, Nat.le_of_ble_eq_true rfl⟩ [] [] [0, 1, 2] [0, 1, 2] rfl rfl rfl rfl rfl (by decide) (fun u => rfl) rfl rfl hl.1 (Nat.le_of_ble_eq_true rfl) ⟨Nat.le_of_ble_eq_true rfl, Nat.le_of_ble_eq_true rfl⟩ rfl dX2_putSign_20 (fun z20 _ H locs p20 w => ?_)
    have p20 : (z20 = 1 ∧ fl / (2 : Int) % 2 = 1) ∨ (z20 = 0 ∧ fl / (2 : Int) % 2 ≠ 1) := p20
    have w : zW D _ _ s [(h, .inr (2, [.ref hw, .ref hn])), (hn, .inr (0, [.ref hc, .int (zI len)])), (hc, .inl (cC, 400, .inl (zA C)))] H locs := w
    refine z_if_eq (tgt := 38) S dX2_putSign_23 (by decide) (by omega) (fun h23 => ?_) (fun h23 => ?_)
    · skip
      refine lv_iload_n S.1 S.2.1 dX2_putSign_38 rfl (lv_at hl 2 rfl) ?_
      refine z_iconst S dX2_putSign_39 ?_
      refine z_calliS (n := 2) (As := [.int (zI fl), .int (zI 4)]) (rest := []) (wr := [(h, .inr (2, [.ref hw, .ref hn])), (hn, .inr (0, [.ref hc, .int (zI len)])), (hc, .inl (cC, 400, .inl (zA C)))]) (wn := (fun (u : Unit) => [(h, .inr (2, [.ref hw, .ref hn])), (hn, .inr (0, [.ref hc, .int (zI len)])), (hc, .inl (cC, 400, .inl (zA C)))])) S w (c_X2_has l D fl 4 (by omega) (by decide)) gX2_putSign_X2_has (by decide +kernel) rfl ⟨rfl, rfl⟩ ⟨Nat.le_of_ble_eq_true rfl, Nat.le_of_ble_eq_true rfl⟩ [] [] [0, 1, 2] [0, 1, 2] rfl rfl rfl rfl rfl (by decide) (fun u => rfl) rfl rfl hl.1 (Nat.le_of_ble_eq_true rfl) ⟨Nat.le_of_ble_eq_true rfl, Nat.le_of_ble_eq_true rfl⟩ rfl dX2_putSign_40 (fun z40 _ H locs p40 w => ?_)
      have p40 : (z40 = 1 ∧ fl / (4 : Int) % 2 = 1) ∨ (z40 = 0 ∧ fl / (4 : Int) % 2 ≠ 1) := p40
      have w : zW D _ _ s [(h, .inr (2, [.ref hw, .ref hn])), (hn, .inr (0, [.ref hc, .int (zI len)])), (hc, .inl (cC, 400, .inl (zA C)))] H locs := w
      refine z_if_eq (tgt := 55) S dX2_putSign_43 (by decide) (by omega) (fun h43 => ?_) (fun h43 => ?_)
      · skip
        have k1_ : lRep C len (T ++ sgT bz fl) ∧ len = len + ((sgT bz fl).length : Int) := by
          unfold sgT; rw [if_neg (by omega), if_neg (by omega), if_neg (by omega), List.append_nil]; exact ⟨hT, by simp⟩
        exact z_vret S hr hlk w (C, len) k1_ rfl dX2_putSign_55
      · skip
        refine lv_aload_n S.1 S.2.1 dX2_putSign_46 rfl (lv_at hl 0 rfl) ?_
        refine z_get (ci := 2) (C := RX2) (T := TX2) (N := 2) S w 0 rfl rfl in_X2_putSign_X2 1 (by decide) ln_X2_putSign_19 rfl rfl dX2_putSign_47 ?_
        refine z_bipush S dX2_putSign_50 (by decide +kernel) ?_
        refine z_callvV (C := RX0) (n := 1) (As := [.int (zI 32)]) (rest := []) (wr := [(h, .inr (2, [.ref hw, .ref hn]))]) (wn := (fun (u : (Nat → Int) × Int) => [(h, .inr (2, [.ref hw, .ref hn])), (hn, .inr (0, [.ref hc, .int (zI u.2)])), (hc, .inl (cC, 400, .inl (zA u.1)))])) S w (c_X0_put l D cC hn hc C len 32 (by omega) (by omega)) gX2_putSign_X0_put (by decide +kernel) rfl ⟨rfl, rfl⟩ ⟨Nat.le_of_ble_eq_true rfl, Nat.le_of_ble_eq_true rfl⟩ [0] [1, 2] [0] [0, 1, 2] rfl rfl rfl rfl rfl (by decide) (fun u => rfl) rfl rfl rfl rfl rfl hl.1 (Nat.le_of_ble_eq_true rfl) ⟨Nat.le_of_ble_eq_true rfl, Nat.le_of_ble_eq_true rfl⟩ rfl dX2_putSign_52 (fun u H locs p52 w => ?_)
        obtain ⟨C52, len52⟩ := u
        have p52 : C52 = zu C len.toNat (32 : Int) ∧ len52 = len + 1 := p52
        have w : zW D _ _ s [(h, .inr (2, [.ref hw, .ref hn])), (hn, .inr (0, [.ref hc, .int (zI len52)])), (hc, .inl (cC, 400, .inl (zA C52)))] H locs := w
        have k2_ : lRep C52 len52 (T ++ sgT bz fl) ∧ len52 = len + ((sgT bz fl).length : Int) := by
          unfold sgT; rw [if_neg (by omega), if_neg (by omega), if_pos (by omega)]; exact ⟨lRep_put' hT (by omega) p52, p52.2⟩
        exact z_vret S hr hlk w (C52, len52) k2_ rfl dX2_putSign_55
    · skip
      refine lv_aload_n S.1 S.2.1 dX2_putSign_26 rfl (lv_at hl 0 rfl) ?_
      refine z_get (ci := 2) (C := RX2) (T := TX2) (N := 2) S w 0 rfl rfl in_X2_putSign_X2 1 (by decide) ln_X2_putSign_19 rfl rfl dX2_putSign_27 ?_
      refine z_bipush S dX2_putSign_30 (by decide +kernel) ?_
      refine z_callvV (C := RX0) (n := 1) (As := [.int (zI 43)]) (rest := []) (wr := [(h, .inr (2, [.ref hw, .ref hn]))]) (wn := (fun (u : (Nat → Int) × Int) => [(h, .inr (2, [.ref hw, .ref hn])), (hn, .inr (0, [.ref hc, .int (zI u.2)])), (hc, .inl (cC, 400, .inl (zA u.1)))])) S w (c_X0_put l D cC hn hc C len 43 (by omega) (by omega)) gX2_putSign_X0_put (by decide +kernel) rfl ⟨rfl, rfl⟩ ⟨Nat.le_of_ble_eq_true rfl, Nat.le_of_ble_eq_true rfl⟩ [0] [1, 2] [0] [0, 1, 2] rfl rfl rfl rfl rfl (by decide) (fun u => rfl) rfl rfl rfl rfl rfl hl.1 (Nat.le_of_ble_eq_true rfl) ⟨Nat.le_of_ble_eq_true rfl, Nat.le_of_ble_eq_true rfl⟩ rfl dX2_putSign_32 (fun u H locs p32 w => ?_)
      obtain ⟨C32, len32⟩ := u
      have p32 : C32 = zu C len.toNat (43 : Int) ∧ len32 = len + 1 := p32
      have w : zW D _ _ s [(h, .inr (2, [.ref hw, .ref hn])), (hn, .inr (0, [.ref hc, .int (zI len32)])), (hc, .inl (cC, 400, .inl (zA C32)))] H locs := w
      refine lv_goto (tgt := 55) S.1 S.2.1 dX2_putSign_35 (by decide) ?_
      have k3_ : lRep C32 len32 (T ++ sgT bz fl) ∧ len32 = len + ((sgT bz fl).length : Int) := by
        unfold sgT; rw [if_neg (by omega), if_pos (by omega)]; exact ⟨lRep_put' hT (by omega) p32, p32.2⟩
      exact z_vret S hr hlk w (C32, len32) k3_ rfl dX2_putSign_55
  · skip
    refine lv_aload_n S.1 S.2.1 dX2_putSign_6 rfl (lv_at hl 0 rfl) ?_
    refine z_get (ci := 2) (C := RX2) (T := TX2) (N := 2) S w 0 rfl rfl in_X2_putSign_X2 1 (by decide) ln_X2_putSign_19 rfl rfl dX2_putSign_7 ?_
    refine z_bipush S dX2_putSign_10 (by decide +kernel) ?_
    refine z_callvV (C := RX0) (n := 1) (As := [.int (zI 45)]) (rest := []) (wr := [(h, .inr (2, [.ref hw, .ref hn]))]) (wn := (fun (u : (Nat → Int) × Int) => [(h, .inr (2, [.ref hw, .ref hn])), (hn, .inr (0, [.ref hc, .int (zI u.2)])), (hc, .inl (cC, 400, .inl (zA u.1)))])) S w (c_X0_put l D cC hn hc C len 45 (by omega) (by omega)) gX2_putSign_X0_put (by decide +kernel) rfl ⟨rfl, rfl⟩ ⟨Nat.le_of_ble_eq_true rfl, Nat.le_of_ble_eq_true rfl⟩ [0] [1, 2] [0] [0, 1, 2] rfl rfl rfl rfl rfl (by decide) (fun u => rfl) rfl rfl rfl rfl rfl hl.1 (Nat.le_of_ble_eq_true rfl) ⟨Nat.le_of_ble_eq_true rfl, Nat.le_of_ble_eq_true rfl⟩ rfl dX2_putSign_12 (fun u H locs p12 w => ?_)
    obtain ⟨C12, len12⟩ := u
    have p12 : C12 = zu C len.toNat (45 : Int) ∧ len12 = len + 1 := p12
    have w : zW D _ _ s [(h, .inr (2, [.ref hw, .ref hn])), (hn, .inr (0, [.ref hc, .int (zI len12)])), (hc, .inl (cC, 400, .inl (zA C12)))] H locs := w
    refine lv_goto (tgt := 55) S.1 S.2.1 dX2_putSign_15 (by decide) ?_
    have k4_ : lRep C12 len12 (T ++ sgT bz fl) ∧ len12 = len + ((sgT bz fl).length : Int) := by
      unfold sgT; rw [if_pos (by omega)]; exact ⟨lRep_put' hT (by omega) p12, p12.2⟩
    exact z_vret S hr hlk w (C12, len12) k4_ rfl dX2_putSign_55

set_option maxRecDepth 20000 in
theorem ln_X2_putInfinite_19 : Cond.fieldLink RX2 19 "DecimalText" "line" "LDecimalText$Line;" ∈ wsX2_putInfinite := by decide +kernel
theorem in_X2_putInfinite_X2 : ∀ w ∈ u_ws RX2 TX2 2, w ∈ wsX2_putInfinite := by decide +kernel
set_option maxHeartbeats 4000000 in
set_option maxRecDepth 100000 in
theorem c_X2_putInfinite (l : Launch) (D : va_G) (cC : ClassId) (h : Nat) (hw : Nat) (hn : Nat) (hc : Nat) (C : Nat → Int) (len : Int) (T : List Int) (hT : lRep C len T) (hlen : len < 100) : zMv (T := (Nat → Int) × Int) l yX2_putInfinite wsX2_putInfinite ({ frames := 1, cells := 0, slots := 0, locals := 21 } : Room) D [(cC, .char)] [.ref h] [(h, .inr (2, [.ref hw, .ref hn])), (hn, .inr (0, [.ref hc, .int (zI len)])), (hc, .inl (cC, 400, .inl (zA C)))] (fun (u : (Nat → Int) × Int) => lRep u.1 u.2 (T ++ [105, 110, 102]) ∧ u.2 = len + 3) (fun (u : (Nat → Int) × Int) => [(h, .inr (2, [.ref hw, .ref hn])), (hn, .inr (0, [.ref hc, .int (zI u.2)])), (hc, .inl (cC, 400, .inl (zA u.1)))]) 0 0 := by
  refine zMv.of (bytes := cX2_putInfinite) (nL := 1) (own := RX2) (by decide) rfl rfl (Nat.le_of_ble_eq_true rfl) ?_
  intro p e s m below meth c ls S hr hlk hnm w hl
  have hl : lv_has ls 1 [(0, .ref h)] := hl
  have hl0 := hT.1.1
  refine lv_aload_n S.1 S.2.1 dX2_putInfinite_0 rfl (lv_at hl 0 rfl) ?_
  refine z_get (ci := 2) (C := RX2) (T := TX2) (N := 2) S w 0 rfl rfl in_X2_putInfinite_X2 1 (by decide) ln_X2_putInfinite_19 rfl rfl dX2_putInfinite_1 ?_
  refine z_bipush S dX2_putInfinite_4 (by decide +kernel) ?_
  refine z_callvV (C := RX0) (n := 1) (As := [.int (zI 105)]) (rest := []) (wr := [(h, .inr (2, [.ref hw, .ref hn]))]) (wn := (fun (u : (Nat → Int) × Int) => [(h, .inr (2, [.ref hw, .ref hn])), (hn, .inr (0, [.ref hc, .int (zI u.2)])), (hc, .inl (cC, 400, .inl (zA u.1)))])) S w (c_X0_put l D cC hn hc C len 105 (by omega) (by omega)) gX2_putInfinite_X0_put (by decide +kernel) rfl ⟨rfl, rfl⟩ ⟨Nat.le_of_ble_eq_true rfl, Nat.le_of_ble_eq_true rfl⟩ [0] [1, 2] [0] [0, 1, 2] rfl rfl rfl rfl rfl (by decide) (fun u => rfl) rfl rfl rfl rfl rfl hl.1 (Nat.le_of_ble_eq_true rfl) ⟨Nat.le_of_ble_eq_true rfl, Nat.le_of_ble_eq_true rfl⟩ rfl dX2_putInfinite_6 (fun u H locs p6 w => ?_)
  obtain ⟨C6, len6⟩ := u
  have p6 : C6 = zu C len.toNat (105 : Int) ∧ len6 = len + 1 := p6
  have w : zW D _ _ s [(h, .inr (2, [.ref hw, .ref hn])), (hn, .inr (0, [.ref hc, .int (zI len6)])), (hc, .inl (cC, 400, .inl (zA C6)))] H locs := w
  have t6 := lRep_put' hT (by omega) p6
  refine lv_aload_n S.1 S.2.1 dX2_putInfinite_9 rfl (lv_at hl 0 rfl) ?_
  refine z_get (ci := 2) (C := RX2) (T := TX2) (N := 2) S w 0 rfl rfl in_X2_putInfinite_X2 1 (by decide) ln_X2_putInfinite_19 rfl rfl dX2_putInfinite_10 ?_
  refine z_bipush S dX2_putInfinite_13 (by decide +kernel) ?_
  refine z_callvV (C := RX0) (n := 1) (As := [.int (zI 110)]) (rest := []) (wr := [(h, .inr (2, [.ref hw, .ref hn]))]) (wn := (fun (u : (Nat → Int) × Int) => [(h, .inr (2, [.ref hw, .ref hn])), (hn, .inr (0, [.ref hc, .int (zI u.2)])), (hc, .inl (cC, 400, .inl (zA u.1)))])) S w (c_X0_put l D cC hn hc C6 len6 110 (by omega) (by omega)) gX2_putInfinite_X0_put (by decide +kernel) rfl ⟨rfl, rfl⟩ ⟨Nat.le_of_ble_eq_true rfl, Nat.le_of_ble_eq_true rfl⟩ [0] [1, 2] [0] [0, 1, 2] rfl rfl rfl rfl rfl (by decide) (fun u => rfl) rfl rfl rfl rfl rfl hl.1 (Nat.le_of_ble_eq_true rfl) ⟨Nat.le_of_ble_eq_true rfl, Nat.le_of_ble_eq_true rfl⟩ rfl dX2_putInfinite_15 (fun u H locs p15 w => ?_)
  obtain ⟨C15, len15⟩ := u
  have p15 : C15 = zu C6 len6.toNat (110 : Int) ∧ len15 = len6 + 1 := p15
  have w : zW D _ _ s [(h, .inr (2, [.ref hw, .ref hn])), (hn, .inr (0, [.ref hc, .int (zI len15)])), (hc, .inl (cC, 400, .inl (zA C15)))] H locs := w
  have t15 := lRep_put' t6 (by omega) p15
  refine lv_aload_n S.1 S.2.1 dX2_putInfinite_18 rfl (lv_at hl 0 rfl) ?_
  refine z_get (ci := 2) (C := RX2) (T := TX2) (N := 2) S w 0 rfl rfl in_X2_putInfinite_X2 1 (by decide) ln_X2_putInfinite_19 rfl rfl dX2_putInfinite_19 ?_
  refine z_bipush S dX2_putInfinite_22 (by decide +kernel) ?_
  refine z_callvV (C := RX0) (n := 1) (As := [.int (zI 102)]) (rest := []) (wr := [(h, .inr (2, [.ref hw, .ref hn]))]) (wn := (fun (u : (Nat → Int) × Int) => [(h, .inr (2, [.ref hw, .ref hn])), (hn, .inr (0, [.ref hc, .int (zI u.2)])), (hc, .inl (cC, 400, .inl (zA u.1)))])) S w (c_X0_put l D cC hn hc C15 len15 102 (by omega) (by omega)) gX2_putInfinite_X0_put (by decide +kernel) rfl ⟨rfl, rfl⟩ ⟨Nat.le_of_ble_eq_true rfl, Nat.le_of_ble_eq_true rfl⟩ [0] [1, 2] [0] [0, 1, 2] rfl rfl rfl rfl rfl (by decide) (fun u => rfl) rfl rfl rfl rfl rfl hl.1 (Nat.le_of_ble_eq_true rfl) ⟨Nat.le_of_ble_eq_true rfl, Nat.le_of_ble_eq_true rfl⟩ rfl dX2_putInfinite_24 (fun u H locs p24 w => ?_)
  obtain ⟨C24, len24⟩ := u
  have p24 : C24 = zu C15 len15.toNat (102 : Int) ∧ len24 = len15 + 1 := p24
  have w : zW D _ _ s [(h, .inr (2, [.ref hw, .ref hn])), (hn, .inr (0, [.ref hc, .int (zI len24)])), (hc, .inl (cC, 400, .inl (zA C24)))] H locs := w
  have t24 := lRep_put' t15 (by omega) p24
  rw [List.append_assoc, List.append_assoc] at t24
  exact z_vret S hr hlk w (C24, len24) ⟨t24, by omega⟩ rfl dX2_putInfinite_27

set_option maxRecDepth 20000 in
theorem ml_X2_putExponent_122 : Cond.methodLink RX2 122 Lib.Math.abs.name ∈ wsX2_putExponent := by decide +kernel
set_option maxRecDepth 20000 in
theorem st_X2_putExponent_abs : Cond.static Lib.Math.abs.name ∈ wsX2_putExponent := by decide +kernel
set_option maxRecDepth 20000 in
theorem ini_X2_putExponent_Math : Cond.initialized "java/lang/Math" ∈ wsX2_putExponent := by decide +kernel
set_option maxRecDepth 20000 in
theorem co_X2_putExponent_abs : Cond.code Lib.Math.abs.name Lib.Math.abs.code 1 (some .int) ∈ wsX2_putExponent := by decide +kernel
set_option maxRecDepth 20000 in
theorem ln_X2_putExponent_19 : Cond.fieldLink RX2 19 "DecimalText" "line" "LDecimalText$Line;" ∈ wsX2_putExponent := by decide +kernel
theorem in_X2_putExponent_X2 : ∀ w ∈ u_ws RX2 TX2 2, w ∈ wsX2_putExponent := by decide +kernel
set_option maxHeartbeats 4000000 in
set_option maxRecDepth 100000 in
theorem c_X2_putExponent (l : Launch) (D : va_G) (cC : ClassId) (h : Nat) (hw : Nat) (hn : Nat) (hc : Nat) (C : Nat → Int) (len : Int) (T : List Int) (po : Int) (mk : Int) (hT : lRep C len T) (hlen : len < 390) (hpo : -2000 ≤ po ∧ po ≤ 2000) (hmk : 0 ≤ mk ∧ mk ≤ 65535) : zMv (T := (Nat → Int) × Int) l yX2_putExponent wsX2_putExponent ({ frames := 2, cells := 0, slots := 0, locals := 42 } : Room) D [(cC, .char)] [.ref h, .int (zI po), .int (zI mk)] [(h, .inr (2, [.ref hw, .ref hn])), (hn, .inr (0, [.ref hc, .int (zI len)])), (hc, .inl (cC, 400, .inl (zA C)))] (fun (u : (Nat → Int) × Int) => lRep u.1 u.2 (T ++ exT po mk) ∧ u.2 = len + ((exT po mk).length : Int)) (fun (u : (Nat → Int) × Int) => [(h, .inr (2, [.ref hw, .ref hn])), (hn, .inr (0, [.ref hc, .int (zI u.2)])), (hc, .inl (cC, 400, .inl (zA u.1)))]) 0 0 := by
  refine zMv.of (bytes := cX2_putExponent) (nL := 4) (own := RX2) (by decide) rfl rfl (Nat.le_of_ble_eq_true rfl) ?_
  intro p e s m below meth c ls S hr hlk hnm w hl
  have hl : lv_has ls 4 [(0, .ref h), (1, .int (zI po)), (2, .int (zI mk))] := hl
  have hl0 := hT.1.1
  refine lv_iload_n S.1 S.2.1 dX2_putExponent_0 rfl (lv_at hl 1 rfl) ?_
  refine z_mabs S ml_X2_putExponent_122 st_X2_putExponent_abs ini_X2_putExponent_Math co_X2_putExponent_abs hl.1 (Nat.le_of_ble_eq_true rfl) (Nat.le_of_ble_eq_true rfl) (Nat.le_of_ble_eq_true rfl) (Nat.le_of_ble_eq_true rfl) dX2_putExponent_1 (by omega) (fun m1 hm1 => ?_)
  have ea : exA po = m1 := by unfold exA; by_cases q : 0 ≤ po
                              · rw [if_pos q]; omega
                              · rw [if_neg q]; omega
  refine lv_istore_n (lv' := [(3, .int (zI m1)), (0, .ref h), (1, .int (zI po)), (2, .int (zI mk))]) S.1 S.2.1 dX2_putExponent_4 rfl hl (by decide) rfl (fun ls hl => ?_)
  refine lv_aload_n S.1 S.2.1 dX2_putExponent_5 rfl (lv_at hl 1 rfl) ?_
  refine z_get (ci := 2) (C := RX2) (T := TX2) (N := 2) S w 0 rfl rfl in_X2_putExponent_X2 1 (by decide) ln_X2_putExponent_19 rfl rfl dX2_putExponent_6 ?_
  refine lv_iload_n S.1 S.2.1 dX2_putExponent_9 rfl (lv_at hl 3 rfl) ?_
  refine z_callvV (C := RX0) (n := 1) (As := [.int (zI mk)]) (rest := []) (wr := [(h, .inr (2, [.ref hw, .ref hn]))]) (wn := (fun (u : (Nat → Int) × Int) => [(h, .inr (2, [.ref hw, .ref hn])), (hn, .inr (0, [.ref hc, .int (zI u.2)])), (hc, .inl (cC, 400, .inl (zA u.1)))])) S w (c_X0_put l D cC hn hc C len mk (by omega) (by omega)) gX2_putExponent_X0_put (by decide +kernel) rfl ⟨rfl, rfl⟩ ⟨Nat.le_of_ble_eq_true rfl, Nat.le_of_ble_eq_true rfl⟩ [0] [1, 2] [0] [0, 1, 2] rfl rfl rfl rfl rfl (by decide) (fun u => rfl) rfl rfl rfl rfl rfl hl.1 (Nat.le_of_ble_eq_true rfl) ⟨Nat.le_of_ble_eq_true rfl, Nat.le_of_ble_eq_true rfl⟩ rfl dX2_putExponent_10 (fun u H locs p10 w => ?_)
  obtain ⟨C10, len10⟩ := u
  have p10 : C10 = zu C len.toNat mk ∧ len10 = len + 1 := p10
  have w : zW D _ _ s [(h, .inr (2, [.ref hw, .ref hn])), (hn, .inr (0, [.ref hc, .int (zI len10)])), (hc, .inl (cC, 400, .inl (zA C10)))] H locs := w
  have t10 := lRep_put' hT (by omega) p10
  refine lv_aload_n S.1 S.2.1 dX2_putExponent_13 rfl (lv_at hl 1 rfl) ?_
  refine z_get (ci := 2) (C := RX2) (T := TX2) (N := 2) S w 0 rfl rfl in_X2_putExponent_X2 1 (by decide) ln_X2_putExponent_19 rfl rfl dX2_putExponent_14 ?_
  refine lv_iload_n S.1 S.2.1 dX2_putExponent_17 rfl (lv_at hl 2 rfl) ?_
  refine z_if_ge (tgt := 26) S dX2_putExponent_18 (by decide) (by omega) (fun h18 => ?_) (fun h18 => ?_)
  · skip
    refine z_bipush S dX2_putExponent_26 (by decide +kernel) ?_
    refine z_callvV (C := RX0) (n := 1) (As := [.int (zI 43)]) (rest := []) (wr := [(h, .inr (2, [.ref hw, .ref hn]))]) (wn := (fun (u : (Nat → Int) × Int) => [(h, .inr (2, [.ref hw, .ref hn])), (hn, .inr (0, [.ref hc, .int (zI u.2)])), (hc, .inl (cC, 400, .inl (zA u.1)))])) S w (c_X0_put l D cC hn hc C10 len10 43 (by omega) (by omega)) gX2_putExponent_X0_put (by decide +kernel) rfl ⟨rfl, rfl⟩ ⟨Nat.le_of_ble_eq_true rfl, Nat.le_of_ble_eq_true rfl⟩ [0] [1, 2] [0] [0, 1, 2] rfl rfl rfl rfl rfl (by decide) (fun u => rfl) rfl rfl rfl rfl rfl hl.1 (Nat.le_of_ble_eq_true rfl) ⟨Nat.le_of_ble_eq_true rfl, Nat.le_of_ble_eq_true rfl⟩ rfl dX2_putExponent_28 (fun u H locs p28 w => ?_)
    obtain ⟨C28, len28⟩ := u
    have p28 : C28 = zu C10 len10.toNat (43 : Int) ∧ len28 = len10 + 1 := p28
    have w : zW D _ _ s [(h, .inr (2, [.ref hw, .ref hn])), (hn, .inr (0, [.ref hc, .int (zI len28)])), (hc, .inl (cC, 400, .inl (zA C28)))] H locs := w
    have t28 := lRep_put' t10 (by omega) p28
    refine lv_iload_n S.1 S.2.1 dX2_putExponent_31 rfl (lv_at hl 0 rfl) ?_
    refine z_bipush S dX2_putExponent_32 (by decide +kernel) ?_
    refine z_icmp_lt (tgt := 45) S dX2_putExponent_34 (by decide) (by omega) (by omega) (fun h34 => ?_) (fun h34 => ?_)
    · skip
      refine lv_aload_n S.1 S.2.1 dX2_putExponent_45 rfl (lv_at hl 1 rfl) ?_
      refine lv_iload_n S.1 S.2.1 dX2_putExponent_46 rfl (lv_at hl 0 rfl) ?_
      refine z_bipush S dX2_putExponent_47 (by decide +kernel) ?_
      refine z_idiv S dX2_putExponent_49 (by omega) (by omega) ?_
      refine z_bipush S dX2_putExponent_50 (by decide +kernel) ?_
      refine z_irem S dX2_putExponent_52 (by omega) (by omega) ?_
      refine z_callvV (C := RX2) (n := 1) (As := [.int (zI ((m1 / 10) % 10))]) (rest := []) (wr := []) (wn := (fun (u : (Nat → Int) × Int) => [(h, .inr (2, [.ref hw, .ref hn])), (hn, .inr (0, [.ref hc, .int (zI u.2)])), (hc, .inl (cC, 400, .inl (zA u.1)))])) S w (c_X2_putDigit l D cC h hw hn hc C28 len28 _ ((m1 / 10) % 10) (by first | exact p42.1 | exact t28) (by omega) (by omega)) gX2_putExponent_X2_putDigit (by decide +kernel) rfl ⟨rfl, rfl⟩ ⟨Nat.le_of_ble_eq_true rfl, Nat.le_of_ble_eq_true rfl⟩ [0] [0, 1, 2] [] [0, 1, 2] rfl rfl rfl rfl rfl (by decide) (fun u => rfl) rfl rfl rfl rfl rfl hl.1 (Nat.le_of_ble_eq_true rfl) ⟨Nat.le_of_ble_eq_true rfl, Nat.le_of_ble_eq_true rfl⟩ rfl dX2_putExponent_53 (fun u H locs p53 w => ?_)
      obtain ⟨C53, len53⟩ := u
      have p53 : lRep C53 len53 (_ ++ [48 + ((m1 / 10) % 10)]) ∧ len53 = len28 + 1 := p53
      have w : zW D _ _ s [(h, .inr (2, [.ref hw, .ref hn])), (hn, .inr (0, [.ref hc, .int (zI len53)])), (hc, .inl (cC, 400, .inl (zA C53)))] H locs := w
      refine lv_aload_n S.1 S.2.1 dX2_putExponent_56 rfl (lv_at hl 1 rfl) ?_
      refine lv_iload_n S.1 S.2.1 dX2_putExponent_57 rfl (lv_at hl 0 rfl) ?_
      refine z_bipush S dX2_putExponent_58 (by decide +kernel) ?_
      refine z_irem S dX2_putExponent_60 (by omega) (by omega) ?_
      refine z_callvV (C := RX2) (n := 1) (As := [.int (zI (m1 % 10))]) (rest := []) (wr := []) (wn := (fun (u : (Nat → Int) × Int) => [(h, .inr (2, [.ref hw, .ref hn])), (hn, .inr (0, [.ref hc, .int (zI u.2)])), (hc, .inl (cC, 400, .inl (zA u.1)))])) S w (c_X2_putDigit l D cC h hw hn hc C53 len53 _ (m1 % 10) p53.1 (by omega) (by omega)) gX2_putExponent_X2_putDigit (by decide +kernel) rfl ⟨rfl, rfl⟩ ⟨Nat.le_of_ble_eq_true rfl, Nat.le_of_ble_eq_true rfl⟩ [0] [0, 1, 2] [] [0, 1, 2] rfl rfl rfl rfl rfl (by decide) (fun u => rfl) rfl rfl rfl rfl rfl hl.1 (Nat.le_of_ble_eq_true rfl) ⟨Nat.le_of_ble_eq_true rfl, Nat.le_of_ble_eq_true rfl⟩ rfl dX2_putExponent_61 (fun u H locs p61 w => ?_)
      obtain ⟨C61, len61⟩ := u
      have p61 : lRep C61 len61 (_ ++ [48 + (m1 % 10)]) ∧ len61 = len53 + 1 := p61
      have w : zW D _ _ s [(h, .inr (2, [.ref hw, .ref hn])), (hn, .inr (0, [.ref hc, .int (zI len61)])), (hc, .inl (cC, 400, .inl (zA C61)))] H locs := w
      have k1_ : lRep C61 len61 (T ++ exT po mk) ∧ len61 = len + ((exT po mk).length : Int) := by
        have q1 := p61.1
        have e : exT po mk = [mk, if po < 0 then 45 else 43] ++ (if 100 ≤ m1 then [48 + m1 / 100] else []) ++ [48 + m1 / 10 % 10, 48 + m1 % 10] := by unfold exT; rw [ea]
        rw [e]
        first
          | (rw [if_pos (show po < 0 by omega), if_pos (show 100 ≤ m1 by omega)]; simp only [List.append_assoc, List.singleton_append, List.cons_append, List.nil_append, List.append_nil] at q1 ⊢; exact ⟨q1, by simp only [List.length_cons, List.length_nil]; omega⟩)
          | (rw [if_pos (show po < 0 by omega), if_neg (show ¬ 100 ≤ m1 by omega)]; simp only [List.append_assoc, List.singleton_append, List.cons_append, List.nil_append, List.append_nil] at q1 ⊢; exact ⟨q1, by simp only [List.length_cons, List.length_nil]; omega⟩)
          | (rw [if_neg (show ¬ po < 0 by omega), if_pos (show 100 ≤ m1 by omega)]; simp only [List.append_assoc, List.singleton_append, List.cons_append, List.nil_append, List.append_nil] at q1 ⊢; exact ⟨q1, by simp only [List.length_cons, List.length_nil]; omega⟩)
          | (rw [if_neg (show ¬ po < 0 by omega), if_neg (show ¬ 100 ≤ m1 by omega)]; simp only [List.append_assoc, List.singleton_append, List.cons_append, List.nil_append, List.append_nil] at q1 ⊢; exact ⟨q1, by simp only [List.length_cons, List.length_nil]; omega⟩)
      exact z_vret S hr hlk w (C61, len61) k1_ rfl dX2_putExponent_64
    · skip
      refine lv_aload_n S.1 S.2.1 dX2_putExponent_37 rfl (lv_at hl 1 rfl) ?_
      refine lv_iload_n S.1 S.2.1 dX2_putExponent_38 rfl (lv_at hl 0 rfl) ?_
      refine z_bipush S dX2_putExponent_39 (by decide +kernel) ?_
      refine z_idiv S dX2_putExponent_41 (by omega) (by omega) ?_
      refine z_callvV (C := RX2) (n := 1) (As := [.int (zI (m1 / 100))]) (rest := []) (wr := []) (wn := (fun (u : (Nat → Int) × Int) => [(h, .inr (2, [.ref hw, .ref hn])), (hn, .inr (0, [.ref hc, .int (zI u.2)])), (hc, .inl (cC, 400, .inl (zA u.1)))])) S w (c_X2_putDigit l D cC h hw hn hc C28 len28 _ (m1 / 100) t28 (by omega) (by omega)) gX2_putExponent_X2_putDigit (by decide +kernel) rfl ⟨rfl, rfl⟩ ⟨Nat.le_of_ble_eq_true rfl, Nat.le_of_ble_eq_true rfl⟩ [0] [0, 1, 2] [] [0, 1, 2] rfl rfl rfl rfl rfl (by decide) (fun u => rfl) rfl rfl rfl rfl rfl hl.1 (Nat.le_of_ble_eq_true rfl) ⟨Nat.le_of_ble_eq_true rfl, Nat.le_of_ble_eq_true rfl⟩ rfl dX2_putExponent_42 (fun u H locs p42 w => ?_)
      obtain ⟨C42, len42⟩ := u
      have p42 : lRep C42 len42 (_ ++ [48 + (m1 / 100)]) ∧ len42 = len28 + 1 := p42
      have w : zW D _ _ s [(h, .inr (2, [.ref hw, .ref hn])), (hn, .inr (0, [.ref hc, .int (zI len42)])), (hc, .inl (cC, 400, .inl (zA C42)))] H locs := w
      refine lv_aload_n S.1 S.2.1 dX2_putExponent_45 rfl (lv_at hl 1 rfl) ?_
      refine lv_iload_n S.1 S.2.1 dX2_putExponent_46 rfl (lv_at hl 0 rfl) ?_
      refine z_bipush S dX2_putExponent_47 (by decide +kernel) ?_
      refine z_idiv S dX2_putExponent_49 (by omega) (by omega) ?_
      refine z_bipush S dX2_putExponent_50 (by decide +kernel) ?_
      refine z_irem S dX2_putExponent_52 (by omega) (by omega) ?_
      refine z_callvV (C := RX2) (n := 1) (As := [.int (zI ((m1 / 10) % 10))]) (rest := []) (wr := []) (wn := (fun (u : (Nat → Int) × Int) => [(h, .inr (2, [.ref hw, .ref hn])), (hn, .inr (0, [.ref hc, .int (zI u.2)])), (hc, .inl (cC, 400, .inl (zA u.1)))])) S w (c_X2_putDigit l D cC h hw hn hc C42 len42 _ ((m1 / 10) % 10) (by first | exact p42.1 | exact t28) (by omega) (by omega)) gX2_putExponent_X2_putDigit (by decide +kernel) rfl ⟨rfl, rfl⟩ ⟨Nat.le_of_ble_eq_true rfl, Nat.le_of_ble_eq_true rfl⟩ [0] [0, 1, 2] [] [0, 1, 2] rfl rfl rfl rfl rfl (by decide) (fun u => rfl) rfl rfl rfl rfl rfl hl.1 (Nat.le_of_ble_eq_true rfl) ⟨Nat.le_of_ble_eq_true rfl, Nat.le_of_ble_eq_true rfl⟩ rfl dX2_putExponent_53 (fun u H locs p53 w => ?_)
      obtain ⟨C53, len53⟩ := u
      have p53 : lRep C53 len53 (_ ++ [48 + ((m1 / 10) % 10)]) ∧ len53 = len42 + 1 := p53
      have w : zW D _ _ s [(h, .inr (2, [.ref hw, .ref hn])), (hn, .inr (0, [.ref hc, .int (zI len53)])), (hc, .inl (cC, 400, .inl (zA C53)))] H locs := w
      refine lv_aload_n S.1 S.2.1 dX2_putExponent_56 rfl (lv_at hl 1 rfl) ?_
      refine lv_iload_n S.1 S.2.1 dX2_putExponent_57 rfl (lv_at hl 0 rfl) ?_
      refine z_bipush S dX2_putExponent_58 (by decide +kernel) ?_
      refine z_irem S dX2_putExponent_60 (by omega) (by omega) ?_
      refine z_callvV (C := RX2) (n := 1) (As := [.int (zI (m1 % 10))]) (rest := []) (wr := []) (wn := (fun (u : (Nat → Int) × Int) => [(h, .inr (2, [.ref hw, .ref hn])), (hn, .inr (0, [.ref hc, .int (zI u.2)])), (hc, .inl (cC, 400, .inl (zA u.1)))])) S w (c_X2_putDigit l D cC h hw hn hc C53 len53 _ (m1 % 10) p53.1 (by omega) (by omega)) gX2_putExponent_X2_putDigit (by decide +kernel) rfl ⟨rfl, rfl⟩ ⟨Nat.le_of_ble_eq_true rfl, Nat.le_of_ble_eq_true rfl⟩ [0] [0, 1, 2] [] [0, 1, 2] rfl rfl rfl rfl rfl (by decide) (fun u => rfl) rfl rfl rfl rfl rfl hl.1 (Nat.le_of_ble_eq_true rfl) ⟨Nat.le_of_ble_eq_true rfl, Nat.le_of_ble_eq_true rfl⟩ rfl dX2_putExponent_61 (fun u H locs p61 w => ?_)
      obtain ⟨C61, len61⟩ := u
      have p61 : lRep C61 len61 (_ ++ [48 + (m1 % 10)]) ∧ len61 = len53 + 1 := p61
      have w : zW D _ _ s [(h, .inr (2, [.ref hw, .ref hn])), (hn, .inr (0, [.ref hc, .int (zI len61)])), (hc, .inl (cC, 400, .inl (zA C61)))] H locs := w
      have k2_ : lRep C61 len61 (T ++ exT po mk) ∧ len61 = len + ((exT po mk).length : Int) := by
        have q1 := p61.1
        have e : exT po mk = [mk, if po < 0 then 45 else 43] ++ (if 100 ≤ m1 then [48 + m1 / 100] else []) ++ [48 + m1 / 10 % 10, 48 + m1 % 10] := by unfold exT; rw [ea]
        rw [e]
        first
          | (rw [if_pos (show po < 0 by omega), if_pos (show 100 ≤ m1 by omega)]; simp only [List.append_assoc, List.singleton_append, List.cons_append, List.nil_append, List.append_nil] at q1 ⊢; exact ⟨q1, by simp only [List.length_cons, List.length_nil]; omega⟩)
          | (rw [if_pos (show po < 0 by omega), if_neg (show ¬ 100 ≤ m1 by omega)]; simp only [List.append_assoc, List.singleton_append, List.cons_append, List.nil_append, List.append_nil] at q1 ⊢; exact ⟨q1, by simp only [List.length_cons, List.length_nil]; omega⟩)
          | (rw [if_neg (show ¬ po < 0 by omega), if_pos (show 100 ≤ m1 by omega)]; simp only [List.append_assoc, List.singleton_append, List.cons_append, List.nil_append, List.append_nil] at q1 ⊢; exact ⟨q1, by simp only [List.length_cons, List.length_nil]; omega⟩)
          | (rw [if_neg (show ¬ po < 0 by omega), if_neg (show ¬ 100 ≤ m1 by omega)]; simp only [List.append_assoc, List.singleton_append, List.cons_append, List.nil_append, List.append_nil] at q1 ⊢; exact ⟨q1, by simp only [List.length_cons, List.length_nil]; omega⟩)
      exact z_vret S hr hlk w (C61, len61) k2_ rfl dX2_putExponent_64
  · skip
    refine z_bipush S dX2_putExponent_21 (by decide +kernel) ?_
    refine lv_goto (tgt := 28) S.1 S.2.1 dX2_putExponent_23 (by decide) ?_
    refine z_callvV (C := RX0) (n := 1) (As := [.int (zI 45)]) (rest := []) (wr := [(h, .inr (2, [.ref hw, .ref hn]))]) (wn := (fun (u : (Nat → Int) × Int) => [(h, .inr (2, [.ref hw, .ref hn])), (hn, .inr (0, [.ref hc, .int (zI u.2)])), (hc, .inl (cC, 400, .inl (zA u.1)))])) S w (c_X0_put l D cC hn hc C10 len10 45 (by omega) (by omega)) gX2_putExponent_X0_put (by decide +kernel) rfl ⟨rfl, rfl⟩ ⟨Nat.le_of_ble_eq_true rfl, Nat.le_of_ble_eq_true rfl⟩ [0] [1, 2] [0] [0, 1, 2] rfl rfl rfl rfl rfl (by decide) (fun u => rfl) rfl rfl rfl rfl rfl hl.1 (Nat.le_of_ble_eq_true rfl) ⟨Nat.le_of_ble_eq_true rfl, Nat.le_of_ble_eq_true rfl⟩ rfl dX2_putExponent_28 (fun u H locs p28 w => ?_)
    obtain ⟨C28, len28⟩ := u
    have p28 : C28 = zu C10 len10.toNat (45 : Int) ∧ len28 = len10 + 1 := p28
    have w : zW D _ _ s [(h, .inr (2, [.ref hw, .ref hn])), (hn, .inr (0, [.ref hc, .int (zI len28)])), (hc, .inl (cC, 400, .inl (zA C28)))] H locs := w
    have t28 := lRep_put' t10 (by omega) p28
    refine lv_iload_n S.1 S.2.1 dX2_putExponent_31 rfl (lv_at hl 0 rfl) ?_
    refine z_bipush S dX2_putExponent_32 (by decide +kernel) ?_
    refine z_icmp_lt (tgt := 45) S dX2_putExponent_34 (by decide) (by omega) (by omega) (fun h34 => ?_) (fun h34 => ?_)
    · skip
      refine lv_aload_n S.1 S.2.1 dX2_putExponent_45 rfl (lv_at hl 1 rfl) ?_
      refine lv_iload_n S.1 S.2.1 dX2_putExponent_46 rfl (lv_at hl 0 rfl) ?_
      refine z_bipush S dX2_putExponent_47 (by decide +kernel) ?_
      refine z_idiv S dX2_putExponent_49 (by omega) (by omega) ?_
      refine z_bipush S dX2_putExponent_50 (by decide +kernel) ?_
      refine z_irem S dX2_putExponent_52 (by omega) (by omega) ?_
      refine z_callvV (C := RX2) (n := 1) (As := [.int (zI ((m1 / 10) % 10))]) (rest := []) (wr := []) (wn := (fun (u : (Nat → Int) × Int) => [(h, .inr (2, [.ref hw, .ref hn])), (hn, .inr (0, [.ref hc, .int (zI u.2)])), (hc, .inl (cC, 400, .inl (zA u.1)))])) S w (c_X2_putDigit l D cC h hw hn hc C28 len28 _ ((m1 / 10) % 10) (by first | exact p42.1 | exact t28) (by omega) (by omega)) gX2_putExponent_X2_putDigit (by decide +kernel) rfl ⟨rfl, rfl⟩ ⟨Nat.le_of_ble_eq_true rfl, Nat.le_of_ble_eq_true rfl⟩ [0] [0, 1, 2] [] [0, 1, 2] rfl rfl rfl rfl rfl (by decide) (fun u => rfl) rfl rfl rfl rfl rfl hl.1 (Nat.le_of_ble_eq_true rfl) ⟨Nat.le_of_ble_eq_true rfl, Nat.le_of_ble_eq_true rfl⟩ rfl dX2_putExponent_53 (fun u H locs p53 w => ?_)
      obtain ⟨C53, len53⟩ := u
      have p53 : lRep C53 len53 (_ ++ [48 + ((m1 / 10) % 10)]) ∧ len53 = len28 + 1 := p53
      have w : zW D _ _ s [(h, .inr (2, [.ref hw, .ref hn])), (hn, .inr (0, [.ref hc, .int (zI len53)])), (hc, .inl (cC, 400, .inl (zA C53)))] H locs := w
      refine lv_aload_n S.1 S.2.1 dX2_putExponent_56 rfl (lv_at hl 1 rfl) ?_
      refine lv_iload_n S.1 S.2.1 dX2_putExponent_57 rfl (lv_at hl 0 rfl) ?_
      refine z_bipush S dX2_putExponent_58 (by decide +kernel) ?_
      refine z_irem S dX2_putExponent_60 (by omega) (by omega) ?_
      refine z_callvV (C := RX2) (n := 1) (As := [.int (zI (m1 % 10))]) (rest := []) (wr := []) (wn := (fun (u : (Nat → Int) × Int) => [(h, .inr (2, [.ref hw, .ref hn])), (hn, .inr (0, [.ref hc, .int (zI u.2)])), (hc, .inl (cC, 400, .inl (zA u.1)))])) S w (c_X2_putDigit l D cC h hw hn hc C53 len53 _ (m1 % 10) p53.1 (by omega) (by omega)) gX2_putExponent_X2_putDigit (by decide +kernel) rfl ⟨rfl, rfl⟩ ⟨Nat.le_of_ble_eq_true rfl, Nat.le_of_ble_eq_true rfl⟩ [0] [0, 1, 2] [] [0, 1, 2] rfl rfl rfl rfl rfl (by decide) (fun u => rfl) rfl rfl rfl rfl rfl hl.1 (Nat.le_of_ble_eq_true rfl) ⟨Nat.le_of_ble_eq_true rfl, Nat.le_of_ble_eq_true rfl⟩ rfl dX2_putExponent_61 (fun u H locs p61 w => ?_)
      obtain ⟨C61, len61⟩ := u
      have p61 : lRep C61 len61 (_ ++ [48 + (m1 % 10)]) ∧ len61 = len53 + 1 := p61
      have w : zW D _ _ s [(h, .inr (2, [.ref hw, .ref hn])), (hn, .inr (0, [.ref hc, .int (zI len61)])), (hc, .inl (cC, 400, .inl (zA C61)))] H locs := w
      have k3_ : lRep C61 len61 (T ++ exT po mk) ∧ len61 = len + ((exT po mk).length : Int) := by
        have q1 := p61.1
        have e : exT po mk = [mk, if po < 0 then 45 else 43] ++ (if 100 ≤ m1 then [48 + m1 / 100] else []) ++ [48 + m1 / 10 % 10, 48 + m1 % 10] := by unfold exT; rw [ea]
        rw [e]
        first
          | (rw [if_pos (show po < 0 by omega), if_pos (show 100 ≤ m1 by omega)]; simp only [List.append_assoc, List.singleton_append, List.cons_append, List.nil_append, List.append_nil] at q1 ⊢; exact ⟨q1, by simp only [List.length_cons, List.length_nil]; omega⟩)
          | (rw [if_pos (show po < 0 by omega), if_neg (show ¬ 100 ≤ m1 by omega)]; simp only [List.append_assoc, List.singleton_append, List.cons_append, List.nil_append, List.append_nil] at q1 ⊢; exact ⟨q1, by simp only [List.length_cons, List.length_nil]; omega⟩)
          | (rw [if_neg (show ¬ po < 0 by omega), if_pos (show 100 ≤ m1 by omega)]; simp only [List.append_assoc, List.singleton_append, List.cons_append, List.nil_append, List.append_nil] at q1 ⊢; exact ⟨q1, by simp only [List.length_cons, List.length_nil]; omega⟩)
          | (rw [if_neg (show ¬ po < 0 by omega), if_neg (show ¬ 100 ≤ m1 by omega)]; simp only [List.append_assoc, List.singleton_append, List.cons_append, List.nil_append, List.append_nil] at q1 ⊢; exact ⟨q1, by simp only [List.length_cons, List.length_nil]; omega⟩)
      exact z_vret S hr hlk w (C61, len61) k3_ rfl dX2_putExponent_64
    · skip
      refine lv_aload_n S.1 S.2.1 dX2_putExponent_37 rfl (lv_at hl 1 rfl) ?_
      refine lv_iload_n S.1 S.2.1 dX2_putExponent_38 rfl (lv_at hl 0 rfl) ?_
      refine z_bipush S dX2_putExponent_39 (by decide +kernel) ?_
      refine z_idiv S dX2_putExponent_41 (by omega) (by omega) ?_
      refine z_callvV (C := RX2) (n := 1) (As := [.int (zI (m1 / 100))]) (rest := []) (wr := []) (wn := (fun (u : (Nat → Int) × Int) => [(h, .inr (2, [.ref hw, .ref hn])), (hn, .inr (0, [.ref hc, .int (zI u.2)])), (hc, .inl (cC, 400, .inl (zA u.1)))])) S w (c_X2_putDigit l D cC h hw hn hc C28 len28 _ (m1 / 100) t28 (by omega) (by omega)) gX2_putExponent_X2_putDigit (by decide +kernel) rfl ⟨rfl, rfl⟩ ⟨Nat.le_of_ble_eq_true rfl, Nat.le_of_ble_eq_true rfl⟩ [0] [0, 1, 2] [] [0, 1, 2] rfl rfl rfl rfl rfl (by decide) (fun u => rfl) rfl rfl rfl rfl rfl hl.1 (Nat.le_of_ble_eq_true rfl) ⟨Nat.le_of_ble_eq_true rfl, Nat.le_of_ble_eq_true rfl⟩ rfl dX2_putExponent_42 (fun u H locs p42 w => ?_)
      obtain ⟨C42, len42⟩ := u
      have p42 : lRep C42 len42 (_ ++ [48 + (m1 / 100)]) ∧ len42 = len28 + 1 := p42
      have w : zW D _ _ s [(h, .inr (2, [.ref hw, .ref hn])), (hn, .inr (0, [.ref hc, .int (zI len42)])), (hc, .inl (cC, 400, .inl (zA C42)))] H locs := w
      refine lv_aload_n S.1 S.2.1 dX2_putExponent_45 rfl (lv_at hl 1 rfl) ?_
      refine lv_iload_n S.1 S.2.1 dX2_putExponent_46 rfl (lv_at hl 0 rfl) ?_
      refine z_bipush S dX2_putExponent_47 (by decide +kernel) ?_
      refine z_idiv S dX2_putExponent_49 (by omega) (by omega) ?_
      refine z_bipush S dX2_putExponent_50 (by decide +kernel) ?_
      refine z_irem S dX2_putExponent_52 (by omega) (by omega) ?_
      refine z_callvV (C := RX2) (n := 1) (As := [.int (zI ((m1 / 10) % 10))]) (rest := []) (wr := []) (wn := (fun (u : (Nat → Int) × Int) => [(h, .inr (2, [.ref hw, .ref hn])), (hn, .inr (0, [.ref hc, .int (zI u.2)])), (hc, .inl (cC, 400, .inl (zA u.1)))])) S w (c_X2_putDigit l D cC h hw hn hc C42 len42 _ ((m1 / 10) % 10) (by first | exact p42.1 | exact t28) (by omega) (by omega)) gX2_putExponent_X2_putDigit (by decide +kernel) rfl ⟨rfl, rfl⟩ ⟨Nat.le_of_ble_eq_true rfl, Nat.le_of_ble_eq_true rfl⟩ [0] [0, 1, 2] [] [0, 1, 2] rfl rfl rfl rfl rfl (by decide) (fun u => rfl) rfl rfl rfl rfl rfl hl.1 (Nat.le_of_ble_eq_true rfl) ⟨Nat.le_of_ble_eq_true rfl, Nat.le_of_ble_eq_true rfl⟩ rfl dX2_putExponent_53 (fun u H locs p53 w => ?_)
      obtain ⟨C53, len53⟩ := u
      have p53 : lRep C53 len53 (_ ++ [48 + ((m1 / 10) % 10)]) ∧ len53 = len42 + 1 := p53
      have w : zW D _ _ s [(h, .inr (2, [.ref hw, .ref hn])), (hn, .inr (0, [.ref hc, .int (zI len53)])), (hc, .inl (cC, 400, .inl (zA C53)))] H locs := w
      refine lv_aload_n S.1 S.2.1 dX2_putExponent_56 rfl (lv_at hl 1 rfl) ?_
      refine lv_iload_n S.1 S.2.1 dX2_putExponent_57 rfl (lv_at hl 0 rfl) ?_
      refine z_bipush S dX2_putExponent_58 (by decide +kernel) ?_
      refine z_irem S dX2_putExponent_60 (by omega) (by omega) ?_
      refine z_callvV (C := RX2) (n := 1) (As := [.int (zI (m1 % 10))]) (rest := []) (wr := []) (wn := (fun (u : (Nat → Int) × Int) => [(h, .inr (2, [.ref hw, .ref hn])), (hn, .inr (0, [.ref hc, .int (zI u.2)])), (hc, .inl (cC, 400, .inl (zA u.1)))])) S w (c_X2_putDigit l D cC h hw hn hc C53 len53 _ (m1 % 10) p53.1 (by omega) (by omega)) gX2_putExponent_X2_putDigit (by decide +kernel) rfl ⟨rfl, rfl⟩ ⟨Nat.le_of_ble_eq_true rfl, Nat.le_of_ble_eq_true rfl⟩ [0] [0, 1, 2] [] [0, 1, 2] rfl rfl rfl rfl rfl (by decide) (fun u => rfl) rfl rfl rfl rfl rfl hl.1 (Nat.le_of_ble_eq_true rfl) ⟨Nat.le_of_ble_eq_true rfl, Nat.le_of_ble_eq_true rfl⟩ rfl dX2_putExponent_61 (fun u H locs p61 w => ?_)
      obtain ⟨C61, len61⟩ := u
      have p61 : lRep C61 len61 (_ ++ [48 + (m1 % 10)]) ∧ len61 = len53 + 1 := p61
      have w : zW D _ _ s [(h, .inr (2, [.ref hw, .ref hn])), (hn, .inr (0, [.ref hc, .int (zI len61)])), (hc, .inl (cC, 400, .inl (zA C61)))] H locs := w
      have k4_ : lRep C61 len61 (T ++ exT po mk) ∧ len61 = len + ((exT po mk).length : Int) := by
        have q1 := p61.1
        have e : exT po mk = [mk, if po < 0 then 45 else 43] ++ (if 100 ≤ m1 then [48 + m1 / 100] else []) ++ [48 + m1 / 10 % 10, 48 + m1 % 10] := by unfold exT; rw [ea]
        rw [e]
        first
          | (rw [if_pos (show po < 0 by omega), if_pos (show 100 ≤ m1 by omega)]; simp only [List.append_assoc, List.singleton_append, List.cons_append, List.nil_append, List.append_nil] at q1 ⊢; exact ⟨q1, by simp only [List.length_cons, List.length_nil]; omega⟩)
          | (rw [if_pos (show po < 0 by omega), if_neg (show ¬ 100 ≤ m1 by omega)]; simp only [List.append_assoc, List.singleton_append, List.cons_append, List.nil_append, List.append_nil] at q1 ⊢; exact ⟨q1, by simp only [List.length_cons, List.length_nil]; omega⟩)
          | (rw [if_neg (show ¬ po < 0 by omega), if_pos (show 100 ≤ m1 by omega)]; simp only [List.append_assoc, List.singleton_append, List.cons_append, List.nil_append, List.append_nil] at q1 ⊢; exact ⟨q1, by simp only [List.length_cons, List.length_nil]; omega⟩)
          | (rw [if_neg (show ¬ po < 0 by omega), if_neg (show ¬ 100 ≤ m1 by omega)]; simp only [List.append_assoc, List.singleton_append, List.cons_append, List.nil_append, List.append_nil] at q1 ⊢; exact ⟨q1, by simp only [List.length_cons, List.length_nil]; omega⟩)
      exact z_vret S hr hlk w (C61, len61) k4_ rfl dX2_putExponent_64

set_option maxRecDepth 20000 in
theorem ln_X2_pad_19 : Cond.fieldLink RX2 19 "DecimalText" "line" "LDecimalText$Line;" ∈ wsX2_pad := by decide +kernel
theorem in_X2_pad_X2 : ∀ w ∈ u_ws RX2 TX2 2, w ∈ wsX2_pad := by decide +kernel
set_option maxHeartbeats 4000000 in
set_option maxRecDepth 100000 in
theorem c_X2_pad (l : Launch) (D : va_G) (cC : ClassId) (h : Nat) (hw : Nat) (hn : Nat) (hc : Nat) (C : Nat → Int) (len : Int) (T : List Int) (bs : Int) (mi : Int) (fin : Int) (fl : Int) (hT : lRep C len T) (hlen : len ≤ 400) (hbs : 0 ≤ bs ∧ bs ≤ len) (hmi : -1000 ≤ mi ∧ mi ≤ 400 - len) (hfin : fin = 0 ∨ fin = 1) (hfl : 0 ≤ fl ∧ fl ≤ 31) : zMv (T := (Nat → Int) × Int) l yX2_pad wsX2_pad ({ frames := 1, cells := 0, slots := 0, locals := 24 } : Room) D [(cC, .char)] [.ref h, .int (zI bs), .int (zI mi), .int (zI fin), .int (zI fl)] [(h, .inr (2, [.ref hw, .ref hn])), (hn, .inr (0, [.ref hc, .int (zI len)])), (hc, .inl (cC, 400, .inl (zA C)))] (fun (u : (Nat → Int) × Int) => tRep u.1 u.2 (padT T bs mi fin fl)) (fun (u : (Nat → Int) × Int) => [(h, .inr (2, [.ref hw, .ref hn])), (hn, .inr (0, [.ref hc, .int (zI u.2)])), (hc, .inl (cC, 400, .inl (zA u.1)))]) 0 0 := by
  refine zMv.of (bytes := cX2_pad) (nL := 5) (own := RX2) (by decide) rfl rfl (Nat.le_of_ble_eq_true rfl) ?_
  intro p e s m below meth c ls S hr hlk hnm w hl
  have hl : lv_has ls 5 [(0, .ref h), (1, .int (zI bs)), (2, .int (zI mi)), (3, .int (zI fin)), (4, .int (zI fl))] := hl
  have hl0 := hT.1.1
  have hCr := hT.2
  refine lv_iload S.1 S.2.1 dX2_pad_0 (lv_at hl 4 rfl) ?_
  refine z_iconst S dX2_pad_2 ?_
  refine z_calliS (n := 2) (As := [.int (zI fl), .int (zI 1)]) (rest := []) (wr := [(h, .inr (2, [.ref hw, .ref hn])), (hn, .inr (0, [.ref hc, .int (zI len)])), (hc, .inl (cC, 400, .inl (zA C)))]) (wn := (fun (u : Unit) => [(h, .inr (2, [.ref hw, .ref hn])), (hn, .inr (0, [.ref hc, .int (zI len)])), (hc, .inl (cC, 400, .inl (zA C)))])) S w (c_X2_has l D fl 1 (by omega) (by decide)) gX2_pad_X2_has (by decide +kernel) rfl ⟨rfl, rfl⟩ ⟨Nat.le_of_ble_eq_true rfl, Nat.le_of_ble_eq_true rfl⟩ [] [] [0, 1, 2] [0, 1, 2] rfl rfl rfl rfl rfl (by decide) (fun u => rfl) rfl rfl hl.1 (Nat.le_of_ble_eq_true rfl) ⟨Nat.le_of_ble_eq_true rfl, Nat.le_of_ble_eq_true rfl⟩ rfl dX2_pad_3 (fun z3 _ H locs p3 w => ?_)
  have p3 : (z3 = 1 ∧ fl / (1 : Int) % 2 = 1) ∨ (z3 = 0 ∧ fl / (1 : Int) % 2 ≠ 1) := p3
  have w : zW D _ _ s [(h, .inr (2, [.ref hw, .ref hn])), (hn, .inr (0, [.ref hc, .int (zI len)])), (hc, .inl (cC, 400, .inl (zA C)))] H locs := w
  refine z_if_eq (tgt := 29) S dX2_pad_6 (by decide) (by omega) (fun h6 => ?_) (fun h6 => ?_)
  · skip
    refine lv_iload S.1 S.2.1 dX2_pad_29 (lv_at hl 4 rfl) ?_
    refine z_bipush S dX2_pad_31 (by decide +kernel) ?_
    refine z_calliS (n := 2) (As := [.int (zI fl), .int (zI 8)]) (rest := []) (wr := [(h, .inr (2, [.ref hw, .ref hn])), (hn, .inr (0, [.ref hc, .int (zI len)])), (hc, .inl (cC, 400, .inl (zA C)))]) (wn := (fun (u : Unit) => [(h, .inr (2, [.ref hw, .ref hn])), (hn, .inr (0, [.ref hc, .int (zI len)])), (hc, .inl (cC, 400, .inl (zA C)))])) S w (c_X2_has l D fl 8 (by omega) (by decide)) gX2_pad_X2_has (by decide +kernel) rfl ⟨rfl, rfl⟩ ⟨Nat.le_of_ble_eq_true rfl, Nat.le_of_ble_eq_true rfl⟩ [] [] [0, 1, 2] [0, 1, 2] rfl rfl rfl rfl rfl (by decide) (fun u => rfl) rfl rfl hl.1 (Nat.le_of_ble_eq_true rfl) ⟨Nat.le_of_ble_eq_true rfl, Nat.le_of_ble_eq_true rfl⟩ rfl dX2_pad_33 (fun z33 _ H locs p33 w => ?_)
    have p33 : (z33 = 1 ∧ fl / (8 : Int) % 2 = 1) ∨ (z33 = 0 ∧ fl / (8 : Int) % 2 ≠ 1) := p33
    have w : zW D _ _ s [(h, .inr (2, [.ref hw, .ref hn])), (hn, .inr (0, [.ref hc, .int (zI len)])), (hc, .inl (cC, 400, .inl (zA C)))] H locs := w
    refine z_if_eq (tgt := 57) S dX2_pad_36 (by decide) (by omega) (fun h36 => ?_) (fun h36 => ?_)
    · skip
      refine lv_aload_n S.1 S.2.1 dX2_pad_57 rfl (lv_at hl 0 rfl) ?_
      refine z_get (ci := 2) (C := RX2) (T := TX2) (N := 2) S w 0 rfl rfl in_X2_pad_X2 1 (by decide) ln_X2_pad_19 rfl rfl dX2_pad_58 ?_
      refine z_iconst S dX2_pad_61 ?_
      refine lv_iload_n S.1 S.2.1 dX2_pad_62 rfl (lv_at hl 2 rfl) ?_
      refine z_bipush S dX2_pad_63 (by decide +kernel) ?_
      refine z_callvV (C := RX0) (n := 3) (As := [.int (zI 0), .int (zI mi), .int (zI 32)]) (rest := []) (wr := [(h, .inr (2, [.ref hw, .ref hn]))]) (wn := (fun (u : (Nat → Int) × Int) => [(h, .inr (2, [.ref hw, .ref hn])), (hn, .inr (0, [.ref hc, .int (zI u.2)])), (hc, .inl (cC, 400, .inl (zA u.1)))])) S w (c_X0_insert l D cC hn hc C len 0 mi 32 (by omega) (by omega) (by omega) (by omega) hCr) gX2_pad_X0_insert (by decide +kernel) rfl ⟨rfl, rfl⟩ ⟨Nat.le_of_ble_eq_true rfl, Nat.le_of_ble_eq_true rfl⟩ [0] [1, 2] [0] [0, 1, 2] rfl rfl rfl rfl rfl (by decide) (fun u => rfl) rfl rfl rfl rfl rfl hl.1 (Nat.le_of_ble_eq_true rfl) ⟨Nat.le_of_ble_eq_true rfl, Nat.le_of_ble_eq_true rfl⟩ rfl dX2_pad_65 (fun u H locs p65 w => ?_)
      obtain ⟨C65, len65⟩ := u
      have p65 : (mi ≤ 0 → C65 = C ∧ len65 = len) ∧ (0 < mi → len65 = len + mi ∧ ∀ j : Nat, (j : Int) < len + mi → C65 j = if (j : Int) < (0 : Int) then C j else if (j : Int) < (0 : Int) + mi then (32 : Int) else C (j - mi.toNat)) := p65
      have w : zW D _ _ s [(h, .inr (2, [.ref hw, .ref hn])), (hn, .inr (0, [.ref hc, .int (zI len65)])), (hc, .inl (cC, 400, .inl (zA C65)))] H locs := w
      have k1_ : tRep C65 len65 (padT T bs mi fin fl) := by
        unfold padT
        by_cases q : mi ≤ 0
        · rw [if_pos q, (p65.1 q).1, (p65.1 q).2]; exact hT.1
        · rw [if_neg q, if_neg (by omega), if_neg (by omega), (p65.2 (by omega)).1]
          exact tRep_ins hT.1 (pl := 0) (by omega) (by omega : 0 < mi) (p65.2 (by omega)).2
      exact z_vret S hr hlk w (C65, len65) k1_ rfl dX2_pad_68
    · skip
      refine lv_iload_n S.1 S.2.1 dX2_pad_39 rfl (lv_at hl 3 rfl) ?_
      refine z_if_eq (tgt := 57) S dX2_pad_40 (by decide) (by omega) (fun h40 => ?_) (fun h40 => ?_)
      · skip
        refine lv_aload_n S.1 S.2.1 dX2_pad_57 rfl (lv_at hl 0 rfl) ?_
        refine z_get (ci := 2) (C := RX2) (T := TX2) (N := 2) S w 0 rfl rfl in_X2_pad_X2 1 (by decide) ln_X2_pad_19 rfl rfl dX2_pad_58 ?_
        refine z_iconst S dX2_pad_61 ?_
        refine lv_iload_n S.1 S.2.1 dX2_pad_62 rfl (lv_at hl 2 rfl) ?_
        refine z_bipush S dX2_pad_63 (by decide +kernel) ?_
        refine z_callvV (C := RX0) (n := 3) (As := [.int (zI 0), .int (zI mi), .int (zI 32)]) (rest := []) (wr := [(h, .inr (2, [.ref hw, .ref hn]))]) (wn := (fun (u : (Nat → Int) × Int) => [(h, .inr (2, [.ref hw, .ref hn])), (hn, .inr (0, [.ref hc, .int (zI u.2)])), (hc, .inl (cC, 400, .inl (zA u.1)))])) S w (c_X0_insert l D cC hn hc C len 0 mi 32 (by omega) (by omega) (by omega) (by omega) hCr) gX2_pad_X0_insert (by decide +kernel) rfl ⟨rfl, rfl⟩ ⟨Nat.le_of_ble_eq_true rfl, Nat.le_of_ble_eq_true rfl⟩ [0] [1, 2] [0] [0, 1, 2] rfl rfl rfl rfl rfl (by decide) (fun u => rfl) rfl rfl rfl rfl rfl hl.1 (Nat.le_of_ble_eq_true rfl) ⟨Nat.le_of_ble_eq_true rfl, Nat.le_of_ble_eq_true rfl⟩ rfl dX2_pad_65 (fun u H locs p65 w => ?_)
        obtain ⟨C65, len65⟩ := u
        have p65 : (mi ≤ 0 → C65 = C ∧ len65 = len) ∧ (0 < mi → len65 = len + mi ∧ ∀ j : Nat, (j : Int) < len + mi → C65 j = if (j : Int) < (0 : Int) then C j else if (j : Int) < (0 : Int) + mi then (32 : Int) else C (j - mi.toNat)) := p65
        have w : zW D _ _ s [(h, .inr (2, [.ref hw, .ref hn])), (hn, .inr (0, [.ref hc, .int (zI len65)])), (hc, .inl (cC, 400, .inl (zA C65)))] H locs := w
        have k2_ : tRep C65 len65 (padT T bs mi fin fl) := by
          unfold padT
          by_cases q : mi ≤ 0
          · rw [if_pos q, (p65.1 q).1, (p65.1 q).2]; exact hT.1
          · rw [if_neg q, if_neg (by omega), if_neg (by omega), (p65.2 (by omega)).1]
            exact tRep_ins hT.1 (pl := 0) (by omega) (by omega : 0 < mi) (p65.2 (by omega)).2
        exact z_vret S hr hlk w (C65, len65) k2_ rfl dX2_pad_68
      · skip
        refine lv_aload_n S.1 S.2.1 dX2_pad_43 rfl (lv_at hl 0 rfl) ?_
        refine z_get (ci := 2) (C := RX2) (T := TX2) (N := 2) S w 0 rfl rfl in_X2_pad_X2 1 (by decide) ln_X2_pad_19 rfl rfl dX2_pad_44 ?_
        refine lv_iload_n S.1 S.2.1 dX2_pad_47 rfl (lv_at hl 1 rfl) ?_
        refine lv_iload_n S.1 S.2.1 dX2_pad_48 rfl (lv_at hl 2 rfl) ?_
        refine z_bipush S dX2_pad_49 (by decide +kernel) ?_
        refine z_callvV (C := RX0) (n := 3) (As := [.int (zI bs), .int (zI mi), .int (zI 48)]) (rest := []) (wr := [(h, .inr (2, [.ref hw, .ref hn]))]) (wn := (fun (u : (Nat → Int) × Int) => [(h, .inr (2, [.ref hw, .ref hn])), (hn, .inr (0, [.ref hc, .int (zI u.2)])), (hc, .inl (cC, 400, .inl (zA u.1)))])) S w (c_X0_insert l D cC hn hc C len bs mi 48 (by omega) (by omega) (by omega) (by omega) hCr) gX2_pad_X0_insert (by decide +kernel) rfl ⟨rfl, rfl⟩ ⟨Nat.le_of_ble_eq_true rfl, Nat.le_of_ble_eq_true rfl⟩ [0] [1, 2] [0] [0, 1, 2] rfl rfl rfl rfl rfl (by decide) (fun u => rfl) rfl rfl rfl rfl rfl hl.1 (Nat.le_of_ble_eq_true rfl) ⟨Nat.le_of_ble_eq_true rfl, Nat.le_of_ble_eq_true rfl⟩ rfl dX2_pad_51 (fun u H locs p51 w => ?_)
        obtain ⟨C51, len51⟩ := u
        have p51 : (mi ≤ 0 → C51 = C ∧ len51 = len) ∧ (0 < mi → len51 = len + mi ∧ ∀ j : Nat, (j : Int) < len + mi → C51 j = if (j : Int) < bs then C j else if (j : Int) < bs + mi then (48 : Int) else C (j - mi.toNat)) := p51
        have w : zW D _ _ s [(h, .inr (2, [.ref hw, .ref hn])), (hn, .inr (0, [.ref hc, .int (zI len51)])), (hc, .inl (cC, 400, .inl (zA C51)))] H locs := w
        refine lv_goto (tgt := 68) S.1 S.2.1 dX2_pad_54 (by decide) ?_
        have k3_ : tRep C51 len51 (padT T bs mi fin fl) := by
          unfold padT
          by_cases q : mi ≤ 0
          · rw [if_pos q, (p51.1 q).1, (p51.1 q).2]; exact hT.1
          · rw [if_neg q, if_neg (by omega), if_pos (by omega), (p51.2 (by omega)).1]
            exact tRep_ins hT.1 (by omega) (by omega : 0 < mi) (p51.2 (by omega)).2
        exact z_vret S hr hlk w (C51, len51) k3_ rfl dX2_pad_68
  · skip
    refine lv_aload_n S.1 S.2.1 dX2_pad_9 rfl (lv_at hl 0 rfl) ?_
    refine z_get (ci := 2) (C := RX2) (T := TX2) (N := 2) S w 0 rfl rfl in_X2_pad_X2 1 (by decide) ln_X2_pad_19 rfl rfl dX2_pad_10 ?_
    refine lv_aload_n S.1 S.2.1 dX2_pad_13 rfl (lv_at hl 0 rfl) ?_
    refine z_get (ci := 2) (C := RX2) (T := TX2) (N := 2) S w 0 rfl rfl in_X2_pad_X2 1 (by decide) ln_X2_pad_19 rfl rfl dX2_pad_14 ?_
    refine z_calliV (C := RX0) (n := 0) (As := []) (rest := [.ref hn]) (wr := [(h, .inr (2, [.ref hw, .ref hn]))]) (wn := (fun (u : Unit) => [(h, .inr (2, [.ref hw, .ref hn])), (hn, .inr (0, [.ref hc, .int (zI len)])), (hc, .inl (cC, 400, .inl (zA C)))])) S w (c_X0_length l D cC hn hc C len) gX2_pad_X0_length (by decide +kernel) rfl ⟨rfl, rfl⟩ ⟨Nat.le_of_ble_eq_true rfl, Nat.le_of_ble_eq_true rfl⟩ [0] [1, 2] [0] [0, 1, 2] rfl rfl rfl rfl rfl (by decide) (fun u => rfl) rfl rfl rfl rfl rfl hl.1 (Nat.le_of_ble_eq_true rfl) ⟨Nat.le_of_ble_eq_true rfl, Nat.le_of_ble_eq_true rfl⟩ rfl dX2_pad_17 (fun z17 _ H locs p17 w => ?_)
    have p17 : z17 = len := p17
    have w : zW D _ _ s [(h, .inr (2, [.ref hw, .ref hn])), (hn, .inr (0, [.ref hc, .int (zI len)])), (hc, .inl (cC, 400, .inl (zA C)))] H locs := w
    refine lv_iload_n S.1 S.2.1 dX2_pad_20 rfl (lv_at hl 2 rfl) ?_
    refine z_bipush S dX2_pad_21 (by decide +kernel) ?_
    refine z_callvV (C := RX0) (n := 3) (As := [.int (zI z17), .int (zI mi), .int (zI 32)]) (rest := []) (wr := [(h, .inr (2, [.ref hw, .ref hn]))]) (wn := (fun (u : (Nat → Int) × Int) => [(h, .inr (2, [.ref hw, .ref hn])), (hn, .inr (0, [.ref hc, .int (zI u.2)])), (hc, .inl (cC, 400, .inl (zA u.1)))])) S w (c_X0_insert l D cC hn hc C len z17 mi 32 (by omega) (by omega) (by omega) (by omega) hCr) gX2_pad_X0_insert (by decide +kernel) rfl ⟨rfl, rfl⟩ ⟨Nat.le_of_ble_eq_true rfl, Nat.le_of_ble_eq_true rfl⟩ [0] [1, 2] [0] [0, 1, 2] rfl rfl rfl rfl rfl (by decide) (fun u => rfl) rfl rfl rfl rfl rfl hl.1 (Nat.le_of_ble_eq_true rfl) ⟨Nat.le_of_ble_eq_true rfl, Nat.le_of_ble_eq_true rfl⟩ rfl dX2_pad_23 (fun u H locs p23 w => ?_)
    obtain ⟨C23, len23⟩ := u
    have p23 : (mi ≤ 0 → C23 = C ∧ len23 = len) ∧ (0 < mi → len23 = len + mi ∧ ∀ j : Nat, (j : Int) < len + mi → C23 j = if (j : Int) < z17 then C j else if (j : Int) < z17 + mi then (32 : Int) else C (j - mi.toNat)) := p23
    have w : zW D _ _ s [(h, .inr (2, [.ref hw, .ref hn])), (hn, .inr (0, [.ref hc, .int (zI len23)])), (hc, .inl (cC, 400, .inl (zA C23)))] H locs := w
    refine lv_goto (tgt := 68) S.1 S.2.1 dX2_pad_26 (by decide) ?_
    have k4_ : tRep C23 len23 (padT T bs mi fin fl) := by
      unfold padT
      by_cases q : mi ≤ 0
      · rw [if_pos q, (p23.1 q).1, (p23.1 q).2]; exact hT.1
      · rw [if_neg q, if_pos (by omega), (p23.2 (by omega)).1]
        have r := tRep_ins hT.1 (pl := z17) (by omega) (by omega : 0 < mi) (p23.2 (by omega)).2
        have e : z17.toNat = T.length := by omega
        rw [e, List.take_length, List.drop_length, List.append_nil] at r
        exact r
    exact z_vret S hr hlk w (C23, len23) k4_ rfl dX2_pad_68
