theorem exp_dg {r : Nat → Int} {n P e k : Int} {Y : Nat} (h : mRep r n P Y) (he : e = hiX Y) (hk : k ≤ 1199 + P) : mD r n k = gX Y (e - k) := by
  have h1 := mRep_hi h
  have h0 := mRep_0 h
  by_cases q : n = 0
  · have q1 := h0.mp q
    unfold mD gX
    rw [if_neg (by omega), q1, dg_big (p10_pos _)]; rfl
  · rw [if_neg q] at h1
    rw [mRep_dg h hk]
    congr 1; omega

set_option maxRecDepth 20000 in
theorem ln_X3_body_31 : Cond.fieldLink RX3 31 "DecimalTextModel" "point" "I" ∈ wsX3_body := by decide +kernel
theorem in_X3_body_X3 : ∀ w ∈ u_ws RX3 TX3 5, w ∈ wsX3_body := by decide +kernel
set_option maxRecDepth 20000 in
theorem ln_X3_body_23 : Cond.fieldLink RX3 23 "DecimalTextModel" "digits" "I" ∈ wsX3_body := by decide +kernel
set_option maxHeartbeats 4000000 in
set_option maxRecDepth 100000 in
theorem c_X3_body (l : Launch) (D : va_G) (cB cT : ClassId) (h : Nat) (hb : Nat) (ht : Nat) (r : Nat → Int) (n : Int) (P : Int) (tx : Nat → Int) (len : Int) (how : Int) (p1 : Int) (dot : Int) (X : Nat) (T : List Int) (hp : mRep r n P X) (hn : n ≤ 1190) (hP : -1100 ≤ P ∧ P ≤ 1100) (hXb : X ≤ 2 * 10 ^ 1508) (hhow : 0 ≤ how ∧ how ≤ 2) (hp1 : 0 ≤ p1 ∧ p1 ≤ 15) (hdot : dot = 0 ∨ dot = 1) (hT : tRep tx len T) (hlen : len ≤ 10) : zMv (T := (Nat → Int) × Int × Int × (Nat → Int) × Int) l yX3_body wsX3_body ({ frames := 2, cells := 0, slots := 0, locals := 47 } : Room) D [(cB, .byte), (cT, .int)] [.ref h, .int (zI how), .int (zI p1), .int (zI dot)] [(h, .inr (3, [.ref hb, .int (zI n), .int (zI P), .ref ht, .int (zI len)])), (hb, .inl (cB, 1200, .inl (zA r))), (ht, .inl (cT, 420, .inl (zA tx)))] (fun (u : (Nat → Int) × Int × Int × (Nat → Int) × Int) => tRep u.2.2.2.1 u.2.2.2.2 (T ++ (if how = 0 then plT X p1 (if 0 < p1 ∨ dot = 1 then (1 : Int) else 0) else epT X p1 (if 0 < p1 ∨ dot = 1 then (1 : Int) else 0) (if how = 2 then (69 : Int) else 101))) ∧ u.2.2.2.2 ≤ 340) (fun (u : (Nat → Int) × Int × Int × (Nat → Int) × Int) => [(h, .inr (3, [.ref hb, .int (zI u.2.1), .int (zI u.2.2.1), .ref ht, .int (zI u.2.2.2.2)])), (hb, .inl (cB, 1200, .inl (zA u.1))), (ht, .inl (cT, 420, .inl (zA u.2.2.2.1)))]) 0 0 := by
  refine zMv.of (bytes := cX3_body) (nL := 6) (own := RX3) (by decide) rfl rfl (Nat.le_of_ble_eq_true rfl) ?_
  intro p e s m below meth c ls S hr hlk hnm w hl
  have lab75 : ∀ (nf_ : Nat) (r1 : Nat → Int) (n1 : Int) (P1 : Int) (tx1 : Nat → Int) (len1 : Int) (Y : Nat) (k : Int), (p1 - k).toNat < nf_ → (Y = rX X (1200 - p1).toNat) → (mRep r1 n1 P1 Y) → (n1 ≤ 1200 ∧ -1200 ≤ P1 ∧ P1 ≤ 309) → (how = 0) → (0 ≤ k ∧ k ≤ p1) → (tRep tx1 len1 (T ++ dT (gX Y) (if 0 < hiX Y then hiX Y else 0) 0 ++ ptT (if 0 < p1 ∨ dot = 1 then (1 : Int) else 0) ++ dT (gX Y) (-1) (-k))) → (len1 ≤ len + 311 + k) → ∀ (H : Heap) (locs : List Loc) (ls : Array Slot), zW D [(cB, .byte), (cT, .int)] (va_A [(h, .inr (3, [.ref hb, .int (zI n), .int (zI P), .ref ht, .int (zI len)])), (hb, .inl (cB, 1200, .inl (zA r))), (ht, .inl (cT, 420, .inl (zA tx)))] s.heap.size) s [(h, .inr (3, [.ref hb, .int (zI n1), .int (zI P1), .ref ht, .int (zI len1)])), (hb, .inl (cB, 1200, .inl (zA r1))), (ht, .inl (cT, 420, .inl (zA tx1)))] H locs → lv_has ls 6 [(0, .ref h), (2, .int (zI p1)), (4, .int (zI k))] → W p l e ({ frames := 2, cells := 0, slots := 0, locals := 47 } : Room) s m ([.ref h, .int (zI how), .int (zI p1), .int (zI dot)] : List Value).toArray below meth c H locs 0 0 (MQ below (zQv D [(cB, .byte), (cT, .int)] [(h, .inr (3, [.ref hb, .int (zI n), .int (zI P), .ref ht, .int (zI len)])), (hb, .inl (cB, 1200, .inl (zA r))), (ht, .inl (cT, 420, .inl (zA tx)))] s.heap.size (fun (u : (Nat → Int) × Int × Int × (Nat → Int) × Int) => tRep u.2.2.2.1 u.2.2.2.2 (T ++ (if how = 0 then plT X p1 (if 0 < p1 ∨ dot = 1 then (1 : Int) else 0) else epT X p1 (if 0 < p1 ∨ dot = 1 then (1 : Int) else 0) (if how = 2 then (69 : Int) else 101))) ∧ u.2.2.2.2 ≤ 340) (fun (u : (Nat → Int) × Int × Int × (Nat → Int) × Int) => [(h, .inr (3, [.ref hb, .int (zI u.2.1), .int (zI u.2.2.1), .ref ht, .int (zI u.2.2.2.2)])), (hb, .inl (cB, 1200, .inl (zA u.1))), (ht, .inl (cT, 420, .inl (zA u.2.2.2.1)))])) ([.ref h, .int (zI how), .int (zI p1), .int (zI dot)] : List Value).toArray s 0 0 (va_A [(h, .inr (3, [.ref hb, .int (zI n), .int (zI P), .ref ht, .int (zI len)])), (hb, .inl (cB, 1200, .inl (zA r))), (ht, .inl (cT, 420, .inl (zA tx)))] s.heap.size)) (F0 m 75 ls []) := by
    intro nf_
    induction nf_ with
    | zero => intro r1 n1 P1 tx1 len1 Y k hmeas_; exact absurd hmeas_ (Nat.not_lt_zero _)
    | succ nf_ ih =>
      intro r1 n1 P1 tx1 len1 Y k hmeas_ hY0 hq hb1 hh hk t1 hl1 H locs ls w hl
      have hl0 := hT.1
      have g1 := hq.1.2.1
      have g2 := t1.1
      refine lv_iload S.1 S.2.1 dX3_body_75 (lv_at hl 2 rfl) ?_
      refine lv_iload_n S.1 S.2.1 dX3_body_77 rfl (lv_at hl 1 rfl) ?_
      refine z_icmp_ge (tgt := 105) S dX3_body_78 (by decide) (by omega) (by omega) (fun h78 => ?_) (fun h78 => ?_)
      · skip
        have k1_ : tRep tx1 len1 (T ++ (if how = 0 then plT X p1 (if 0 < p1 ∨ dot = 1 then (1 : Int) else 0) else epT X p1 (if 0 < p1 ∨ dot = 1 then (1 : Int) else 0) (if how = 2 then (69 : Int) else 101))) ∧ len1 ≤ 340 := by
          rw [if_pos hh]
          have q1 : k = p1 := by omega
          rw [q1] at t1
          unfold plT
          rw [← hY0]
          simp only [List.append_assoc] at t1 ⊢
          exact ⟨t1, by omega⟩
        exact z_vret S hr hlk w (r1, n1, P1, tx1, len1) k1_ rfl dX3_body_105
      · skip
        refine lv_aload_n S.1 S.2.1 dX3_body_81 rfl (lv_at hl 0 rfl) ?_
        refine z_bipush S dX3_body_82 (by decide +kernel) ?_
        refine lv_aload_n S.1 S.2.1 dX3_body_84 rfl (lv_at hl 0 rfl) ?_
        refine lv_aload_n S.1 S.2.1 dX3_body_85 rfl (lv_at hl 0 rfl) ?_
        refine z_get (ci := 3) (C := RX3) (T := TX3) (N := 5) S w 0 rfl rfl in_X3_body_X3 2 (by decide) ln_X3_body_31 rfl rfl dX3_body_86 ?_
        refine lv_iload S.1 S.2.1 dX3_body_89 (lv_at hl 2 rfl) ?_
        refine z_iadd S dX3_body_91 ?_
        refine z_calliV (C := RX3) (n := 1) (As := [.int (zI (P1 + k))]) (rest := [.int (zI 48), .ref h]) (wr := []) (wn := (fun (u : Unit) => [(h, .inr (3, [.ref hb, .int (zI n1), .int (zI P1), .ref ht, .int (zI len1)])), (hb, .inl (cB, 1200, .inl (zA r1))), (ht, .inl (cT, 420, .inl (zA tx1)))])) S w (c_X3_digit l D cB cT h hb ht r1 n1 P1 tx1 len1 (P1 + k) (by omega) (by omega)) gX3_body_X3_digit (by decide +kernel) rfl ⟨rfl, rfl⟩ ⟨Nat.le_of_ble_eq_true rfl, Nat.le_of_ble_eq_true rfl⟩ [0, 1] [0, 1, 2] [] [0, 1, 2] rfl rfl rfl rfl rfl (by decide) (fun u => rfl) rfl rfl rfl rfl rfl hl.1 (Nat.le_of_ble_eq_true rfl) ⟨Nat.le_of_ble_eq_true rfl, Nat.le_of_ble_eq_true rfl⟩ rfl dX3_body_92 (fun z92 _ H locs p92 w => ?_)
        have p92 : z92 = mD r1 n1 (P1 + k) := p92
        have w : zW D _ _ s [(h, .inr (3, [.ref hb, .int (zI n1), .int (zI P1), .ref ht, .int (zI len1)])), (hb, .inl (cB, 1200, .inl (zA r1))), (ht, .inl (cT, 420, .inl (zA tx1)))] H locs := w
        rw [mRep_dg hq (by omega)] at p92
        have e92 : P1 - 1 - (P1 + k) = -(k + 1) := by omega
        rw [e92] at p92
        refine z_iadd S dX3_body_95 ?_
        refine z_callvV (C := RX3) (n := 1) (As := [.int (zI (48 + z92))]) (rest := []) (wr := []) (wn := (fun (u : (Nat → Int) × Int) => [(h, .inr (3, [.ref hb, .int (zI n1), .int (zI P1), .ref ht, .int (zI u.2)])), (hb, .inl (cB, 1200, .inl (zA r1))), (ht, .inl (cT, 420, .inl (zA u.1)))])) S w (c_X3_put l D cB cT h hb ht r1 n1 P1 tx1 len1 (48 + z92) (by omega)) gX3_body_X3_put (by decide +kernel) rfl ⟨rfl, rfl⟩ ⟨Nat.le_of_ble_eq_true rfl, Nat.le_of_ble_eq_true rfl⟩ [0, 1] [0, 1, 2] [] [0, 1, 2] rfl rfl rfl rfl rfl (by decide) (fun u => rfl) rfl rfl rfl rfl rfl hl.1 (Nat.le_of_ble_eq_true rfl) ⟨Nat.le_of_ble_eq_true rfl, Nat.le_of_ble_eq_true rfl⟩ rfl dX3_body_96 (fun u H locs p96 w => ?_)
        obtain ⟨tx96, len96⟩ := u
        have p96 : tx96 = zu tx1 len1.toNat (48 + z92) ∧ len96 = len1 + 1 := p96
        have w : zW D _ _ s [(h, .inr (3, [.ref hb, .int (zI n1), .int (zI P1), .ref ht, .int (zI len96)])), (hb, .inl (cB, 1200, .inl (zA r1))), (ht, .inl (cT, 420, .inl (zA tx96)))] H locs := w
        refine lv_iinc (v := zI (k + 1)) (lv' := [(4, .int (zI (k + 1))), (0, .ref h), (2, .int (zI p1))]) S.1 S.2.1 dX3_body_99 hl (k := 2) rfl (zI_add k 1) (by decide) rfl (fun ls hl => ?_)
        refine lv_goto (tgt := 75) S.1 S.2.1 dX3_body_102 (by decide) ?_
        have k2_ : tRep tx96 len96 (T ++ dT (gX Y) (if 0 < hiX Y then hiX Y else 0) 0 ++ ptT (if 0 < p1 ∨ dot = 1 then (1 : Int) else 0) ++ dT (gX Y) (-1) (-(k + 1))) := by
          have q1 := tRep_put' t1 p96
          rw [p92] at q1
          have e2 : -(k + 1) + 1 = -k := by omega
          rw [dT_snoc _ (by omega : -(k + 1) ≤ -1), e2, ← List.append_assoc]; exact q1
        exact ih r1 n1 P1 tx96 len96 Y (k + 1) (by omega) hY0 hq (by omega) (by omega) (by omega) k2_ (by omega) _ _ _ w (lv_sub hl [1, 2, 0] rfl)
  have lab58 : ∀ (r1 : Nat → Int) (n1 : Int) (P1 : Int) (tx1 : Nat → Int) (len1 : Int) (Y : Nat), (Y = rX X (1200 - p1).toNat) → (mRep r1 n1 P1 Y) → (n1 ≤ 1200 ∧ -1200 ≤ P1 ∧ P1 ≤ 309) → (how = 0) → (tRep tx1 len1 (T ++ dT (gX Y) (if 0 < hiX Y then hiX Y else 0) 0)) → (len1 ≤ len + 310) → ∀ (H : Heap) (locs : List Loc) (ls : Array Slot), zW D [(cB, .byte), (cT, .int)] (va_A [(h, .inr (3, [.ref hb, .int (zI n), .int (zI P), .ref ht, .int (zI len)])), (hb, .inl (cB, 1200, .inl (zA r))), (ht, .inl (cT, 420, .inl (zA tx)))] s.heap.size) s [(h, .inr (3, [.ref hb, .int (zI n1), .int (zI P1), .ref ht, .int (zI len1)])), (hb, .inl (cB, 1200, .inl (zA r1))), (ht, .inl (cT, 420, .inl (zA tx1)))] H locs → lv_has ls 6 [(0, .ref h), (2, .int (zI p1)), (3, .int (zI dot))] → W p l e ({ frames := 2, cells := 0, slots := 0, locals := 47 } : Room) s m ([.ref h, .int (zI how), .int (zI p1), .int (zI dot)] : List Value).toArray below meth c H locs 0 0 (MQ below (zQv D [(cB, .byte), (cT, .int)] [(h, .inr (3, [.ref hb, .int (zI n), .int (zI P), .ref ht, .int (zI len)])), (hb, .inl (cB, 1200, .inl (zA r))), (ht, .inl (cT, 420, .inl (zA tx)))] s.heap.size (fun (u : (Nat → Int) × Int × Int × (Nat → Int) × Int) => tRep u.2.2.2.1 u.2.2.2.2 (T ++ (if how = 0 then plT X p1 (if 0 < p1 ∨ dot = 1 then (1 : Int) else 0) else epT X p1 (if 0 < p1 ∨ dot = 1 then (1 : Int) else 0) (if how = 2 then (69 : Int) else 101))) ∧ u.2.2.2.2 ≤ 340) (fun (u : (Nat → Int) × Int × Int × (Nat → Int) × Int) => [(h, .inr (3, [.ref hb, .int (zI u.2.1), .int (zI u.2.2.1), .ref ht, .int (zI u.2.2.2.2)])), (hb, .inl (cB, 1200, .inl (zA u.1))), (ht, .inl (cT, 420, .inl (zA u.2.2.2.1)))])) ([.ref h, .int (zI how), .int (zI p1), .int (zI dot)] : List Value).toArray s 0 0 (va_A [(h, .inr (3, [.ref hb, .int (zI n), .int (zI P), .ref ht, .int (zI len)])), (hb, .inl (cB, 1200, .inl (zA r))), (ht, .inl (cT, 420, .inl (zA tx)))] s.heap.size)) (F0 m 58 ls []) := by
    intro r1 n1 P1 tx1 len1 Y hY0 hq hb1 hh t1 hl1 H locs ls w hl
    have g2 := t1.1
    refine lv_iload_n S.1 S.2.1 dX3_body_58 rfl (lv_at hl 1 rfl) ?_
    refine z_if_gt (tgt := 66) S dX3_body_59 (by decide) (by omega) (fun h59 => ?_) (fun h59 => ?_)
    · skip
      refine lv_aload_n S.1 S.2.1 dX3_body_66 rfl (lv_at hl 0 rfl) ?_
      refine z_bipush S dX3_body_67 (by decide +kernel) ?_
      refine z_callvV (C := RX3) (n := 1) (As := [.int (zI 46)]) (rest := []) (wr := []) (wn := (fun (u : (Nat → Int) × Int) => [(h, .inr (3, [.ref hb, .int (zI n1), .int (zI P1), .ref ht, .int (zI u.2)])), (hb, .inl (cB, 1200, .inl (zA r1))), (ht, .inl (cT, 420, .inl (zA u.1)))])) S w (c_X3_put l D cB cT h hb ht r1 n1 P1 tx1 len1 46 (by omega)) gX3_body_X3_put (by decide +kernel) rfl ⟨rfl, rfl⟩ ⟨Nat.le_of_ble_eq_true rfl, Nat.le_of_ble_eq_true rfl⟩ [0, 1] [0, 1, 2] [] [0, 1, 2] rfl rfl rfl rfl rfl (by decide) (fun u => rfl) rfl rfl rfl rfl rfl hl.1 (Nat.le_of_ble_eq_true rfl) ⟨Nat.le_of_ble_eq_true rfl, Nat.le_of_ble_eq_true rfl⟩ rfl dX3_body_69 (fun u H locs p69 w => ?_)
      obtain ⟨tx69, len69⟩ := u
      have p69 : tx69 = zu tx1 len1.toNat (46 : Int) ∧ len69 = len1 + 1 := p69
      have w : zW D _ _ s [(h, .inr (3, [.ref hb, .int (zI n1), .int (zI P1), .ref ht, .int (zI len69)])), (hb, .inl (cB, 1200, .inl (zA r1))), (ht, .inl (cT, 420, .inl (zA tx69)))] H locs := w
      refine z_iconst S dX3_body_72 ?_
      refine lv_istore (lv' := [(4, .int (zI 0)), (0, .ref h), (2, .int (zI p1)), (3, .int (zI dot))]) S.1 S.2.1 dX3_body_73 hl (by decide) rfl (fun ls hl => ?_)
      have k3_ : tRep tx69 len69 (T ++ dT (gX Y) (if 0 < hiX Y then hiX Y else 0) 0 ++ ptT (if 0 < p1 ∨ dot = 1 then (1 : Int) else 0) ++ dT (gX Y) (-1) (-(0 : Int))) := by
        rw [dT_nil _ (by omega : (-1 : Int) < -0), List.append_nil]
        unfold ptT
        first
          | (rw [if_pos (show 0 < p1 ∨ dot = 1 by omega), if_pos rfl]; exact tRep_put' t1 p69)
          | (rw [if_neg (show ¬ (0 < p1 ∨ dot = 1) by omega), if_neg (show ¬ (0 : Int) = 1 by omega), List.append_nil]; exact t1)
      exact lab75 _ r1 n1 P1 tx69 len69 Y 0 (Nat.lt_succ_self _) hY0 hq (by omega) (by omega) (by omega) k3_ (by omega) _ _ _ w (lv_sub hl [1, 2, 0] rfl)
    · skip
      refine lv_iload_n S.1 S.2.1 dX3_body_62 rfl (lv_at hl 2 rfl) ?_
      refine z_if_eq (tgt := 72) S dX3_body_63 (by decide) (by omega) (fun h63 => ?_) (fun h63 => ?_)
      · skip
        refine z_iconst S dX3_body_72 ?_
        refine lv_istore (lv' := [(4, .int (zI 0)), (0, .ref h), (2, .int (zI p1)), (3, .int (zI dot))]) S.1 S.2.1 dX3_body_73 hl (by decide) rfl (fun ls hl => ?_)
        have k4_ : tRep tx1 len1 (T ++ dT (gX Y) (if 0 < hiX Y then hiX Y else 0) 0 ++ ptT (if 0 < p1 ∨ dot = 1 then (1 : Int) else 0) ++ dT (gX Y) (-1) (-(0 : Int))) := by
          rw [dT_nil _ (by omega : (-1 : Int) < -0), List.append_nil]
          unfold ptT
          first
            | (rw [if_pos (show 0 < p1 ∨ dot = 1 by omega), if_pos rfl]; exact tRep_put' t1 p69)
            | (rw [if_neg (show ¬ (0 < p1 ∨ dot = 1) by omega), if_neg (show ¬ (0 : Int) = 1 by omega), List.append_nil]; exact t1)
        exact lab75 _ r1 n1 P1 tx1 len1 Y 0 (Nat.lt_succ_self _) hY0 hq (by omega) (by omega) (by omega) k4_ (by omega) _ _ _ w (lv_sub hl [1, 2, 0] rfl)
      · skip
        refine lv_aload_n S.1 S.2.1 dX3_body_66 rfl (lv_at hl 0 rfl) ?_
        refine z_bipush S dX3_body_67 (by decide +kernel) ?_
        refine z_callvV (C := RX3) (n := 1) (As := [.int (zI 46)]) (rest := []) (wr := []) (wn := (fun (u : (Nat → Int) × Int) => [(h, .inr (3, [.ref hb, .int (zI n1), .int (zI P1), .ref ht, .int (zI u.2)])), (hb, .inl (cB, 1200, .inl (zA r1))), (ht, .inl (cT, 420, .inl (zA u.1)))])) S w (c_X3_put l D cB cT h hb ht r1 n1 P1 tx1 len1 46 (by omega)) gX3_body_X3_put (by decide +kernel) rfl ⟨rfl, rfl⟩ ⟨Nat.le_of_ble_eq_true rfl, Nat.le_of_ble_eq_true rfl⟩ [0, 1] [0, 1, 2] [] [0, 1, 2] rfl rfl rfl rfl rfl (by decide) (fun u => rfl) rfl rfl rfl rfl rfl hl.1 (Nat.le_of_ble_eq_true rfl) ⟨Nat.le_of_ble_eq_true rfl, Nat.le_of_ble_eq_true rfl⟩ rfl dX3_body_69 (fun u H locs p69 w => ?_)
        obtain ⟨tx69, len69⟩ := u
        have p69 : tx69 = zu tx1 len1.toNat (46 : Int) ∧ len69 = len1 + 1 := p69
        have w : zW D _ _ s [(h, .inr (3, [.ref hb, .int (zI n1), .int (zI P1), .ref ht, .int (zI len69)])), (hb, .inl (cB, 1200, .inl (zA r1))), (ht, .inl (cT, 420, .inl (zA tx69)))] H locs := w
        refine z_iconst S dX3_body_72 ?_
        refine lv_istore (lv' := [(4, .int (zI 0)), (0, .ref h), (2, .int (zI p1)), (3, .int (zI dot))]) S.1 S.2.1 dX3_body_73 hl (by decide) rfl (fun ls hl => ?_)
        have k5_ : tRep tx69 len69 (T ++ dT (gX Y) (if 0 < hiX Y then hiX Y else 0) 0 ++ ptT (if 0 < p1 ∨ dot = 1 then (1 : Int) else 0) ++ dT (gX Y) (-1) (-(0 : Int))) := by
          rw [dT_nil _ (by omega : (-1 : Int) < -0), List.append_nil]
          unfold ptT
          first
            | (rw [if_pos (show 0 < p1 ∨ dot = 1 by omega), if_pos rfl]; exact tRep_put' t1 p69)
            | (rw [if_neg (show ¬ (0 < p1 ∨ dot = 1) by omega), if_neg (show ¬ (0 : Int) = 1 by omega), List.append_nil]; exact t1)
        exact lab75 _ r1 n1 P1 tx69 len69 Y 0 (Nat.lt_succ_self _) hY0 hq (by omega) (by omega) (by omega) k5_ (by omega) _ _ _ w (lv_sub hl [1, 2, 0] rfl)
  have lab17 : ∀ (nf_ : Nat) (r1 : Nat → Int) (n1 : Int) (P1 : Int) (tx1 : Nat → Int) (len1 : Int) (Y : Nat) (k : Int), (P1 - k).toNat < nf_ → (Y = rX X (1200 - p1).toNat) → (mRep r1 n1 P1 Y) → (n1 ≤ 1200 ∧ -1200 ≤ P1 ∧ P1 ≤ 309) → (how = 0) → (0 ≤ k ∧ (k ≤ P1 ∨ k = 0)) → (tRep tx1 len1 (T ++ dT (gX Y) (P1 - 1) (P1 - k))) → (len1 = len + k) → ∀ (H : Heap) (locs : List Loc) (ls : Array Slot), zW D [(cB, .byte), (cT, .int)] (va_A [(h, .inr (3, [.ref hb, .int (zI n), .int (zI P), .ref ht, .int (zI len)])), (hb, .inl (cB, 1200, .inl (zA r))), (ht, .inl (cT, 420, .inl (zA tx)))] s.heap.size) s [(h, .inr (3, [.ref hb, .int (zI n1), .int (zI P1), .ref ht, .int (zI len1)])), (hb, .inl (cB, 1200, .inl (zA r1))), (ht, .inl (cT, 420, .inl (zA tx1)))] H locs → lv_has ls 6 [(0, .ref h), (2, .int (zI p1)), (3, .int (zI dot)), (4, .int (zI k))] → W p l e ({ frames := 2, cells := 0, slots := 0, locals := 47 } : Room) s m ([.ref h, .int (zI how), .int (zI p1), .int (zI dot)] : List Value).toArray below meth c H locs 0 0 (MQ below (zQv D [(cB, .byte), (cT, .int)] [(h, .inr (3, [.ref hb, .int (zI n), .int (zI P), .ref ht, .int (zI len)])), (hb, .inl (cB, 1200, .inl (zA r))), (ht, .inl (cT, 420, .inl (zA tx)))] s.heap.size (fun (u : (Nat → Int) × Int × Int × (Nat → Int) × Int) => tRep u.2.2.2.1 u.2.2.2.2 (T ++ (if how = 0 then plT X p1 (if 0 < p1 ∨ dot = 1 then (1 : Int) else 0) else epT X p1 (if 0 < p1 ∨ dot = 1 then (1 : Int) else 0) (if how = 2 then (69 : Int) else 101))) ∧ u.2.2.2.2 ≤ 340) (fun (u : (Nat → Int) × Int × Int × (Nat → Int) × Int) => [(h, .inr (3, [.ref hb, .int (zI u.2.1), .int (zI u.2.2.1), .ref ht, .int (zI u.2.2.2.2)])), (hb, .inl (cB, 1200, .inl (zA u.1))), (ht, .inl (cT, 420, .inl (zA u.2.2.2.1)))])) ([.ref h, .int (zI how), .int (zI p1), .int (zI dot)] : List Value).toArray s 0 0 (va_A [(h, .inr (3, [.ref hb, .int (zI n), .int (zI P), .ref ht, .int (zI len)])), (hb, .inl (cB, 1200, .inl (zA r))), (ht, .inl (cT, 420, .inl (zA tx)))] s.heap.size)) (F0 m 17 ls []) := by
    intro nf_
    induction nf_ with
    | zero => intro r1 n1 P1 tx1 len1 Y k hmeas_; exact absurd hmeas_ (Nat.not_lt_zero _)
    | succ nf_ ih =>
      intro r1 n1 P1 tx1 len1 Y k hmeas_ hY0 hq hb1 hh hk t1 hl1 H locs ls w hl
      have hl0 := hT.1
      have g1 := hq.1.2.1
      refine lv_iload S.1 S.2.1 dX3_body_17 (lv_at hl 3 rfl) ?_
      refine lv_aload_n S.1 S.2.1 dX3_body_19 rfl (lv_at hl 0 rfl) ?_
      refine z_get (ci := 3) (C := RX3) (T := TX3) (N := 5) S w 0 rfl rfl in_X3_body_X3 2 (by decide) ln_X3_body_31 rfl rfl dX3_body_20 ?_
      refine z_icmp_ge (tgt := 45) S dX3_body_23 (by decide) (by omega) (by omega) (fun h23 => ?_) (fun h23 => ?_)
      · skip
        refine lv_aload_n S.1 S.2.1 dX3_body_45 rfl (lv_at hl 0 rfl) ?_
        refine z_get (ci := 3) (C := RX3) (T := TX3) (N := 5) S w 0 rfl rfl in_X3_body_X3 2 (by decide) ln_X3_body_31 rfl rfl dX3_body_46 ?_
        refine z_if_gt (tgt := 58) S dX3_body_49 (by decide) (by omega) (fun h49 => ?_) (fun h49 => ?_)
        · skip
          have k6_ : tRep tx1 len1 (T ++ dT (gX Y) (if 0 < hiX Y then hiX Y else 0) 0) := by
            have q0 := hq.2.1
            have q1 := mRep_hi hq
            rw [if_neg (by omega)] at q1
            have q2 : (if 0 < hiX Y then hiX Y else 0) = P1 - 1 := by
              by_cases q3 : 0 < hiX Y
              · rw [if_pos q3]; omega
              · rw [if_neg q3]; omega
            have q4 : P1 - k = 0 := by omega
            rw [q4] at t1
            rw [q2]; exact t1
          exact lab58 r1 n1 P1 tx1 len1 Y hY0 hq (by omega) (by omega) k6_ (by omega) _ _ _ w (lv_sub hl [0, 1, 2] rfl)
        · skip
          refine lv_aload_n S.1 S.2.1 dX3_body_52 rfl (lv_at hl 0 rfl) ?_
          refine z_bipush S dX3_body_53 (by decide +kernel) ?_
          refine z_callvV (C := RX3) (n := 1) (As := [.int (zI 48)]) (rest := []) (wr := []) (wn := (fun (u : (Nat → Int) × Int) => [(h, .inr (3, [.ref hb, .int (zI n1), .int (zI P1), .ref ht, .int (zI u.2)])), (hb, .inl (cB, 1200, .inl (zA r1))), (ht, .inl (cT, 420, .inl (zA u.1)))])) S w (c_X3_put l D cB cT h hb ht r1 n1 P1 tx1 len1 48 (by omega)) gX3_body_X3_put (by decide +kernel) rfl ⟨rfl, rfl⟩ ⟨Nat.le_of_ble_eq_true rfl, Nat.le_of_ble_eq_true rfl⟩ [0, 1] [0, 1, 2] [] [0, 1, 2] rfl rfl rfl rfl rfl (by decide) (fun u => rfl) rfl rfl rfl rfl rfl hl.1 (Nat.le_of_ble_eq_true rfl) ⟨Nat.le_of_ble_eq_true rfl, Nat.le_of_ble_eq_true rfl⟩ rfl dX3_body_55 (fun u H locs p55 w => ?_)
          obtain ⟨tx55, len55⟩ := u
          have p55 : tx55 = zu tx1 len1.toNat (48 : Int) ∧ len55 = len1 + 1 := p55
          have w : zW D _ _ s [(h, .inr (3, [.ref hb, .int (zI n1), .int (zI P1), .ref ht, .int (zI len55)])), (hb, .inl (cB, 1200, .inl (zA r1))), (ht, .inl (cT, 420, .inl (zA tx55)))] H locs := w
          have k7_ : tRep tx55 len55 (T ++ dT (gX Y) (if 0 < hiX Y then hiX Y else 0) 0) := by
            have q0 := hq.2.1
            have q1 := mRep_hi hq
            have q5 := tRep_put' t1 p55
            rw [dT_nil _ (by omega : P1 - 1 < P1 - k), List.append_nil] at q5
            have q2 : (if 0 < hiX Y then hiX Y else 0) = 0 := by
              by_cases q3 : 0 < hiX Y
              · by_cases q4 : n1 = 0
                · rw [if_pos q4] at q1; omega
                · rw [if_neg q4] at q1; omega
              · rw [if_neg q3]
            have q6 : gX Y 0 = 0 := by
              have k1 := mRep_dg hq (k := P1 - 1) (by omega)
              have k2 : P1 - 1 - (P1 - 1) = 0 := by omega
              rw [k2] at k1
              rw [← k1]; unfold mD; rw [if_neg (by omega)]
            rw [q2, dT_one, q6]; exact q5
          exact lab58 r1 n1 P1 tx55 len55 Y hY0 hq (by omega) (by omega) k7_ (by omega) _ _ _ w (lv_sub hl [0, 1, 2] rfl)
      · skip
        refine lv_aload_n S.1 S.2.1 dX3_body_26 rfl (lv_at hl 0 rfl) ?_
        refine z_bipush S dX3_body_27 (by decide +kernel) ?_
        refine lv_aload_n S.1 S.2.1 dX3_body_29 rfl (lv_at hl 0 rfl) ?_
        refine lv_iload S.1 S.2.1 dX3_body_30 (lv_at hl 3 rfl) ?_
        refine z_calliV (C := RX3) (n := 1) (As := [.int (zI k)]) (rest := [.int (zI 48), .ref h]) (wr := []) (wn := (fun (u : Unit) => [(h, .inr (3, [.ref hb, .int (zI n1), .int (zI P1), .ref ht, .int (zI len1)])), (hb, .inl (cB, 1200, .inl (zA r1))), (ht, .inl (cT, 420, .inl (zA tx1)))])) S w (c_X3_digit l D cB cT h hb ht r1 n1 P1 tx1 len1 k (by omega) (by omega)) gX3_body_X3_digit (by decide +kernel) rfl ⟨rfl, rfl⟩ ⟨Nat.le_of_ble_eq_true rfl, Nat.le_of_ble_eq_true rfl⟩ [0, 1] [0, 1, 2] [] [0, 1, 2] rfl rfl rfl rfl rfl (by decide) (fun u => rfl) rfl rfl rfl rfl rfl hl.1 (Nat.le_of_ble_eq_true rfl) ⟨Nat.le_of_ble_eq_true rfl, Nat.le_of_ble_eq_true rfl⟩ rfl dX3_body_32 (fun z32 _ H locs p32 w => ?_)
        have p32 : z32 = mD r1 n1 k := p32
        have w : zW D _ _ s [(h, .inr (3, [.ref hb, .int (zI n1), .int (zI P1), .ref ht, .int (zI len1)])), (hb, .inl (cB, 1200, .inl (zA r1))), (ht, .inl (cT, 420, .inl (zA tx1)))] H locs := w
        rw [mRep_dg hq (by omega)] at p32
        have b32 := gX_9 Y (P1 - 1 - k)
        refine z_iadd S dX3_body_35 ?_
        refine z_callvV (C := RX3) (n := 1) (As := [.int (zI (48 + z32))]) (rest := []) (wr := []) (wn := (fun (u : (Nat → Int) × Int) => [(h, .inr (3, [.ref hb, .int (zI n1), .int (zI P1), .ref ht, .int (zI u.2)])), (hb, .inl (cB, 1200, .inl (zA r1))), (ht, .inl (cT, 420, .inl (zA u.1)))])) S w (c_X3_put l D cB cT h hb ht r1 n1 P1 tx1 len1 (48 + z32) (by omega)) gX3_body_X3_put (by decide +kernel) rfl ⟨rfl, rfl⟩ ⟨Nat.le_of_ble_eq_true rfl, Nat.le_of_ble_eq_true rfl⟩ [0, 1] [0, 1, 2] [] [0, 1, 2] rfl rfl rfl rfl rfl (by decide) (fun u => rfl) rfl rfl rfl rfl rfl hl.1 (Nat.le_of_ble_eq_true rfl) ⟨Nat.le_of_ble_eq_true rfl, Nat.le_of_ble_eq_true rfl⟩ rfl dX3_body_36 (fun u H locs p36 w => ?_)
        obtain ⟨tx36, len36⟩ := u
        have p36 : tx36 = zu tx1 len1.toNat (48 + z32) ∧ len36 = len1 + 1 := p36
        have w : zW D _ _ s [(h, .inr (3, [.ref hb, .int (zI n1), .int (zI P1), .ref ht, .int (zI len36)])), (hb, .inl (cB, 1200, .inl (zA r1))), (ht, .inl (cT, 420, .inl (zA tx36)))] H locs := w
        refine lv_iinc (v := zI (k + 1)) (lv' := [(4, .int (zI (k + 1))), (0, .ref h), (2, .int (zI p1)), (3, .int (zI dot))]) S.1 S.2.1 dX3_body_39 hl (k := 3) rfl (zI_add k 1) (by decide) rfl (fun ls hl => ?_)
        refine lv_goto (tgt := 17) S.1 S.2.1 dX3_body_42 (by decide) ?_
        have k8_ : tRep tx36 len36 (T ++ dT (gX Y) (P1 - 1) (P1 - (k + 1))) := by
          have q1 := tRep_put' t1 p36
          rw [p32] at q1
          have e1 : P1 - 1 - k = P1 - (k + 1) := by omega
          have e2 : P1 - (k + 1) + 1 = P1 - k := by omega
          rw [e1] at q1
          rw [dT_snoc _ (by omega : P1 - (k + 1) ≤ P1 - 1), e2, ← List.append_assoc]; exact q1
        exact ih r1 n1 P1 tx36 len36 Y (k + 1) (by omega) hY0 hq (by omega) (by omega) (by omega) k8_ (by omega) _ _ _ w (lv_sub hl [1, 2, 3, 0] rfl)
  have lab233 : ∀ (r1 : Nat → Int) (n1 : Int) (P1 : Int) (tx1 : Nat → Int) (len1 : Int) (Y : Nat) (ee : Int) (am : Int), (Y = eY X p1) → (mRep r1 n1 P1 Y) → (how ≠ 0) → (ee = hiX Y ∧ -2000 ≤ ee ∧ ee ≤ 2000) → (am = exA ee ∧ 0 ≤ am ∧ am ≤ 2000) → (tRep tx1 len1 ((T ++ dT (gX Y) ee ee ++ ptT (if 0 < p1 ∨ dot = 1 then (1 : Int) else 0) ++ dT (gX Y) (ee - 1) (ee - p1)) ++ [(if how = 2 then (69 : Int) else 101), if ee < 0 then 45 else 43])) → (len1 ≤ len + 19) → ∀ (H : Heap) (locs : List Loc) (ls : Array Slot), zW D [(cB, .byte), (cT, .int)] (va_A [(h, .inr (3, [.ref hb, .int (zI n), .int (zI P), .ref ht, .int (zI len)])), (hb, .inl (cB, 1200, .inl (zA r))), (ht, .inl (cT, 420, .inl (zA tx)))] s.heap.size) s [(h, .inr (3, [.ref hb, .int (zI n1), .int (zI P1), .ref ht, .int (zI len1)])), (hb, .inl (cB, 1200, .inl (zA r1))), (ht, .inl (cT, 420, .inl (zA tx1)))] H locs → lv_has ls 6 [(0, .ref h), (5, .int (zI am))] → W p l e ({ frames := 2, cells := 0, slots := 0, locals := 47 } : Room) s m ([.ref h, .int (zI how), .int (zI p1), .int (zI dot)] : List Value).toArray below meth c H locs 0 0 (MQ below (zQv D [(cB, .byte), (cT, .int)] [(h, .inr (3, [.ref hb, .int (zI n), .int (zI P), .ref ht, .int (zI len)])), (hb, .inl (cB, 1200, .inl (zA r))), (ht, .inl (cT, 420, .inl (zA tx)))] s.heap.size (fun (u : (Nat → Int) × Int × Int × (Nat → Int) × Int) => tRep u.2.2.2.1 u.2.2.2.2 (T ++ (if how = 0 then plT X p1 (if 0 < p1 ∨ dot = 1 then (1 : Int) else 0) else epT X p1 (if 0 < p1 ∨ dot = 1 then (1 : Int) else 0) (if how = 2 then (69 : Int) else 101))) ∧ u.2.2.2.2 ≤ 340) (fun (u : (Nat → Int) × Int × Int × (Nat → Int) × Int) => [(h, .inr (3, [.ref hb, .int (zI u.2.1), .int (zI u.2.2.1), .ref ht, .int (zI u.2.2.2.2)])), (hb, .inl (cB, 1200, .inl (zA u.1))), (ht, .inl (cT, 420, .inl (zA u.2.2.2.1)))])) ([.ref h, .int (zI how), .int (zI p1), .int (zI dot)] : List Value).toArray s 0 0 (va_A [(h, .inr (3, [.ref hb, .int (zI n), .int (zI P), .ref ht, .int (zI len)])), (hb, .inl (cB, 1200, .inl (zA r))), (ht, .inl (cT, 420, .inl (zA tx)))] s.heap.size)) (F0 m 233 ls []) := by
    intro r1 n1 P1 tx1 len1 Y ee am hY0 hq hh he ham t1 hl1 H locs ls w hl
    have g2 := t1.1
    refine lv_iload S.1 S.2.1 dX3_body_233 (lv_at hl 1 rfl) ?_
    refine z_bipush S dX3_body_235 (by decide +kernel) ?_
    refine z_icmp_le (tgt := 252) S dX3_body_237 (by decide) (by omega) (by omega) (fun h237 => ?_) (fun h237 => ?_)
    · skip
      refine lv_aload_n S.1 S.2.1 dX3_body_252 rfl (lv_at hl 0 rfl) ?_
      refine z_bipush S dX3_body_253 (by decide +kernel) ?_
      refine lv_iload S.1 S.2.1 dX3_body_255 (lv_at hl 1 rfl) ?_
      refine z_bipush S dX3_body_257 (by decide +kernel) ?_
      refine z_idiv S dX3_body_259 (by omega) (by omega) ?_
      refine z_bipush S dX3_body_260 (by decide +kernel) ?_
      refine z_irem S dX3_body_262 (by omega) (by omega) ?_
      refine z_iadd S dX3_body_263 ?_
      refine z_callvV (C := RX3) (n := 1) (As := [.int (zI (48 + ((am / 10) % 10)))]) (rest := []) (wr := []) (wn := (fun (u : (Nat → Int) × Int) => [(h, .inr (3, [.ref hb, .int (zI n1), .int (zI P1), .ref ht, .int (zI u.2)])), (hb, .inl (cB, 1200, .inl (zA r1))), (ht, .inl (cT, 420, .inl (zA u.1)))])) S w (c_X3_put l D cB cT h hb ht r1 n1 P1 tx1 len1 (48 + ((am / 10) % 10)) (by omega)) gX3_body_X3_put (by decide +kernel) rfl ⟨rfl, rfl⟩ ⟨Nat.le_of_ble_eq_true rfl, Nat.le_of_ble_eq_true rfl⟩ [0, 1] [0, 1, 2] [] [0, 1, 2] rfl rfl rfl rfl rfl (by decide) (fun u => rfl) rfl rfl rfl rfl rfl hl.1 (Nat.le_of_ble_eq_true rfl) ⟨Nat.le_of_ble_eq_true rfl, Nat.le_of_ble_eq_true rfl⟩ rfl dX3_body_264 (fun u H locs p264 w => ?_)
      obtain ⟨tx264, len264⟩ := u
      have p264 : tx264 = zu tx1 len1.toNat (48 + ((am / 10) % 10)) ∧ len264 = len1 + 1 := p264
      have w : zW D _ _ s [(h, .inr (3, [.ref hb, .int (zI n1), .int (zI P1), .ref ht, .int (zI len264)])), (hb, .inl (cB, 1200, .inl (zA r1))), (ht, .inl (cT, 420, .inl (zA tx264)))] H locs := w
      have t264 := tRep_put' (by first | exact t249 | exact t1) p264
      refine lv_aload_n S.1 S.2.1 dX3_body_267 rfl (lv_at hl 0 rfl) ?_
      refine z_bipush S dX3_body_268 (by decide +kernel) ?_
      refine lv_iload S.1 S.2.1 dX3_body_270 (lv_at hl 1 rfl) ?_
      refine z_bipush S dX3_body_272 (by decide +kernel) ?_
      refine z_irem S dX3_body_274 (by omega) (by omega) ?_
      refine z_iadd S dX3_body_275 ?_
      refine z_callvV (C := RX3) (n := 1) (As := [.int (zI (48 + (am % 10)))]) (rest := []) (wr := []) (wn := (fun (u : (Nat → Int) × Int) => [(h, .inr (3, [.ref hb, .int (zI n1), .int (zI P1), .ref ht, .int (zI u.2)])), (hb, .inl (cB, 1200, .inl (zA r1))), (ht, .inl (cT, 420, .inl (zA u.1)))])) S w (c_X3_put l D cB cT h hb ht r1 n1 P1 tx264 len264 (48 + (am % 10)) (by omega)) gX3_body_X3_put (by decide +kernel) rfl ⟨rfl, rfl⟩ ⟨Nat.le_of_ble_eq_true rfl, Nat.le_of_ble_eq_true rfl⟩ [0, 1] [0, 1, 2] [] [0, 1, 2] rfl rfl rfl rfl rfl (by decide) (fun u => rfl) rfl rfl rfl rfl rfl hl.1 (Nat.le_of_ble_eq_true rfl) ⟨Nat.le_of_ble_eq_true rfl, Nat.le_of_ble_eq_true rfl⟩ rfl dX3_body_276 (fun u H locs p276 w => ?_)
      obtain ⟨tx276, len276⟩ := u
      have p276 : tx276 = zu tx264 len264.toNat (48 + (am % 10)) ∧ len276 = len264 + 1 := p276
      have w : zW D _ _ s [(h, .inr (3, [.ref hb, .int (zI n1), .int (zI P1), .ref ht, .int (zI len276)])), (hb, .inl (cB, 1200, .inl (zA r1))), (ht, .inl (cT, 420, .inl (zA tx276)))] H locs := w
      have t276 := tRep_put' t264 p276
      have k9_ : tRep tx276 len276 (T ++ (if how = 0 then plT X p1 (if 0 < p1 ∨ dot = 1 then (1 : Int) else 0) else epT X p1 (if 0 < p1 ∨ dot = 1 then (1 : Int) else 0) (if how = 2 then (69 : Int) else 101))) ∧ len276 ≤ 340 := by
        rw [if_neg hh]
        unfold epT exT
        rw [← hY0, ← he.1, ← ham.1]
        rw [if_neg (show ¬ 100 ≤ am by omega)]
        simp only [List.append_assoc, List.singleton_append, List.cons_append, List.nil_append, List.append_nil] at t276 ⊢
        exact ⟨t276, by omega⟩
      exact z_vret S hr hlk w (r1, n1, P1, tx276, len276) k9_ rfl dX3_body_279
    · skip
      refine lv_aload_n S.1 S.2.1 dX3_body_240 rfl (lv_at hl 0 rfl) ?_
      refine z_bipush S dX3_body_241 (by decide +kernel) ?_
      refine lv_iload S.1 S.2.1 dX3_body_243 (lv_at hl 1 rfl) ?_
      refine z_bipush S dX3_body_245 (by decide +kernel) ?_
      refine z_idiv S dX3_body_247 (by omega) (by omega) ?_
      refine z_iadd S dX3_body_248 ?_
      refine z_callvV (C := RX3) (n := 1) (As := [.int (zI (48 + (am / 100)))]) (rest := []) (wr := []) (wn := (fun (u : (Nat → Int) × Int) => [(h, .inr (3, [.ref hb, .int (zI n1), .int (zI P1), .ref ht, .int (zI u.2)])), (hb, .inl (cB, 1200, .inl (zA r1))), (ht, .inl (cT, 420, .inl (zA u.1)))])) S w (c_X3_put l D cB cT h hb ht r1 n1 P1 tx1 len1 (48 + (am / 100)) (by omega)) gX3_body_X3_put (by decide +kernel) rfl ⟨rfl, rfl⟩ ⟨Nat.le_of_ble_eq_true rfl, Nat.le_of_ble_eq_true rfl⟩ [0, 1] [0, 1, 2] [] [0, 1, 2] rfl rfl rfl rfl rfl (by decide) (fun u => rfl) rfl rfl rfl rfl rfl hl.1 (Nat.le_of_ble_eq_true rfl) ⟨Nat.le_of_ble_eq_true rfl, Nat.le_of_ble_eq_true rfl⟩ rfl dX3_body_249 (fun u H locs p249 w => ?_)
      obtain ⟨tx249, len249⟩ := u
      have p249 : tx249 = zu tx1 len1.toNat (48 + (am / 100)) ∧ len249 = len1 + 1 := p249
      have w : zW D _ _ s [(h, .inr (3, [.ref hb, .int (zI n1), .int (zI P1), .ref ht, .int (zI len249)])), (hb, .inl (cB, 1200, .inl (zA r1))), (ht, .inl (cT, 420, .inl (zA tx249)))] H locs := w
      have t249 := tRep_put' t1 p249
      refine lv_aload_n S.1 S.2.1 dX3_body_252 rfl (lv_at hl 0 rfl) ?_
      refine z_bipush S dX3_body_253 (by decide +kernel) ?_
      refine lv_iload S.1 S.2.1 dX3_body_255 (lv_at hl 1 rfl) ?_
      refine z_bipush S dX3_body_257 (by decide +kernel) ?_
      refine z_idiv S dX3_body_259 (by omega) (by omega) ?_
      refine z_bipush S dX3_body_260 (by decide +kernel) ?_
      refine z_irem S dX3_body_262 (by omega) (by omega) ?_
      refine z_iadd S dX3_body_263 ?_
      refine z_callvV (C := RX3) (n := 1) (As := [.int (zI (48 + ((am / 10) % 10)))]) (rest := []) (wr := []) (wn := (fun (u : (Nat → Int) × Int) => [(h, .inr (3, [.ref hb, .int (zI n1), .int (zI P1), .ref ht, .int (zI u.2)])), (hb, .inl (cB, 1200, .inl (zA r1))), (ht, .inl (cT, 420, .inl (zA u.1)))])) S w (c_X3_put l D cB cT h hb ht r1 n1 P1 tx249 len249 (48 + ((am / 10) % 10)) (by omega)) gX3_body_X3_put (by decide +kernel) rfl ⟨rfl, rfl⟩ ⟨Nat.le_of_ble_eq_true rfl, Nat.le_of_ble_eq_true rfl⟩ [0, 1] [0, 1, 2] [] [0, 1, 2] rfl rfl rfl rfl rfl (by decide) (fun u => rfl) rfl rfl rfl rfl rfl hl.1 (Nat.le_of_ble_eq_true rfl) ⟨Nat.le_of_ble_eq_true rfl, Nat.le_of_ble_eq_true rfl⟩ rfl dX3_body_264 (fun u H locs p264 w => ?_)
      obtain ⟨tx264, len264⟩ := u
      have p264 : tx264 = zu tx249 len249.toNat (48 + ((am / 10) % 10)) ∧ len264 = len249 + 1 := p264
      have w : zW D _ _ s [(h, .inr (3, [.ref hb, .int (zI n1), .int (zI P1), .ref ht, .int (zI len264)])), (hb, .inl (cB, 1200, .inl (zA r1))), (ht, .inl (cT, 420, .inl (zA tx264)))] H locs := w
      have t264 := tRep_put' (by first | exact t249 | exact t1) p264
      refine lv_aload_n S.1 S.2.1 dX3_body_267 rfl (lv_at hl 0 rfl) ?_
      refine z_bipush S dX3_body_268 (by decide +kernel) ?_
      refine lv_iload S.1 S.2.1 dX3_body_270 (lv_at hl 1 rfl) ?_
      refine z_bipush S dX3_body_272 (by decide +kernel) ?_
      refine z_irem S dX3_body_274 (by omega) (by omega) ?_
      refine z_iadd S dX3_body_275 ?_
      refine z_callvV (C := RX3) (n := 1) (As := [.int (zI (48 + (am % 10)))]) (rest := []) (wr := []) (wn := (fun (u : (Nat → Int) × Int) => [(h, .inr (3, [.ref hb, .int (zI n1), .int (zI P1), .ref ht, .int (zI u.2)])), (hb, .inl (cB, 1200, .inl (zA r1))), (ht, .inl (cT, 420, .inl (zA u.1)))])) S w (c_X3_put l D cB cT h hb ht r1 n1 P1 tx264 len264 (48 + (am % 10)) (by omega)) gX3_body_X3_put (by decide +kernel) rfl ⟨rfl, rfl⟩ ⟨Nat.le_of_ble_eq_true rfl, Nat.le_of_ble_eq_true rfl⟩ [0, 1] [0, 1, 2] [] [0, 1, 2] rfl rfl rfl rfl rfl (by decide) (fun u => rfl) rfl rfl rfl rfl rfl hl.1 (Nat.le_of_ble_eq_true rfl) ⟨Nat.le_of_ble_eq_true rfl, Nat.le_of_ble_eq_true rfl⟩ rfl dX3_body_276 (fun u H locs p276 w => ?_)
      obtain ⟨tx276, len276⟩ := u
      have p276 : tx276 = zu tx264 len264.toNat (48 + (am % 10)) ∧ len276 = len264 + 1 := p276
      have w : zW D _ _ s [(h, .inr (3, [.ref hb, .int (zI n1), .int (zI P1), .ref ht, .int (zI len276)])), (hb, .inl (cB, 1200, .inl (zA r1))), (ht, .inl (cT, 420, .inl (zA tx276)))] H locs := w
      have t276 := tRep_put' t264 p276
      have k10_ : tRep tx276 len276 (T ++ (if how = 0 then plT X p1 (if 0 < p1 ∨ dot = 1 then (1 : Int) else 0) else epT X p1 (if 0 < p1 ∨ dot = 1 then (1 : Int) else 0) (if how = 2 then (69 : Int) else 101))) ∧ len276 ≤ 340 := by
        rw [if_neg hh]
        unfold epT exT
        rw [← hY0, ← he.1, ← ham.1]
        rw [if_pos (show 100 ≤ am by omega)]
        simp only [List.append_assoc, List.singleton_append, List.cons_append, List.nil_append, List.append_nil] at t276 ⊢
        exact ⟨t276, by omega⟩
      exact z_vret S hr hlk w (r1, n1, P1, tx276, len276) k10_ rfl dX3_body_279
  have lab218 : ∀ (r1 : Nat → Int) (n1 : Int) (P1 : Int) (tx1 : Nat → Int) (len1 : Int) (Y : Nat) (ee : Int), (Y = eY X p1) → (mRep r1 n1 P1 Y) → (how ≠ 0) → (ee = hiX Y ∧ -2000 ≤ ee ∧ ee ≤ 2000) → (tRep tx1 len1 ((T ++ dT (gX Y) ee ee ++ ptT (if 0 < p1 ∨ dot = 1 then (1 : Int) else 0) ++ dT (gX Y) (ee - 1) (ee - p1)) ++ [(if how = 2 then (69 : Int) else 101), if ee < 0 then 45 else 43])) → (len1 ≤ len + 19) → ∀ (H : Heap) (locs : List Loc) (ls : Array Slot), zW D [(cB, .byte), (cT, .int)] (va_A [(h, .inr (3, [.ref hb, .int (zI n), .int (zI P), .ref ht, .int (zI len)])), (hb, .inl (cB, 1200, .inl (zA r))), (ht, .inl (cT, 420, .inl (zA tx)))] s.heap.size) s [(h, .inr (3, [.ref hb, .int (zI n1), .int (zI P1), .ref ht, .int (zI len1)])), (hb, .inl (cB, 1200, .inl (zA r1))), (ht, .inl (cT, 420, .inl (zA tx1)))] H locs → lv_has ls 6 [(0, .ref h), (4, .int (zI ee))] → W p l e ({ frames := 2, cells := 0, slots := 0, locals := 47 } : Room) s m ([.ref h, .int (zI how), .int (zI p1), .int (zI dot)] : List Value).toArray below meth c H locs 0 0 (MQ below (zQv D [(cB, .byte), (cT, .int)] [(h, .inr (3, [.ref hb, .int (zI n), .int (zI P), .ref ht, .int (zI len)])), (hb, .inl (cB, 1200, .inl (zA r))), (ht, .inl (cT, 420, .inl (zA tx)))] s.heap.size (fun (u : (Nat → Int) × Int × Int × (Nat → Int) × Int) => tRep u.2.2.2.1 u.2.2.2.2 (T ++ (if how = 0 then plT X p1 (if 0 < p1 ∨ dot = 1 then (1 : Int) else 0) else epT X p1 (if 0 < p1 ∨ dot = 1 then (1 : Int) else 0) (if how = 2 then (69 : Int) else 101))) ∧ u.2.2.2.2 ≤ 340) (fun (u : (Nat → Int) × Int × Int × (Nat → Int) × Int) => [(h, .inr (3, [.ref hb, .int (zI u.2.1), .int (zI u.2.2.1), .ref ht, .int (zI u.2.2.2.2)])), (hb, .inl (cB, 1200, .inl (zA u.1))), (ht, .inl (cT, 420, .inl (zA u.2.2.2.1)))])) ([.ref h, .int (zI how), .int (zI p1), .int (zI dot)] : List Value).toArray s 0 0 (va_A [(h, .inr (3, [.ref hb, .int (zI n), .int (zI P), .ref ht, .int (zI len)])), (hb, .inl (cB, 1200, .inl (zA r))), (ht, .inl (cT, 420, .inl (zA tx)))] s.heap.size)) (F0 m 218 ls []) := by
    intro r1 n1 P1 tx1 len1 Y ee hY0 hq hh he t1 hl1 H locs ls w hl
    have g2 := t1.1
    refine lv_iload S.1 S.2.1 dX3_body_218 (lv_at hl 1 rfl) ?_
    refine z_if_ge (tgt := 229) S dX3_body_220 (by decide) (by omega) (fun h220 => ?_) (fun h220 => ?_)
    · skip
      refine lv_iload S.1 S.2.1 dX3_body_229 (lv_at hl 1 rfl) ?_
      refine lv_istore (lv' := [(5, .int (zI ee)), (0, .ref h), (4, .int (zI ee))]) S.1 S.2.1 dX3_body_231 hl (by decide) rfl (fun ls hl => ?_)
      have k11_ : ee = exA ee ∧ 0 ≤ ee ∧ ee ≤ 2000 := by
        unfold exA
        first
          | (rw [if_neg (show ¬ 0 ≤ ee by omega)]; omega)
          | (rw [if_pos (show 0 ≤ ee by omega)]; omega)
      exact lab233 r1 n1 P1 tx1 len1 Y ee ee hY0 hq (by omega) (by omega) k11_ t1 (by omega) _ _ _ w (lv_sub hl [1, 0] rfl)
    · skip
      refine lv_iload S.1 S.2.1 dX3_body_223 (lv_at hl 1 rfl) ?_
      refine z_ineg S dX3_body_225 ?_
      refine lv_goto (tgt := 231) S.1 S.2.1 dX3_body_226 (by decide) ?_
      refine lv_istore (lv' := [(5, .int (zI (-ee))), (0, .ref h), (4, .int (zI ee))]) S.1 S.2.1 dX3_body_231 hl (by decide) rfl (fun ls hl => ?_)
      have k12_ : (-ee) = exA ee ∧ 0 ≤ (-ee) ∧ (-ee) ≤ 2000 := by
        unfold exA
        first
          | (rw [if_neg (show ¬ 0 ≤ ee by omega)]; omega)
          | (rw [if_pos (show 0 ≤ ee by omega)]; omega)
      exact lab233 r1 n1 P1 tx1 len1 Y ee (-ee) hY0 hq (by omega) (by omega) k12_ t1 (by omega) _ _ _ w (lv_sub hl [1, 0] rfl)
  have lab202 : ∀ (r1 : Nat → Int) (n1 : Int) (P1 : Int) (tx1 : Nat → Int) (len1 : Int) (Y : Nat) (ee : Int), (Y = eY X p1) → (mRep r1 n1 P1 Y) → (how ≠ 0) → (ee = hiX Y ∧ -2000 ≤ ee ∧ ee ≤ 2000) → (tRep tx1 len1 ((T ++ dT (gX Y) ee ee ++ ptT (if 0 < p1 ∨ dot = 1 then (1 : Int) else 0) ++ dT (gX Y) (ee - 1) (ee - p1)) ++ [(if how = 2 then (69 : Int) else 101)])) → (len1 ≤ len + 18) → ∀ (H : Heap) (locs : List Loc) (ls : Array Slot), zW D [(cB, .byte), (cT, .int)] (va_A [(h, .inr (3, [.ref hb, .int (zI n), .int (zI P), .ref ht, .int (zI len)])), (hb, .inl (cB, 1200, .inl (zA r))), (ht, .inl (cT, 420, .inl (zA tx)))] s.heap.size) s [(h, .inr (3, [.ref hb, .int (zI n1), .int (zI P1), .ref ht, .int (zI len1)])), (hb, .inl (cB, 1200, .inl (zA r1))), (ht, .inl (cT, 420, .inl (zA tx1)))] H locs → lv_has ls 6 [(0, .ref h), (4, .int (zI ee))] → W p l e ({ frames := 2, cells := 0, slots := 0, locals := 47 } : Room) s m ([.ref h, .int (zI how), .int (zI p1), .int (zI dot)] : List Value).toArray below meth c H locs 0 0 (MQ below (zQv D [(cB, .byte), (cT, .int)] [(h, .inr (3, [.ref hb, .int (zI n), .int (zI P), .ref ht, .int (zI len)])), (hb, .inl (cB, 1200, .inl (zA r))), (ht, .inl (cT, 420, .inl (zA tx)))] s.heap.size (fun (u : (Nat → Int) × Int × Int × (Nat → Int) × Int) => tRep u.2.2.2.1 u.2.2.2.2 (T ++ (if how = 0 then plT X p1 (if 0 < p1 ∨ dot = 1 then (1 : Int) else 0) else epT X p1 (if 0 < p1 ∨ dot = 1 then (1 : Int) else 0) (if how = 2 then (69 : Int) else 101))) ∧ u.2.2.2.2 ≤ 340) (fun (u : (Nat → Int) × Int × Int × (Nat → Int) × Int) => [(h, .inr (3, [.ref hb, .int (zI u.2.1), .int (zI u.2.2.1), .ref ht, .int (zI u.2.2.2.2)])), (hb, .inl (cB, 1200, .inl (zA u.1))), (ht, .inl (cT, 420, .inl (zA u.2.2.2.1)))])) ([.ref h, .int (zI how), .int (zI p1), .int (zI dot)] : List Value).toArray s 0 0 (va_A [(h, .inr (3, [.ref hb, .int (zI n), .int (zI P), .ref ht, .int (zI len)])), (hb, .inl (cB, 1200, .inl (zA r))), (ht, .inl (cT, 420, .inl (zA tx)))] s.heap.size)) (F0 m 202 ls []) := by
    intro r1 n1 P1 tx1 len1 Y ee hY0 hq hh he t1 hl1 H locs ls w hl
    have g2 := t1.1
    refine lv_aload_n S.1 S.2.1 dX3_body_202 rfl (lv_at hl 0 rfl) ?_
    refine lv_iload S.1 S.2.1 dX3_body_203 (lv_at hl 1 rfl) ?_
    refine z_if_ge (tgt := 213) S dX3_body_205 (by decide) (by omega) (fun h205 => ?_) (fun h205 => ?_)
    · skip
      refine z_bipush S dX3_body_213 (by decide +kernel) ?_
      refine z_callvV (C := RX3) (n := 1) (As := [.int (zI 43)]) (rest := []) (wr := []) (wn := (fun (u : (Nat → Int) × Int) => [(h, .inr (3, [.ref hb, .int (zI n1), .int (zI P1), .ref ht, .int (zI u.2)])), (hb, .inl (cB, 1200, .inl (zA r1))), (ht, .inl (cT, 420, .inl (zA u.1)))])) S w (c_X3_put l D cB cT h hb ht r1 n1 P1 tx1 len1 43 (by omega)) gX3_body_X3_put (by decide +kernel) rfl ⟨rfl, rfl⟩ ⟨Nat.le_of_ble_eq_true rfl, Nat.le_of_ble_eq_true rfl⟩ [0, 1] [0, 1, 2] [] [0, 1, 2] rfl rfl rfl rfl rfl (by decide) (fun u => rfl) rfl rfl rfl rfl rfl hl.1 (Nat.le_of_ble_eq_true rfl) ⟨Nat.le_of_ble_eq_true rfl, Nat.le_of_ble_eq_true rfl⟩ rfl dX3_body_215 (fun u H locs p215 w => ?_)
      obtain ⟨tx215, len215⟩ := u
      have p215 : tx215 = zu tx1 len1.toNat (43 : Int) ∧ len215 = len1 + 1 := p215
      have w : zW D _ _ s [(h, .inr (3, [.ref hb, .int (zI n1), .int (zI P1), .ref ht, .int (zI len215)])), (hb, .inl (cB, 1200, .inl (zA r1))), (ht, .inl (cT, 420, .inl (zA tx215)))] H locs := w
      have k13_ : tRep tx215 len215 ((T ++ dT (gX Y) ee ee ++ ptT (if 0 < p1 ∨ dot = 1 then (1 : Int) else 0) ++ dT (gX Y) (ee - 1) (ee - p1)) ++ [(if how = 2 then (69 : Int) else 101), if ee < 0 then 45 else 43]) := by
        have q1 := tRep_put' t1 p215
        rw [List.append_assoc] at q1
        first
          | (rw [if_pos (show ee < 0 by omega)]; exact q1)
          | (rw [if_neg (show ¬ ee < 0 by omega)]; exact q1)
      exact lab218 r1 n1 P1 tx215 len215 Y ee hY0 hq (by omega) (by omega) k13_ (by omega) _ _ _ w (lv_sub hl [0, 1] rfl)
    · skip
      refine z_bipush S dX3_body_208 (by decide +kernel) ?_
      refine lv_goto (tgt := 215) S.1 S.2.1 dX3_body_210 (by decide) ?_
      refine z_callvV (C := RX3) (n := 1) (As := [.int (zI 45)]) (rest := []) (wr := []) (wn := (fun (u : (Nat → Int) × Int) => [(h, .inr (3, [.ref hb, .int (zI n1), .int (zI P1), .ref ht, .int (zI u.2)])), (hb, .inl (cB, 1200, .inl (zA r1))), (ht, .inl (cT, 420, .inl (zA u.1)))])) S w (c_X3_put l D cB cT h hb ht r1 n1 P1 tx1 len1 45 (by omega)) gX3_body_X3_put (by decide +kernel) rfl ⟨rfl, rfl⟩ ⟨Nat.le_of_ble_eq_true rfl, Nat.le_of_ble_eq_true rfl⟩ [0, 1] [0, 1, 2] [] [0, 1, 2] rfl rfl rfl rfl rfl (by decide) (fun u => rfl) rfl rfl rfl rfl rfl hl.1 (Nat.le_of_ble_eq_true rfl) ⟨Nat.le_of_ble_eq_true rfl, Nat.le_of_ble_eq_true rfl⟩ rfl dX3_body_215 (fun u H locs p215 w => ?_)
      obtain ⟨tx215, len215⟩ := u
      have p215 : tx215 = zu tx1 len1.toNat (45 : Int) ∧ len215 = len1 + 1 := p215
      have w : zW D _ _ s [(h, .inr (3, [.ref hb, .int (zI n1), .int (zI P1), .ref ht, .int (zI len215)])), (hb, .inl (cB, 1200, .inl (zA r1))), (ht, .inl (cT, 420, .inl (zA tx215)))] H locs := w
      have k14_ : tRep tx215 len215 ((T ++ dT (gX Y) ee ee ++ ptT (if 0 < p1 ∨ dot = 1 then (1 : Int) else 0) ++ dT (gX Y) (ee - 1) (ee - p1)) ++ [(if how = 2 then (69 : Int) else 101), if ee < 0 then 45 else 43]) := by
        have q1 := tRep_put' t1 p215
        rw [List.append_assoc] at q1
        first
          | (rw [if_pos (show ee < 0 by omega)]; exact q1)
          | (rw [if_neg (show ¬ ee < 0 by omega)]; exact q1)
      exact lab218 r1 n1 P1 tx215 len215 Y ee hY0 hq (by omega) (by omega) k14_ (by omega) _ _ _ w (lv_sub hl [0, 1] rfl)
  have lab161 : ∀ (nf_ : Nat) (r1 : Nat → Int) (n1 : Int) (P1 : Int) (tx1 : Nat → Int) (len1 : Int) (Y : Nat) (ee : Int) (k : Int), (p1 + 1 - k).toNat < nf_ → (Y = eY X p1) → (mRep r1 n1 P1 Y) → (n1 ≤ 1200 ∧ -1100 ≤ P1 ∧ P1 ≤ 1200) → (how ≠ 0) → (ee = hiX Y ∧ -2000 ≤ ee ∧ ee ≤ 2000) → (1 ≤ k ∧ k ≤ p1 + 1) → (tRep tx1 len1 (T ++ dT (gX Y) ee ee ++ ptT (if 0 < p1 ∨ dot = 1 then (1 : Int) else 0) ++ dT (gX Y) (ee - 1) (ee - k + 1))) → (len1 ≤ len + 1 + k) → ∀ (H : Heap) (locs : List Loc) (ls : Array Slot), zW D [(cB, .byte), (cT, .int)] (va_A [(h, .inr (3, [.ref hb, .int (zI n), .int (zI P), .ref ht, .int (zI len)])), (hb, .inl (cB, 1200, .inl (zA r))), (ht, .inl (cT, 420, .inl (zA tx)))] s.heap.size) s [(h, .inr (3, [.ref hb, .int (zI n1), .int (zI P1), .ref ht, .int (zI len1)])), (hb, .inl (cB, 1200, .inl (zA r1))), (ht, .inl (cT, 420, .inl (zA tx1)))] H locs → lv_has ls 6 [(0, .ref h), (1, .int (zI how)), (2, .int (zI p1)), (3, .int (zI dot)), (4, .int (zI ee)), (5, .int (zI k))] → W p l e ({ frames := 2, cells := 0, slots := 0, locals := 47 } : Room) s m ([.ref h, .int (zI how), .int (zI p1), .int (zI dot)] : List Value).toArray below meth c H locs 0 0 (MQ below (zQv D [(cB, .byte), (cT, .int)] [(h, .inr (3, [.ref hb, .int (zI n), .int (zI P), .ref ht, .int (zI len)])), (hb, .inl (cB, 1200, .inl (zA r))), (ht, .inl (cT, 420, .inl (zA tx)))] s.heap.size (fun (u : (Nat → Int) × Int × Int × (Nat → Int) × Int) => tRep u.2.2.2.1 u.2.2.2.2 (T ++ (if how = 0 then plT X p1 (if 0 < p1 ∨ dot = 1 then (1 : Int) else 0) else epT X p1 (if 0 < p1 ∨ dot = 1 then (1 : Int) else 0) (if how = 2 then (69 : Int) else 101))) ∧ u.2.2.2.2 ≤ 340) (fun (u : (Nat → Int) × Int × Int × (Nat → Int) × Int) => [(h, .inr (3, [.ref hb, .int (zI u.2.1), .int (zI u.2.2.1), .ref ht, .int (zI u.2.2.2.2)])), (hb, .inl (cB, 1200, .inl (zA u.1))), (ht, .inl (cT, 420, .inl (zA u.2.2.2.1)))])) ([.ref h, .int (zI how), .int (zI p1), .int (zI dot)] : List Value).toArray s 0 0 (va_A [(h, .inr (3, [.ref hb, .int (zI n), .int (zI P), .ref ht, .int (zI len)])), (hb, .inl (cB, 1200, .inl (zA r))), (ht, .inl (cT, 420, .inl (zA tx)))] s.heap.size)) (F0 m 161 ls []) := by
    intro nf_
    induction nf_ with
    | zero => intro r1 n1 P1 tx1 len1 Y ee k hmeas_; exact absurd hmeas_ (Nat.not_lt_zero _)
    | succ nf_ ih =>
      intro r1 n1 P1 tx1 len1 Y ee k hmeas_ hY0 hq hb1 hh he hk t1 hl1 H locs ls w hl
      have hl0 := hT.1
      have g1 := hq.1.2.1
      have g2 := t1.1
      refine lv_iload S.1 S.2.1 dX3_body_161 (lv_at hl 5 rfl) ?_
      refine lv_iload_n S.1 S.2.1 dX3_body_163 rfl (lv_at hl 2 rfl) ?_
      refine z_icmp_gt (tgt := 186) S dX3_body_164 (by decide) (by omega) (by omega) (fun h164 => ?_) (fun h164 => ?_)
      · skip
        have ek : ee - k + 1 = ee - p1 := by omega
        rw [ek] at t1
        refine lv_aload_n S.1 S.2.1 dX3_body_186 rfl (lv_at hl 0 rfl) ?_
        refine lv_iload_n S.1 S.2.1 dX3_body_187 rfl (lv_at hl 1 rfl) ?_
        refine z_iconst S dX3_body_188 ?_
        refine z_icmp_ne (tgt := 197) S dX3_body_189 (by decide) (by omega) (by omega) (fun h189 => ?_) (fun h189 => ?_)
        · skip
          refine z_bipush S dX3_body_197 (by decide +kernel) ?_
          refine z_callvV (C := RX3) (n := 1) (As := [.int (zI 69)]) (rest := []) (wr := []) (wn := (fun (u : (Nat → Int) × Int) => [(h, .inr (3, [.ref hb, .int (zI n1), .int (zI P1), .ref ht, .int (zI u.2)])), (hb, .inl (cB, 1200, .inl (zA r1))), (ht, .inl (cT, 420, .inl (zA u.1)))])) S w (c_X3_put l D cB cT h hb ht r1 n1 P1 tx1 len1 69 (by omega)) gX3_body_X3_put (by decide +kernel) rfl ⟨rfl, rfl⟩ ⟨Nat.le_of_ble_eq_true rfl, Nat.le_of_ble_eq_true rfl⟩ [0, 1] [0, 1, 2] [] [0, 1, 2] rfl rfl rfl rfl rfl (by decide) (fun u => rfl) rfl rfl rfl rfl rfl hl.1 (Nat.le_of_ble_eq_true rfl) ⟨Nat.le_of_ble_eq_true rfl, Nat.le_of_ble_eq_true rfl⟩ rfl dX3_body_199 (fun u H locs p199 w => ?_)
          obtain ⟨tx199, len199⟩ := u
          have p199 : tx199 = zu tx1 len1.toNat (69 : Int) ∧ len199 = len1 + 1 := p199
          have w : zW D _ _ s [(h, .inr (3, [.ref hb, .int (zI n1), .int (zI P1), .ref ht, .int (zI len199)])), (hb, .inl (cB, 1200, .inl (zA r1))), (ht, .inl (cT, 420, .inl (zA tx199)))] H locs := w
          have k15_ : tRep tx199 len199 ((T ++ dT (gX Y) ee ee ++ ptT (if 0 < p1 ∨ dot = 1 then (1 : Int) else 0) ++ dT (gX Y) (ee - 1) (ee - p1)) ++ [(if how = 2 then (69 : Int) else 101)]) := by
            have q1 := tRep_put' t1 p199
            first
              | (rw [if_neg (show ¬ how = 2 by omega)]; exact q1)
              | (rw [if_pos (show how = 2 by omega)]; exact q1)
          exact lab202 r1 n1 P1 tx199 len199 Y ee hY0 hq (by omega) (by omega) k15_ (by omega) _ _ _ w (lv_sub hl [0, 4] rfl)
        · skip
          refine z_bipush S dX3_body_192 (by decide +kernel) ?_
          refine lv_goto (tgt := 199) S.1 S.2.1 dX3_body_194 (by decide) ?_
          refine z_callvV (C := RX3) (n := 1) (As := [.int (zI 101)]) (rest := []) (wr := []) (wn := (fun (u : (Nat → Int) × Int) => [(h, .inr (3, [.ref hb, .int (zI n1), .int (zI P1), .ref ht, .int (zI u.2)])), (hb, .inl (cB, 1200, .inl (zA r1))), (ht, .inl (cT, 420, .inl (zA u.1)))])) S w (c_X3_put l D cB cT h hb ht r1 n1 P1 tx1 len1 101 (by omega)) gX3_body_X3_put (by decide +kernel) rfl ⟨rfl, rfl⟩ ⟨Nat.le_of_ble_eq_true rfl, Nat.le_of_ble_eq_true rfl⟩ [0, 1] [0, 1, 2] [] [0, 1, 2] rfl rfl rfl rfl rfl (by decide) (fun u => rfl) rfl rfl rfl rfl rfl hl.1 (Nat.le_of_ble_eq_true rfl) ⟨Nat.le_of_ble_eq_true rfl, Nat.le_of_ble_eq_true rfl⟩ rfl dX3_body_199 (fun u H locs p199 w => ?_)
          obtain ⟨tx199, len199⟩ := u
          have p199 : tx199 = zu tx1 len1.toNat (101 : Int) ∧ len199 = len1 + 1 := p199
          have w : zW D _ _ s [(h, .inr (3, [.ref hb, .int (zI n1), .int (zI P1), .ref ht, .int (zI len199)])), (hb, .inl (cB, 1200, .inl (zA r1))), (ht, .inl (cT, 420, .inl (zA tx199)))] H locs := w
          have k16_ : tRep tx199 len199 ((T ++ dT (gX Y) ee ee ++ ptT (if 0 < p1 ∨ dot = 1 then (1 : Int) else 0) ++ dT (gX Y) (ee - 1) (ee - p1)) ++ [(if how = 2 then (69 : Int) else 101)]) := by
            have q1 := tRep_put' t1 p199
            first
              | (rw [if_neg (show ¬ how = 2 by omega)]; exact q1)
              | (rw [if_pos (show how = 2 by omega)]; exact q1)
          exact lab202 r1 n1 P1 tx199 len199 Y ee hY0 hq (by omega) (by omega) k16_ (by omega) _ _ _ w (lv_sub hl [0, 4] rfl)
      · skip
        refine lv_aload_n S.1 S.2.1 dX3_body_167 rfl (lv_at hl 0 rfl) ?_
        refine z_bipush S dX3_body_168 (by decide +kernel) ?_
        refine lv_aload_n S.1 S.2.1 dX3_body_170 rfl (lv_at hl 0 rfl) ?_
        refine lv_iload S.1 S.2.1 dX3_body_171 (lv_at hl 5 rfl) ?_
        refine z_calliV (C := RX3) (n := 1) (As := [.int (zI k)]) (rest := [.int (zI 48), .ref h]) (wr := []) (wn := (fun (u : Unit) => [(h, .inr (3, [.ref hb, .int (zI n1), .int (zI P1), .ref ht, .int (zI len1)])), (hb, .inl (cB, 1200, .inl (zA r1))), (ht, .inl (cT, 420, .inl (zA tx1)))])) S w (c_X3_digit l D cB cT h hb ht r1 n1 P1 tx1 len1 k (by omega) (by omega)) gX3_body_X3_digit (by decide +kernel) rfl ⟨rfl, rfl⟩ ⟨Nat.le_of_ble_eq_true rfl, Nat.le_of_ble_eq_true rfl⟩ [0, 1] [0, 1, 2] [] [0, 1, 2] rfl rfl rfl rfl rfl (by decide) (fun u => rfl) rfl rfl rfl rfl rfl hl.1 (Nat.le_of_ble_eq_true rfl) ⟨Nat.le_of_ble_eq_true rfl, Nat.le_of_ble_eq_true rfl⟩ rfl dX3_body_173 (fun z173 _ H locs p173 w => ?_)
        have p173 : z173 = mD r1 n1 k := p173
        have w : zW D _ _ s [(h, .inr (3, [.ref hb, .int (zI n1), .int (zI P1), .ref ht, .int (zI len1)])), (hb, .inl (cB, 1200, .inl (zA r1))), (ht, .inl (cT, 420, .inl (zA tx1)))] H locs := w
        rw [exp_dg (k := k) hq he.1 (by omega)] at p173
        refine z_iadd S dX3_body_176 ?_
        refine z_callvV (C := RX3) (n := 1) (As := [.int (zI (48 + z173))]) (rest := []) (wr := []) (wn := (fun (u : (Nat → Int) × Int) => [(h, .inr (3, [.ref hb, .int (zI n1), .int (zI P1), .ref ht, .int (zI u.2)])), (hb, .inl (cB, 1200, .inl (zA r1))), (ht, .inl (cT, 420, .inl (zA u.1)))])) S w (c_X3_put l D cB cT h hb ht r1 n1 P1 tx1 len1 (48 + z173) (by omega)) gX3_body_X3_put (by decide +kernel) rfl ⟨rfl, rfl⟩ ⟨Nat.le_of_ble_eq_true rfl, Nat.le_of_ble_eq_true rfl⟩ [0, 1] [0, 1, 2] [] [0, 1, 2] rfl rfl rfl rfl rfl (by decide) (fun u => rfl) rfl rfl rfl rfl rfl hl.1 (Nat.le_of_ble_eq_true rfl) ⟨Nat.le_of_ble_eq_true rfl, Nat.le_of_ble_eq_true rfl⟩ rfl dX3_body_177 (fun u H locs p177 w => ?_)
        obtain ⟨tx177, len177⟩ := u
        have p177 : tx177 = zu tx1 len1.toNat (48 + z173) ∧ len177 = len1 + 1 := p177
        have w : zW D _ _ s [(h, .inr (3, [.ref hb, .int (zI n1), .int (zI P1), .ref ht, .int (zI len177)])), (hb, .inl (cB, 1200, .inl (zA r1))), (ht, .inl (cT, 420, .inl (zA tx177)))] H locs := w
        refine lv_iinc (v := zI (k + 1)) (lv' := [(5, .int (zI (k + 1))), (0, .ref h), (1, .int (zI how)), (2, .int (zI p1)), (3, .int (zI dot)), (4, .int (zI ee))]) S.1 S.2.1 dX3_body_180 hl (k := 5) rfl (zI_add k 1) (by decide) rfl (fun ls hl => ?_)
        refine lv_goto (tgt := 161) S.1 S.2.1 dX3_body_183 (by decide) ?_
        have k17_ : tRep tx177 len177 (T ++ dT (gX Y) ee ee ++ ptT (if 0 < p1 ∨ dot = 1 then (1 : Int) else 0) ++ dT (gX Y) (ee - 1) (ee - (k + 1) + 1)) := by
          have q1 := tRep_put' t1 p177
          rw [p173] at q1
          have e2 : ee - (k + 1) + 1 = ee - k := by omega
          rw [e2, dT_snoc _ (by omega : ee - k ≤ ee - 1), ← List.append_assoc]; exact q1
        exact ih r1 n1 P1 tx177 len177 Y ee (k + 1) (by omega) hY0 hq (by omega) (by omega) (by omega) (by omega) k17_ (by omega) _ _ _ w (lv_sub hl [1, 2, 3, 4, 5, 0] rfl)
  have lab132 : ∀ (r1 : Nat → Int) (n1 : Int) (P1 : Int) (tx1 : Nat → Int) (len1 : Int) (Y : Nat) (ee : Int), (Y = eY X p1) → (mRep r1 n1 P1 Y) → (n1 ≤ 1200 ∧ -1100 ≤ P1 ∧ P1 ≤ 1200) → (how ≠ 0) → (ee = hiX Y ∧ -2000 ≤ ee ∧ ee ≤ 2000) → (tRep tx1 len1 T) → (len1 = len) → ∀ (H : Heap) (locs : List Loc) (ls : Array Slot), zW D [(cB, .byte), (cT, .int)] (va_A [(h, .inr (3, [.ref hb, .int (zI n), .int (zI P), .ref ht, .int (zI len)])), (hb, .inl (cB, 1200, .inl (zA r))), (ht, .inl (cT, 420, .inl (zA tx)))] s.heap.size) s [(h, .inr (3, [.ref hb, .int (zI n1), .int (zI P1), .ref ht, .int (zI len1)])), (hb, .inl (cB, 1200, .inl (zA r1))), (ht, .inl (cT, 420, .inl (zA tx1)))] H locs → lv_has ls 6 [(0, .ref h), (1, .int (zI how)), (2, .int (zI p1)), (3, .int (zI dot)), (4, .int (zI ee))] → W p l e ({ frames := 2, cells := 0, slots := 0, locals := 47 } : Room) s m ([.ref h, .int (zI how), .int (zI p1), .int (zI dot)] : List Value).toArray below meth c H locs 0 0 (MQ below (zQv D [(cB, .byte), (cT, .int)] [(h, .inr (3, [.ref hb, .int (zI n), .int (zI P), .ref ht, .int (zI len)])), (hb, .inl (cB, 1200, .inl (zA r))), (ht, .inl (cT, 420, .inl (zA tx)))] s.heap.size (fun (u : (Nat → Int) × Int × Int × (Nat → Int) × Int) => tRep u.2.2.2.1 u.2.2.2.2 (T ++ (if how = 0 then plT X p1 (if 0 < p1 ∨ dot = 1 then (1 : Int) else 0) else epT X p1 (if 0 < p1 ∨ dot = 1 then (1 : Int) else 0) (if how = 2 then (69 : Int) else 101))) ∧ u.2.2.2.2 ≤ 340) (fun (u : (Nat → Int) × Int × Int × (Nat → Int) × Int) => [(h, .inr (3, [.ref hb, .int (zI u.2.1), .int (zI u.2.2.1), .ref ht, .int (zI u.2.2.2.2)])), (hb, .inl (cB, 1200, .inl (zA u.1))), (ht, .inl (cT, 420, .inl (zA u.2.2.2.1)))])) ([.ref h, .int (zI how), .int (zI p1), .int (zI dot)] : List Value).toArray s 0 0 (va_A [(h, .inr (3, [.ref hb, .int (zI n), .int (zI P), .ref ht, .int (zI len)])), (hb, .inl (cB, 1200, .inl (zA r))), (ht, .inl (cT, 420, .inl (zA tx)))] s.heap.size)) (F0 m 132 ls []) := by
    intro r1 n1 P1 tx1 len1 Y ee hY0 hq hb1 hh he t1 hl1 H locs ls w hl
    have hl0 := hT.1
    have g1 := hq.1.2.1
    have g2 := t1.1
    refine lv_aload_n S.1 S.2.1 dX3_body_132 rfl (lv_at hl 0 rfl) ?_
    refine z_bipush S dX3_body_133 (by decide +kernel) ?_
    refine lv_aload_n S.1 S.2.1 dX3_body_135 rfl (lv_at hl 0 rfl) ?_
    refine z_iconst S dX3_body_136 ?_
    refine z_calliV (C := RX3) (n := 1) (As := [.int (zI 0)]) (rest := [.int (zI 48), .ref h]) (wr := []) (wn := (fun (u : Unit) => [(h, .inr (3, [.ref hb, .int (zI n1), .int (zI P1), .ref ht, .int (zI len1)])), (hb, .inl (cB, 1200, .inl (zA r1))), (ht, .inl (cT, 420, .inl (zA tx1)))])) S w (c_X3_digit l D cB cT h hb ht r1 n1 P1 tx1 len1 0 (by omega) (by omega)) gX3_body_X3_digit (by decide +kernel) rfl ⟨rfl, rfl⟩ ⟨Nat.le_of_ble_eq_true rfl, Nat.le_of_ble_eq_true rfl⟩ [0, 1] [0, 1, 2] [] [0, 1, 2] rfl rfl rfl rfl rfl (by decide) (fun u => rfl) rfl rfl rfl rfl rfl hl.1 (Nat.le_of_ble_eq_true rfl) ⟨Nat.le_of_ble_eq_true rfl, Nat.le_of_ble_eq_true rfl⟩ rfl dX3_body_137 (fun z137 _ H locs p137 w => ?_)
    have p137 : z137 = mD r1 n1 (0 : Int) := p137
    have w : zW D _ _ s [(h, .inr (3, [.ref hb, .int (zI n1), .int (zI P1), .ref ht, .int (zI len1)])), (hb, .inl (cB, 1200, .inl (zA r1))), (ht, .inl (cT, 420, .inl (zA tx1)))] H locs := w
    rw [exp_dg (k := 0) hq he.1 (by omega)] at p137
    have b137 := gX_9 Y (ee - 0)
    refine z_iadd S dX3_body_140 ?_
    refine z_callvV (C := RX3) (n := 1) (As := [.int (zI (48 + z137))]) (rest := []) (wr := []) (wn := (fun (u : (Nat → Int) × Int) => [(h, .inr (3, [.ref hb, .int (zI n1), .int (zI P1), .ref ht, .int (zI u.2)])), (hb, .inl (cB, 1200, .inl (zA r1))), (ht, .inl (cT, 420, .inl (zA u.1)))])) S w (c_X3_put l D cB cT h hb ht r1 n1 P1 tx1 len1 (48 + z137) (by omega)) gX3_body_X3_put (by decide +kernel) rfl ⟨rfl, rfl⟩ ⟨Nat.le_of_ble_eq_true rfl, Nat.le_of_ble_eq_true rfl⟩ [0, 1] [0, 1, 2] [] [0, 1, 2] rfl rfl rfl rfl rfl (by decide) (fun u => rfl) rfl rfl rfl rfl rfl hl.1 (Nat.le_of_ble_eq_true rfl) ⟨Nat.le_of_ble_eq_true rfl, Nat.le_of_ble_eq_true rfl⟩ rfl dX3_body_141 (fun u H locs p141 w => ?_)
    obtain ⟨tx141, len141⟩ := u
    have p141 : tx141 = zu tx1 len1.toNat (48 + z137) ∧ len141 = len1 + 1 := p141
    have w : zW D _ _ s [(h, .inr (3, [.ref hb, .int (zI n1), .int (zI P1), .ref ht, .int (zI len141)])), (hb, .inl (cB, 1200, .inl (zA r1))), (ht, .inl (cT, 420, .inl (zA tx141)))] H locs := w
    have t141 : tRep tx141 len141 (T ++ dT (gX Y) ee ee) := by
      have q1 := tRep_put' t1 p141
      have q2 : ee - 0 = ee := by omega
      rw [p137, q2] at q1
      rw [dT_one]; exact q1
    refine lv_iload_n S.1 S.2.1 dX3_body_144 rfl (lv_at hl 2 rfl) ?_
    refine z_if_gt (tgt := 152) S dX3_body_145 (by decide) (by omega) (fun h145 => ?_) (fun h145 => ?_)
    · skip
      refine lv_aload_n S.1 S.2.1 dX3_body_152 rfl (lv_at hl 0 rfl) ?_
      refine z_bipush S dX3_body_153 (by decide +kernel) ?_
      refine z_callvV (C := RX3) (n := 1) (As := [.int (zI 46)]) (rest := []) (wr := []) (wn := (fun (u : (Nat → Int) × Int) => [(h, .inr (3, [.ref hb, .int (zI n1), .int (zI P1), .ref ht, .int (zI u.2)])), (hb, .inl (cB, 1200, .inl (zA r1))), (ht, .inl (cT, 420, .inl (zA u.1)))])) S w (c_X3_put l D cB cT h hb ht r1 n1 P1 tx141 len141 46 (by omega)) gX3_body_X3_put (by decide +kernel) rfl ⟨rfl, rfl⟩ ⟨Nat.le_of_ble_eq_true rfl, Nat.le_of_ble_eq_true rfl⟩ [0, 1] [0, 1, 2] [] [0, 1, 2] rfl rfl rfl rfl rfl (by decide) (fun u => rfl) rfl rfl rfl rfl rfl hl.1 (Nat.le_of_ble_eq_true rfl) ⟨Nat.le_of_ble_eq_true rfl, Nat.le_of_ble_eq_true rfl⟩ rfl dX3_body_155 (fun u H locs p155 w => ?_)
      obtain ⟨tx155, len155⟩ := u
      have p155 : tx155 = zu tx141 len141.toNat (46 : Int) ∧ len155 = len141 + 1 := p155
      have w : zW D _ _ s [(h, .inr (3, [.ref hb, .int (zI n1), .int (zI P1), .ref ht, .int (zI len155)])), (hb, .inl (cB, 1200, .inl (zA r1))), (ht, .inl (cT, 420, .inl (zA tx155)))] H locs := w
      refine z_iconst S dX3_body_158 ?_
      refine lv_istore (lv' := [(5, .int (zI 1)), (0, .ref h), (1, .int (zI how)), (2, .int (zI p1)), (3, .int (zI dot)), (4, .int (zI ee))]) S.1 S.2.1 dX3_body_159 hl (by decide) rfl (fun ls hl => ?_)
      have k18_ : tRep tx155 len155 (T ++ dT (gX Y) ee ee ++ ptT (if 0 < p1 ∨ dot = 1 then (1 : Int) else 0) ++ dT (gX Y) (ee - 1) (ee - (1 : Int) + 1)) := by
        have e1 : ee - 1 + 1 = ee := by omega
        rw [e1, dT_nil _ (by omega : ee - 1 < ee), List.append_nil]
        unfold ptT
        first
          | (rw [if_pos (show 0 < p1 ∨ dot = 1 by omega), if_pos rfl]; exact tRep_put' t141 p155)
          | (rw [if_neg (show ¬ (0 < p1 ∨ dot = 1) by omega), if_neg (show ¬ (0 : Int) = 1 by omega), List.append_nil]; exact t141)
      exact lab161 _ r1 n1 P1 tx155 len155 Y ee 1 (Nat.lt_succ_self _) hY0 hq (by omega) (by omega) (by omega) (by omega) k18_ (by omega) _ _ _ w (lv_sub hl [1, 2, 3, 4, 5, 0] rfl)
    · skip
      refine lv_iload_n S.1 S.2.1 dX3_body_148 rfl (lv_at hl 3 rfl) ?_
      refine z_if_eq (tgt := 158) S dX3_body_149 (by decide) (by omega) (fun h149 => ?_) (fun h149 => ?_)
      · skip
        refine z_iconst S dX3_body_158 ?_
        refine lv_istore (lv' := [(5, .int (zI 1)), (0, .ref h), (1, .int (zI how)), (2, .int (zI p1)), (3, .int (zI dot)), (4, .int (zI ee))]) S.1 S.2.1 dX3_body_159 hl (by decide) rfl (fun ls hl => ?_)
        have k19_ : tRep tx141 len141 (T ++ dT (gX Y) ee ee ++ ptT (if 0 < p1 ∨ dot = 1 then (1 : Int) else 0) ++ dT (gX Y) (ee - 1) (ee - (1 : Int) + 1)) := by
          have e1 : ee - 1 + 1 = ee := by omega
          rw [e1, dT_nil _ (by omega : ee - 1 < ee), List.append_nil]
          unfold ptT
          first
            | (rw [if_pos (show 0 < p1 ∨ dot = 1 by omega), if_pos rfl]; exact tRep_put' t141 p155)
            | (rw [if_neg (show ¬ (0 < p1 ∨ dot = 1) by omega), if_neg (show ¬ (0 : Int) = 1 by omega), List.append_nil]; exact t141)
        exact lab161 _ r1 n1 P1 tx141 len141 Y ee 1 (Nat.lt_succ_self _) hY0 hq (by omega) (by omega) (by omega) (by omega) k19_ (by omega) _ _ _ w (lv_sub hl [1, 2, 3, 4, 5, 0] rfl)
      · skip
        refine lv_aload_n S.1 S.2.1 dX3_body_152 rfl (lv_at hl 0 rfl) ?_
        refine z_bipush S dX3_body_153 (by decide +kernel) ?_
        refine z_callvV (C := RX3) (n := 1) (As := [.int (zI 46)]) (rest := []) (wr := []) (wn := (fun (u : (Nat → Int) × Int) => [(h, .inr (3, [.ref hb, .int (zI n1), .int (zI P1), .ref ht, .int (zI u.2)])), (hb, .inl (cB, 1200, .inl (zA r1))), (ht, .inl (cT, 420, .inl (zA u.1)))])) S w (c_X3_put l D cB cT h hb ht r1 n1 P1 tx141 len141 46 (by omega)) gX3_body_X3_put (by decide +kernel) rfl ⟨rfl, rfl⟩ ⟨Nat.le_of_ble_eq_true rfl, Nat.le_of_ble_eq_true rfl⟩ [0, 1] [0, 1, 2] [] [0, 1, 2] rfl rfl rfl rfl rfl (by decide) (fun u => rfl) rfl rfl rfl rfl rfl hl.1 (Nat.le_of_ble_eq_true rfl) ⟨Nat.le_of_ble_eq_true rfl, Nat.le_of_ble_eq_true rfl⟩ rfl dX3_body_155 (fun u H locs p155 w => ?_)
        obtain ⟨tx155, len155⟩ := u
        have p155 : tx155 = zu tx141 len141.toNat (46 : Int) ∧ len155 = len141 + 1 := p155
        have w : zW D _ _ s [(h, .inr (3, [.ref hb, .int (zI n1), .int (zI P1), .ref ht, .int (zI len155)])), (hb, .inl (cB, 1200, .inl (zA r1))), (ht, .inl (cT, 420, .inl (zA tx155)))] H locs := w
        refine z_iconst S dX3_body_158 ?_
        refine lv_istore (lv' := [(5, .int (zI 1)), (0, .ref h), (1, .int (zI how)), (2, .int (zI p1)), (3, .int (zI dot)), (4, .int (zI ee))]) S.1 S.2.1 dX3_body_159 hl (by decide) rfl (fun ls hl => ?_)
        have k20_ : tRep tx155 len155 (T ++ dT (gX Y) ee ee ++ ptT (if 0 < p1 ∨ dot = 1 then (1 : Int) else 0) ++ dT (gX Y) (ee - 1) (ee - (1 : Int) + 1)) := by
          have e1 : ee - 1 + 1 = ee := by omega
          rw [e1, dT_nil _ (by omega : ee - 1 < ee), List.append_nil]
          unfold ptT
          first
            | (rw [if_pos (show 0 < p1 ∨ dot = 1 by omega), if_pos rfl]; exact tRep_put' t141 p155)
            | (rw [if_neg (show ¬ (0 < p1 ∨ dot = 1) by omega), if_neg (show ¬ (0 : Int) = 1 by omega), List.append_nil]; exact t141)
        exact lab161 _ r1 n1 P1 tx155 len155 Y ee 1 (Nat.lt_succ_self _) hY0 hq (by omega) (by omega) (by omega) (by omega) k20_ (by omega) _ _ _ w (lv_sub hl [1, 2, 3, 4, 5, 0] rfl)
  have hl : lv_has ls 6 [(0, .ref h), (1, .int (zI how)), (2, .int (zI p1)), (3, .int (zI dot))] := hl
  have hl0 := hT.1
  have hp0 := hp.1.2.1
  refine lv_iload_n S.1 S.2.1 dX3_body_0 rfl (lv_at hl 1 rfl) ?_
  refine z_if_ne (tgt := 106) S dX3_body_1 (by decide) (by omega) (fun h1 => ?_) (fun h1 => ?_)
  · skip
    refine lv_aload_n S.1 S.2.1 dX3_body_106 rfl (lv_at hl 0 rfl) ?_
    refine lv_iload_n S.1 S.2.1 dX3_body_107 rfl (lv_at hl 2 rfl) ?_
    refine z_iconst S dX3_body_108 ?_
    refine z_iadd S dX3_body_109 ?_
    refine z_callvV (C := RX3) (n := 1) (As := [.int (zI (p1 + 1))]) (rest := []) (wr := []) (wn := (fun (u : (Nat → Int) × Int × Int) => [(h, .inr (3, [.ref hb, .int (zI u.2.1), .int (zI u.2.2), .ref ht, .int (zI len)])), (hb, .inl (cB, 1200, .inl (zA u.1))), (ht, .inl (cT, 420, .inl (zA tx)))])) S w (c_X3_cut l D cB cT h hb ht r n P tx len (p1 + 1) X hp (by omega) (by omega) (by omega) (by omega)) gX3_body_X3_cut (by decide +kernel) rfl ⟨rfl, rfl⟩ ⟨Nat.le_of_ble_eq_true rfl, Nat.le_of_ble_eq_true rfl⟩ [0, 1] [0, 1, 2] [] [0, 1, 2] rfl rfl rfl rfl rfl (by decide) (fun u => rfl) rfl rfl rfl rfl rfl hl.1 (Nat.le_of_ble_eq_true rfl) ⟨Nat.le_of_ble_eq_true rfl, Nat.le_of_ble_eq_true rfl⟩ rfl dX3_body_110 (fun u H locs p110 w => ?_)
    obtain ⟨r110, n110, P110⟩ := u
    have p110 : mRep r110 n110 P110 (rX X (1200 + P - (p1 + 1)).toNat) ∧ n110 ≤ n ∧ (P110 ≤ P + 1 ∨ P110 = 0) := p110
    have w : zW D _ _ s [(h, .inr (3, [.ref hb, .int (zI n110), .int (zI P110), .ref ht, .int (zI len)])), (hb, .inl (cB, 1200, .inl (zA r110))), (ht, .inl (cT, 420, .inl (zA tx)))] H locs := w
    obtain ⟨a1, a2, a3⟩ := p110
    obtain ⟨Y, eY0⟩ : ∃ Y, eY X p1 = Y := ⟨_, rfl⟩
    have eC : rX X (1200 + P - (p1 + 1)).toNat = Y := by
      rw [← eY0]
      unfold eY
      rcases Nat.eq_zero_or_pos X with q | q
      · rw [q, rX_z, rX_z]
      · have q1 := mRep_ln hp q
        congr 1; omega
    rw [eC] at a1
    have hb2 := mRep_hi a1
    have hb3 := a1.2.1
    have hb4 := a1.1.2.1
    have hb5 := a1.1.2.2.1
    have hb7 : -1100 ≤ P110 := by
      rcases Nat.eq_zero_or_pos X with q | q
      · have q1 : Y = 0 := by rw [← eY0]; unfold eY; rw [q, rX_z]
        have := hb3 ((mRep_0 a1).mpr q1)
        omega
      · have q1 := mRep_ln hp q
        have q2 : ln X ≤ ln Y := by rw [← eC]; exact rX_ge q (by omega)
        have q3 : 0 < Y := by
          rcases Nat.eq_zero_or_pos Y with k | k
          · rw [k, ln_0] at q2; omega
          · exact k
        have := mRep_ln a1 q3
        omega
    refine lv_aload_n S.1 S.2.1 dX3_body_113 rfl (lv_at hl 0 rfl) ?_
    refine z_get (ci := 3) (C := RX3) (T := TX3) (N := 5) S w 0 rfl rfl in_X3_body_X3 1 (by decide) ln_X3_body_23 rfl rfl dX3_body_114 ?_
    refine z_if_ne (tgt := 124) S dX3_body_117 (by decide) (by omega) (fun h117 => ?_) (fun h117 => ?_)
    · skip
      refine lv_aload_n S.1 S.2.1 dX3_body_124 rfl (lv_at hl 0 rfl) ?_
      refine z_get (ci := 3) (C := RX3) (T := TX3) (N := 5) S w 0 rfl rfl in_X3_body_X3 2 (by decide) ln_X3_body_31 rfl rfl dX3_body_125 ?_
      refine z_iconst S dX3_body_128 ?_
      refine z_isub S dX3_body_129 ?_
      refine lv_istore (lv' := [(4, .int (zI (P110 - 1))), (0, .ref h), (1, .int (zI how)), (2, .int (zI p1)), (3, .int (zI dot))]) S.1 S.2.1 dX3_body_130 hl (by decide) rfl (fun ls hl => ?_)
      have k21_ : (P110 - 1) = hiX Y ∧ -2000 ≤ (P110 - 1) ∧ (P110 - 1) ≤ 2000 := by
        first
          | (rw [if_pos (by omega)] at hb2; omega)
          | (rw [if_neg (by omega)] at hb2; omega)
      exact lab132 r110 n110 P110 tx len Y (P110 - 1) eY0.symm a1 (by omega) (by omega) k21_ hT (by omega) _ _ _ w (lv_sub hl [1, 2, 3, 4, 0] rfl)
    · skip
      refine z_iconst S dX3_body_120 ?_
      refine lv_goto (tgt := 130) S.1 S.2.1 dX3_body_121 (by decide) ?_
      refine lv_istore (lv' := [(4, .int (zI 0)), (0, .ref h), (1, .int (zI how)), (2, .int (zI p1)), (3, .int (zI dot))]) S.1 S.2.1 dX3_body_130 hl (by decide) rfl (fun ls hl => ?_)
      have k22_ : (0 : Int) = hiX Y ∧ -2000 ≤ (0 : Int) ∧ (0 : Int) ≤ 2000 := by
        first
          | (rw [if_pos (by omega)] at hb2; omega)
          | (rw [if_neg (by omega)] at hb2; omega)
      exact lab132 r110 n110 P110 tx len Y 0 eY0.symm a1 (by omega) (by omega) k22_ hT (by omega) _ _ _ w (lv_sub hl [1, 2, 3, 4, 0] rfl)
  · skip
    refine lv_aload_n S.1 S.2.1 dX3_body_4 rfl (lv_at hl 0 rfl) ?_
    refine lv_aload_n S.1 S.2.1 dX3_body_5 rfl (lv_at hl 0 rfl) ?_
    refine z_get (ci := 3) (C := RX3) (T := TX3) (N := 5) S w 0 rfl rfl in_X3_body_X3 2 (by decide) ln_X3_body_31 rfl rfl dX3_body_6 ?_
    refine lv_iload_n S.1 S.2.1 dX3_body_9 rfl (lv_at hl 2 rfl) ?_
    refine z_iadd S dX3_body_10 ?_
    refine z_callvV (C := RX3) (n := 1) (As := [.int (zI (P + p1))]) (rest := []) (wr := []) (wn := (fun (u : (Nat → Int) × Int × Int) => [(h, .inr (3, [.ref hb, .int (zI u.2.1), .int (zI u.2.2), .ref ht, .int (zI len)])), (hb, .inl (cB, 1200, .inl (zA u.1))), (ht, .inl (cT, 420, .inl (zA tx)))])) S w (c_X3_cut l D cB cT h hb ht r n P tx len (P + p1) X hp (by omega) (by omega) (by omega) (by omega)) gX3_body_X3_cut (by decide +kernel) rfl ⟨rfl, rfl⟩ ⟨Nat.le_of_ble_eq_true rfl, Nat.le_of_ble_eq_true rfl⟩ [0, 1] [0, 1, 2] [] [0, 1, 2] rfl rfl rfl rfl rfl (by decide) (fun u => rfl) rfl rfl rfl rfl rfl hl.1 (Nat.le_of_ble_eq_true rfl) ⟨Nat.le_of_ble_eq_true rfl, Nat.le_of_ble_eq_true rfl⟩ rfl dX3_body_11 (fun u H locs p11 w => ?_)
    obtain ⟨r11, n11, P11⟩ := u
    have p11 : mRep r11 n11 P11 (rX X (1200 + P - (P + p1)).toNat) ∧ n11 ≤ n ∧ (P11 ≤ P + 1 ∨ P11 = 0) := p11
    have w : zW D _ _ s [(h, .inr (3, [.ref hb, .int (zI n11), .int (zI P11), .ref ht, .int (zI len)])), (hb, .inl (cB, 1200, .inl (zA r11))), (ht, .inl (cT, 420, .inl (zA tx)))] H locs := w
    obtain ⟨a1, a2, a3⟩ := p11
    have eC : (1200 + P - (P + p1)).toNat = (1200 - p1).toNat := by omega
    rw [eC] at a1
    obtain ⟨Y, eY0⟩ : ∃ Y, rX X (1200 - p1).toNat = Y := ⟨_, rfl⟩
    rw [eY0] at a1
    have hb := ln_bnd (Y := Y) (by rw [← eY0]; exact pl_bnd hXb (by omega))
    have hb2 := mRep_hi a1
    have hb3 := a1.2.1
    have hb4 := a1.1.2.1
    have hb5 := a1.1.2.2.1
    have hb6 : P11 ≤ 309 := by
      by_cases q : n11 = 0
      · have := hb3 q; omega
      · rw [if_neg q] at hb2; omega
    refine z_iconst S dX3_body_14 ?_
    refine lv_istore (lv' := [(4, .int (zI 0)), (0, .ref h), (1, .int (zI how)), (2, .int (zI p1)), (3, .int (zI dot))]) S.1 S.2.1 dX3_body_15 hl (by decide) rfl (fun ls hl => ?_)
    exact lab17 _ r11 n11 P11 tx len Y 0 (Nat.lt_succ_self _) eY0.symm a1 (by omega) (by omega) (by omega) (by rw [dT_nil _ (by omega), List.append_nil]; exact hT) (by omega) _ _ _ w (lv_sub hl [1, 3, 4, 0] rfl)
