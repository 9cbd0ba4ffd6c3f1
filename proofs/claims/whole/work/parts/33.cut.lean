set_option maxRecDepth 20000 in
theorem ln_X3_cut_7 : Cond.fieldLink RX3 7 "DecimalTextModel" "row" "[B" ∈ wsX3_cut := by decide +kernel
theorem in_X3_cut_X3 : ∀ w ∈ u_ws RX3 TX3 5, w ∈ wsX3_cut := by decide +kernel
set_option maxRecDepth 20000 in
theorem ln_X3_cut_23 : Cond.fieldLink RX3 23 "DecimalTextModel" "digits" "I" ∈ wsX3_cut := by decide +kernel
set_option maxRecDepth 20000 in
theorem ln_X3_cut_31 : Cond.fieldLink RX3 31 "DecimalTextModel" "point" "I" ∈ wsX3_cut := by decide +kernel
set_option maxHeartbeats 4000000 in
set_option maxRecDepth 100000 in
theorem c_X3_cut (l : Launch) (D : va_G) (cB cT : ClassId) (h : Nat) (hb : Nat) (ht : Nat) (r : Nat → Int) (n : Int) (P : Int) (tx : Nat → Int) (len : Int) (nn : Int) (X : Nat) (hp : mRep r n P X) (hn : n ≤ 1190) (hP : -2000 ≤ P ∧ P ≤ 2000) (hnn : -3000 ≤ nn ∧ nn ≤ 3000) (hc : 0 ≤ 1200 + P - nn) : zMv (T := (Nat → Int) × Int × Int) l yX3_cut wsX3_cut ({ frames := 1, cells := 0, slots := 0, locals := 22 } : Room) D [(cB, .byte), (cT, .int)] [.ref h, .int (zI nn)] [(h, .inr (3, [.ref hb, .int (zI n), .int (zI P), .ref ht, .int (zI len)])), (hb, .inl (cB, 1200, .inl (zA r))), (ht, .inl (cT, 420, .inl (zA tx)))] (fun (u : (Nat → Int) × Int × Int) => mRep u.1 u.2.1 u.2.2 (rX X (1200 + P - nn).toNat) ∧ u.2.1 ≤ n ∧ (u.2.2 ≤ P + 1 ∨ u.2.2 = 0)) (fun (u : (Nat → Int) × Int × Int) => [(h, .inr (3, [.ref hb, .int (zI u.2.1), .int (zI u.2.2), .ref ht, .int (zI len)])), (hb, .inl (cB, 1200, .inl (zA u.1))), (ht, .inl (cT, 420, .inl (zA tx)))]) 0 0 := by
  refine zMv.of (bytes := cX3_cut) (nL := 6) (own := RX3) (by decide) rfl rfl (Nat.le_of_ble_eq_true rfl) ?_
  intro p e s m below meth c ls S hr hlk hnm w hl
  have lab175 : ∀ (nf_ : Nat) (r2 : Nat → Int) (i : Int), (i).toNat < nf_ → (0 ≤ i ∧ i ≤ nn) → (0 ≤ nn ∧ nn < n) → ((5 < r nn.toNat ∨ (r nn.toNat = 5 ∧ ((0 < nn ∧ r (nn - 1).toNat % 2 = 1) ∨ nn + 1 < n)))) → (∀ j : Nat, (j : Int) < nn → r j = 9) → (∀ j : Nat, (j : Int) < i → r2 j = 0) → (∀ j : Nat, i < (j : Int) → (j : Int) ≤ nn → r2 j = 0) → ∀ (H : Heap) (locs : List Loc) (ls : Array Slot), zW D [(cB, .byte), (cT, .int)] (va_A [(h, .inr (3, [.ref hb, .int (zI n), .int (zI P), .ref ht, .int (zI len)])), (hb, .inl (cB, 1200, .inl (zA r))), (ht, .inl (cT, 420, .inl (zA tx)))] s.heap.size) s [(h, .inr (3, [.ref hb, .int (zI nn), .int (zI P), .ref ht, .int (zI len)])), (hb, .inl (cB, 1200, .inl (zA r2))), (ht, .inl (cT, 420, .inl (zA tx)))] H locs → lv_has ls 6 [(0, .ref h), (1, .int (zI nn)), (3, .int (zI P)), (5, .int (zI i))] → W p l e ({ frames := 1, cells := 0, slots := 0, locals := 22 } : Room) s m ([.ref h, .int (zI nn)] : List Value).toArray below meth c H locs 0 0 (MQ below (zQv D [(cB, .byte), (cT, .int)] [(h, .inr (3, [.ref hb, .int (zI n), .int (zI P), .ref ht, .int (zI len)])), (hb, .inl (cB, 1200, .inl (zA r))), (ht, .inl (cT, 420, .inl (zA tx)))] s.heap.size (fun (u : (Nat → Int) × Int × Int) => mRep u.1 u.2.1 u.2.2 (rX X (1200 + P - nn).toNat) ∧ u.2.1 ≤ n ∧ (u.2.2 ≤ P + 1 ∨ u.2.2 = 0)) (fun (u : (Nat → Int) × Int × Int) => [(h, .inr (3, [.ref hb, .int (zI u.2.1), .int (zI u.2.2), .ref ht, .int (zI len)])), (hb, .inl (cB, 1200, .inl (zA u.1))), (ht, .inl (cT, 420, .inl (zA tx)))])) ([.ref h, .int (zI nn)] : List Value).toArray s 0 0 (va_A [(h, .inr (3, [.ref hb, .int (zI n), .int (zI P), .ref ht, .int (zI len)])), (hb, .inl (cB, 1200, .inl (zA r))), (ht, .inl (cT, 420, .inl (zA tx)))] s.heap.size)) (F0 m 175 ls []) := by
    intro nf_
    induction nf_ with
    | zero => intro r2 i hmeas_; exact absurd hmeas_ (Nat.not_lt_zero _)
    | succ nf_ ih =>
      intro r2 i hmeas_ hi hnc hu h9 e1 e2 H locs ls w hl
      refine lv_iload S.1 S.2.1 dX3_cut_175 (lv_at hl 3 rfl) ?_
      refine z_if_le (tgt := 202) S dX3_cut_177 (by decide) (by omega) (fun h177 => ?_) (fun h177 => ?_)
      · skip
        refine lv_aload_n S.1 S.2.1 dX3_cut_202 rfl (lv_at hl 0 rfl) ?_
        refine z_get (ci := 3) (C := RX3) (T := TX3) (N := 5) S w 0 rfl rfl in_X3_cut_X3 0 (by decide) ln_X3_cut_7 rfl rfl dX3_cut_203 ?_
        refine z_iconst S dX3_cut_206 ?_
        refine z_iconst S dX3_cut_207 ?_
        refine z_bast S w 1 0 rfl rfl (by omega) (by decide) (by omega) dX3_cut_208 (fun H locs w => ?_)
        have w : zW D _ _ s [(h, .inr (3, [.ref hb, .int (zI nn), .int (zI P), .ref ht, .int (zI len)])), (hb, .inl (cB, 1200, .inl (zA (zu r2 (0 : Int).toNat 1)))), (ht, .inl (cT, 420, .inl (zA tx)))] H locs := w
        refine lv_aload_n S.1 S.2.1 dX3_cut_209 rfl (lv_at hl 0 rfl) ?_
        refine lv_iload_n S.1 S.2.1 dX3_cut_210 rfl (lv_at hl 1 rfl) ?_
        refine z_iconst S dX3_cut_211 ?_
        refine z_iadd S dX3_cut_212 ?_
        refine z_put (ci := 3) (C := RX3) (T := TX3) (N := 5) S w 0 rfl rfl in_X3_cut_X3 tyX3_ok nmX3 1 (by decide) ln_X3_cut_23 rfl rfl rfl rfl (Nat.le_of_ble_eq_true rfl) dX3_cut_213 (fun H locs w => ?_)
        have w : zW D _ _ s [(h, .inr (3, [.ref hb, .int (zI (nn + 1)), .int (zI P), .ref ht, .int (zI len)])), (hb, .inl (cB, 1200, .inl (zA (zu r2 (0 : Int).toNat 1)))), (ht, .inl (cT, 420, .inl (zA tx)))] H locs := w
        refine lv_aload_n S.1 S.2.1 dX3_cut_216 rfl (lv_at hl 0 rfl) ?_
        refine lv_iload_n S.1 S.2.1 dX3_cut_217 rfl (lv_at hl 2 rfl) ?_
        refine z_iconst S dX3_cut_218 ?_
        refine z_iadd S dX3_cut_219 ?_
        refine z_put (ci := 3) (C := RX3) (T := TX3) (N := 5) S w 0 rfl rfl in_X3_cut_X3 tyX3_ok nmX3 2 (by decide) ln_X3_cut_31 rfl rfl rfl rfl (Nat.le_of_ble_eq_true rfl) dX3_cut_220 (fun H locs w => ?_)
        have w : zW D _ _ s [(h, .inr (3, [.ref hb, .int (zI (nn + 1)), .int (zI (P + 1)), .ref ht, .int (zI len)])), (hb, .inl (cB, 1200, .inl (zA (zu r2 (0 : Int).toNat 1)))), (ht, .inl (cT, 420, .inl (zA tx)))] H locs := w
        refine lv_aload_n S.1 S.2.1 dX3_cut_223 rfl (lv_at hl 0 rfl) ?_
        have k1_ : mPre (zu r2 (0 : Int).toNat 1) (nn + 1) (P + 1) (rX X (1200 + P - nn).toNat) := by
          first
            | (exfalso; omega)
            | exact cut_pre2 hp hnc hu h9 (zu_s _ _ _) (fun j q1 q2 => by rw [zu_n _ _ (by omega)]; exact e2 j (by omega) q2)
            | exact cut_pre1 hp hnc hu (k := k) (by omega) (fun j q => by rw [zu_n _ _ (by omega)]; exact e2 j (by omega)) (by rw [zu_s, e2 _ (by omega)]) (by rw [← e2 _ (by omega)]; exact h127) (fun j q1 q2 => by rw [zu_n _ _ (by omega)]; exact e1 j q1 q2)
            | exact cut_pre0 hp hnc (by rcases hup with q | q
                                        · omega
                                        · exact q.2)
        refine z_callvV (C := RX3) (n := 0) (As := []) (rest := []) (wr := []) (wn := (fun (u : (Nat → Int) × Int × Int) => [(h, .inr (3, [.ref hb, .int (zI u.2.1), .int (zI u.2.2), .ref ht, .int (zI len)])), (hb, .inl (cB, 1200, .inl (zA u.1))), (ht, .inl (cT, 420, .inl (zA tx)))])) S w (c_X3_trim l D cB cT h hb ht (zu r2 (0 : Int).toNat 1) (nn + 1) (P + 1) tx len (rX X (1200 + P - nn).toNat) k1_ (by omega) (by omega)) gX3_cut_X3_trim (by decide +kernel) rfl ⟨rfl, rfl⟩ ⟨Nat.le_of_ble_eq_true rfl, Nat.le_of_ble_eq_true rfl⟩ [0, 1] [0, 1, 2] [] [0, 1, 2] rfl rfl rfl rfl rfl (by decide) (fun u => rfl) rfl rfl rfl rfl rfl hl.1 (Nat.le_of_ble_eq_true rfl) ⟨Nat.le_of_ble_eq_true rfl, Nat.le_of_ble_eq_true rfl⟩ rfl dX3_cut_224 (fun u H locs p224 w => ?_)
        obtain ⟨r224, n224, P224⟩ := u
        have p224 : mRep r224 n224 P224 (rX X (1200 + P - nn).toNat) ∧ n224 ≤ (nn + 1) ∧ (n224 - P224 ≤ (nn + 1) - (P + 1) ∨ n224 - P224 = 0) ∧ (P224 ≤ (P + 1) ∨ P224 = 0) := p224
        have w : zW D _ _ s [(h, .inr (3, [.ref hb, .int (zI n224), .int (zI P224), .ref ht, .int (zI len)])), (hb, .inl (cB, 1200, .inl (zA r224))), (ht, .inl (cT, 420, .inl (zA tx)))] H locs := w
        have k2_ : mRep r224 n224 P224 (rX X (1200 + P - nn).toNat) ∧ n224 ≤ n ∧ (P224 ≤ P + 1 ∨ P224 = 0) := by
          obtain ⟨a1, a2, a3, a4⟩ := p224; exact ⟨a1, by omega, by omega⟩
        exact z_vret S hr hlk w (r224, n224, P224) k2_ rfl dX3_cut_227
      · skip
        refine lv_aload_n S.1 S.2.1 dX3_cut_180 rfl (lv_at hl 0 rfl) ?_
        refine z_get (ci := 3) (C := RX3) (T := TX3) (N := 5) S w 0 rfl rfl in_X3_cut_X3 0 (by decide) ln_X3_cut_7 rfl rfl dX3_cut_181 ?_
        refine lv_iload S.1 S.2.1 dX3_cut_184 (lv_at hl 3 rfl) ?_
        refine lv_aload_n S.1 S.2.1 dX3_cut_186 rfl (lv_at hl 0 rfl) ?_
        refine z_get (ci := 3) (C := RX3) (T := TX3) (N := 5) S w 0 rfl rfl in_X3_cut_X3 0 (by decide) ln_X3_cut_7 rfl rfl dX3_cut_187 ?_
        refine lv_iload S.1 S.2.1 dX3_cut_190 (lv_at hl 3 rfl) ?_
        refine z_iconst S dX3_cut_192 ?_
        refine z_isub S dX3_cut_193 ?_
        refine z_bald S w 1 0 rfl rfl (by omega) (by decide) dX3_cut_194 ?_
        refine z_bast S w 1 0 rfl rfl (by omega) (by decide) (by rw [e1 _ (by omega)]; omega) dX3_cut_195 (fun H locs w => ?_)
        have w : zW D _ _ s [(h, .inr (3, [.ref hb, .int (zI nn), .int (zI P), .ref ht, .int (zI len)])), (hb, .inl (cB, 1200, .inl (zA (zu r2 i.toNat (r2 (i - 1).toNat))))), (ht, .inl (cT, 420, .inl (zA tx)))] H locs := w
        refine lv_iinc (v := zI (i + (-1))) (lv' := [(5, .int (zI (i + (-1)))), (0, .ref h), (1, .int (zI nn)), (3, .int (zI P))]) S.1 S.2.1 dX3_cut_196 hl (k := 3) rfl (zI_add i (-1)) (by decide) rfl (fun ls hl => ?_)
        refine lv_goto (tgt := 175) S.1 S.2.1 dX3_cut_199 (by decide) ?_
        have k3_ : ∀ j : Nat, (i + (-1)) < (j : Int) → (j : Int) ≤ nn → (zu r2 i.toNat (r2 (i - 1).toNat)) j = 0 := by
          intro j q1 q2
          by_cases q3 : (j : Int) = i
          · have q4 : i.toNat = j := by omega
            rw [q4, zu_s]; exact e1 _ (by omega)
          · rw [zu_n _ _ (by omega)]; exact e2 j (by omega) q2
        exact ih (zu r2 i.toNat (r2 (i - 1).toNat)) (i + (-1)) (by omega) (by omega) (by omega) hu h9 (fun j q => by rw [zu_n _ _ (by omega)]; exact e1 j (by omega)) k3_ _ _ _ w (lv_sub hl [1, 2, 3, 0] rfl)
  have lab113 : ∀ (nf_ : Nat) (r1 : Nat → Int) (k : Int), (k + 1).toNat < nf_ → (-1 ≤ k ∧ k ≤ nn - 1) → (0 ≤ nn ∧ nn < n) → ((5 < r nn.toNat ∨ (r nn.toNat = 5 ∧ ((0 < nn ∧ r (nn - 1).toNat % 2 = 1) ∨ nn + 1 < n)))) → (∀ j : Nat, k < (j : Int) → (j : Int) < nn → r j = 9 ∧ r1 j = 0) → (∀ j : Nat, (j : Int) ≤ k → r1 j = r j) → ∀ (H : Heap) (locs : List Loc) (ls : Array Slot), zW D [(cB, .byte), (cT, .int)] (va_A [(h, .inr (3, [.ref hb, .int (zI n), .int (zI P), .ref ht, .int (zI len)])), (hb, .inl (cB, 1200, .inl (zA r))), (ht, .inl (cT, 420, .inl (zA tx)))] s.heap.size) s [(h, .inr (3, [.ref hb, .int (zI nn), .int (zI P), .ref ht, .int (zI len)])), (hb, .inl (cB, 1200, .inl (zA r1))), (ht, .inl (cT, 420, .inl (zA tx)))] H locs → lv_has ls 6 [(0, .ref h), (1, .int (zI nn)), (3, .int (zI P)), (4, .int (zI k))] → W p l e ({ frames := 1, cells := 0, slots := 0, locals := 22 } : Room) s m ([.ref h, .int (zI nn)] : List Value).toArray below meth c H locs 0 0 (MQ below (zQv D [(cB, .byte), (cT, .int)] [(h, .inr (3, [.ref hb, .int (zI n), .int (zI P), .ref ht, .int (zI len)])), (hb, .inl (cB, 1200, .inl (zA r))), (ht, .inl (cT, 420, .inl (zA tx)))] s.heap.size (fun (u : (Nat → Int) × Int × Int) => mRep u.1 u.2.1 u.2.2 (rX X (1200 + P - nn).toNat) ∧ u.2.1 ≤ n ∧ (u.2.2 ≤ P + 1 ∨ u.2.2 = 0)) (fun (u : (Nat → Int) × Int × Int) => [(h, .inr (3, [.ref hb, .int (zI u.2.1), .int (zI u.2.2), .ref ht, .int (zI len)])), (hb, .inl (cB, 1200, .inl (zA u.1))), (ht, .inl (cT, 420, .inl (zA tx)))])) ([.ref h, .int (zI nn)] : List Value).toArray s 0 0 (va_A [(h, .inr (3, [.ref hb, .int (zI n), .int (zI P), .ref ht, .int (zI len)])), (hb, .inl (cB, 1200, .inl (zA r))), (ht, .inl (cT, 420, .inl (zA tx)))] s.heap.size)) (F0 m 113 ls []) := by
    intro nf_
    induction nf_ with
    | zero => intro r1 k hmeas_; exact absurd hmeas_ (Nat.not_lt_zero _)
    | succ nf_ ih =>
      intro r1 k hmeas_ hk hnc hu e1 e2 H locs ls w hl
      obtain ⟨⟨d1, d2, d3, d4⟩, d5, d6⟩ := id hp
      refine lv_iload S.1 S.2.1 dX3_cut_113 (lv_at hl 3 rfl) ?_
      refine z_if_lt (tgt := 147) S dX3_cut_115 (by decide) (by omega) (fun h115 => ?_) (fun h115 => ?_)
      · skip
        refine lv_iload S.1 S.2.1 dX3_cut_147 (lv_at hl 3 rfl) ?_
        refine z_if_lt (tgt := 172) S dX3_cut_149 (by decide) (by omega) (fun h149 => ?_) (fun h149 => ?_)
        · skip
          refine lv_iload_n S.1 S.2.1 dX3_cut_172 rfl (lv_at hl 1 rfl) ?_
          refine lv_istore (lv' := [(5, .int (zI nn)), (0, .ref h), (1, .int (zI nn)), (3, .int (zI P)), (4, .int (zI k))]) S.1 S.2.1 dX3_cut_173 hl (by decide) rfl (fun ls hl => ?_)
          exact lab175 _ r1 nn (Nat.lt_succ_self _) (by omega) (by omega) hu (fun j q => (e1 j (by omega) q).1) (fun j q => (e1 j (by omega) (by omega)).2) (fun j q1 q2 => by omega) _ _ _ w (lv_sub hl [1, 2, 3, 0] rfl)
        · skip
          refine lv_aload_n S.1 S.2.1 dX3_cut_152 rfl (lv_at hl 0 rfl) ?_
          refine z_get (ci := 3) (C := RX3) (T := TX3) (N := 5) S w 0 rfl rfl in_X3_cut_X3 0 (by decide) ln_X3_cut_7 rfl rfl dX3_cut_153 ?_
          refine lv_iload S.1 S.2.1 dX3_cut_156 (lv_at hl 3 rfl) ?_
          refine lv_aload_n S.1 S.2.1 dX3_cut_158 rfl (lv_at hl 0 rfl) ?_
          refine z_get (ci := 3) (C := RX3) (T := TX3) (N := 5) S w 0 rfl rfl in_X3_cut_X3 0 (by decide) ln_X3_cut_7 rfl rfl dX3_cut_159 ?_
          refine lv_iload S.1 S.2.1 dX3_cut_162 (lv_at hl 3 rfl) ?_
          refine z_bald S w 1 0 rfl rfl (by omega) (by decide) dX3_cut_164 ?_
          refine z_iconst S dX3_cut_165 ?_
          refine z_iadd S dX3_cut_166 ?_
          refine z_i2b S dX3_cut_167 (by rw [e2 _ (by omega)]; have := d1 k.toNat (by omega); omega) ?_
          refine z_bast S w 1 0 rfl rfl (by omega) (by decide) (by rw [e2 _ (by omega)]; have := d1 k.toNat (by omega); omega) dX3_cut_168 (fun H locs w => ?_)
          have w : zW D _ _ s [(h, .inr (3, [.ref hb, .int (zI nn), .int (zI P), .ref ht, .int (zI len)])), (hb, .inl (cB, 1200, .inl (zA (zu r1 k.toNat ((r1 k.toNat) + 1))))), (ht, .inl (cT, 420, .inl (zA tx)))] H locs := w
          refine lv_goto (tgt := 223) S.1 S.2.1 dX3_cut_169 (by decide) ?_
          refine lv_aload_n S.1 S.2.1 dX3_cut_223 rfl (lv_at hl 0 rfl) ?_
          have k4_ : mPre (zu r1 k.toNat ((r1 k.toNat) + 1)) nn P (rX X (1200 + P - nn).toNat) := by
            first
              | (exfalso; omega)
              | exact cut_pre2 hp hnc hu h9 (zu_s _ _ _) (fun j q1 q2 => by rw [zu_n _ _ (by omega)]; exact e2 j (by omega) q2)
              | exact cut_pre1 hp hnc hu (k := k) (by omega) (fun j q => by rw [zu_n _ _ (by omega)]; exact e2 j (by omega)) (by rw [zu_s, e2 _ (by omega)]) (by rw [← e2 _ (by omega)]; exact h127) (fun j q1 q2 => by rw [zu_n _ _ (by omega)]; exact e1 j q1 q2)
              | exact cut_pre0 hp hnc (by rcases hup with q | q
                                          · omega
                                          · exact q.2)
          refine z_callvV (C := RX3) (n := 0) (As := []) (rest := []) (wr := []) (wn := (fun (u : (Nat → Int) × Int × Int) => [(h, .inr (3, [.ref hb, .int (zI u.2.1), .int (zI u.2.2), .ref ht, .int (zI len)])), (hb, .inl (cB, 1200, .inl (zA u.1))), (ht, .inl (cT, 420, .inl (zA tx)))])) S w (c_X3_trim l D cB cT h hb ht (zu r1 k.toNat ((r1 k.toNat) + 1)) nn P tx len (rX X (1200 + P - nn).toNat) k4_ (by omega) (by omega)) gX3_cut_X3_trim (by decide +kernel) rfl ⟨rfl, rfl⟩ ⟨Nat.le_of_ble_eq_true rfl, Nat.le_of_ble_eq_true rfl⟩ [0, 1] [0, 1, 2] [] [0, 1, 2] rfl rfl rfl rfl rfl (by decide) (fun u => rfl) rfl rfl rfl rfl rfl hl.1 (Nat.le_of_ble_eq_true rfl) ⟨Nat.le_of_ble_eq_true rfl, Nat.le_of_ble_eq_true rfl⟩ rfl dX3_cut_224 (fun u H locs p224 w => ?_)
          obtain ⟨r224, n224, P224⟩ := u
          have p224 : mRep r224 n224 P224 (rX X (1200 + P - nn).toNat) ∧ n224 ≤ nn ∧ (n224 - P224 ≤ nn - P ∨ n224 - P224 = 0) ∧ (P224 ≤ P ∨ P224 = 0) := p224
          have w : zW D _ _ s [(h, .inr (3, [.ref hb, .int (zI n224), .int (zI P224), .ref ht, .int (zI len)])), (hb, .inl (cB, 1200, .inl (zA r224))), (ht, .inl (cT, 420, .inl (zA tx)))] H locs := w
          have k5_ : mRep r224 n224 P224 (rX X (1200 + P - nn).toNat) ∧ n224 ≤ n ∧ (P224 ≤ P + 1 ∨ P224 = 0) := by
            obtain ⟨a1, a2, a3, a4⟩ := p224; exact ⟨a1, by omega, by omega⟩
          exact z_vret S hr hlk w (r224, n224, P224) k5_ rfl dX3_cut_227
      · skip
        refine lv_aload_n S.1 S.2.1 dX3_cut_118 rfl (lv_at hl 0 rfl) ?_
        refine z_get (ci := 3) (C := RX3) (T := TX3) (N := 5) S w 0 rfl rfl in_X3_cut_X3 0 (by decide) ln_X3_cut_7 rfl rfl dX3_cut_119 ?_
        refine lv_iload S.1 S.2.1 dX3_cut_122 (lv_at hl 3 rfl) ?_
        refine z_bald S w 1 0 rfl rfl (by omega) (by decide) dX3_cut_124 ?_
        refine z_bipush S dX3_cut_125 (by decide +kernel) ?_
        refine z_icmp_ne (tgt := 147) S dX3_cut_127 (by decide) (by rw [e2 _ (by omega)]; have := d1 k.toNat (by omega); omega) (by omega) (fun h127 => ?_) (fun h127 => ?_)
        · skip
          refine lv_iload S.1 S.2.1 dX3_cut_147 (lv_at hl 3 rfl) ?_
          refine z_if_lt (tgt := 172) S dX3_cut_149 (by decide) (by omega) (fun h149 => ?_) (fun h149 => ?_)
          · skip
            refine lv_iload_n S.1 S.2.1 dX3_cut_172 rfl (lv_at hl 1 rfl) ?_
            refine lv_istore (lv' := [(5, .int (zI nn)), (0, .ref h), (1, .int (zI nn)), (3, .int (zI P)), (4, .int (zI k))]) S.1 S.2.1 dX3_cut_173 hl (by decide) rfl (fun ls hl => ?_)
            exact lab175 _ r1 nn (Nat.lt_succ_self _) (by omega) (by omega) hu (fun j q => (e1 j (by omega) q).1) (fun j q => (e1 j (by omega) (by omega)).2) (fun j q1 q2 => by omega) _ _ _ w (lv_sub hl [1, 2, 3, 0] rfl)
          · skip
            refine lv_aload_n S.1 S.2.1 dX3_cut_152 rfl (lv_at hl 0 rfl) ?_
            refine z_get (ci := 3) (C := RX3) (T := TX3) (N := 5) S w 0 rfl rfl in_X3_cut_X3 0 (by decide) ln_X3_cut_7 rfl rfl dX3_cut_153 ?_
            refine lv_iload S.1 S.2.1 dX3_cut_156 (lv_at hl 3 rfl) ?_
            refine lv_aload_n S.1 S.2.1 dX3_cut_158 rfl (lv_at hl 0 rfl) ?_
            refine z_get (ci := 3) (C := RX3) (T := TX3) (N := 5) S w 0 rfl rfl in_X3_cut_X3 0 (by decide) ln_X3_cut_7 rfl rfl dX3_cut_159 ?_
            refine lv_iload S.1 S.2.1 dX3_cut_162 (lv_at hl 3 rfl) ?_
            refine z_bald S w 1 0 rfl rfl (by omega) (by decide) dX3_cut_164 ?_
            refine z_iconst S dX3_cut_165 ?_
            refine z_iadd S dX3_cut_166 ?_
            refine z_i2b S dX3_cut_167 (by rw [e2 _ (by omega)]; have := d1 k.toNat (by omega); omega) ?_
            refine z_bast S w 1 0 rfl rfl (by omega) (by decide) (by rw [e2 _ (by omega)]; have := d1 k.toNat (by omega); omega) dX3_cut_168 (fun H locs w => ?_)
            have w : zW D _ _ s [(h, .inr (3, [.ref hb, .int (zI nn), .int (zI P), .ref ht, .int (zI len)])), (hb, .inl (cB, 1200, .inl (zA (zu r1 k.toNat ((r1 k.toNat) + 1))))), (ht, .inl (cT, 420, .inl (zA tx)))] H locs := w
            refine lv_goto (tgt := 223) S.1 S.2.1 dX3_cut_169 (by decide) ?_
            refine lv_aload_n S.1 S.2.1 dX3_cut_223 rfl (lv_at hl 0 rfl) ?_
            have k6_ : mPre (zu r1 k.toNat ((r1 k.toNat) + 1)) nn P (rX X (1200 + P - nn).toNat) := by
              first
                | (exfalso; omega)
                | exact cut_pre2 hp hnc hu h9 (zu_s _ _ _) (fun j q1 q2 => by rw [zu_n _ _ (by omega)]; exact e2 j (by omega) q2)
                | exact cut_pre1 hp hnc hu (k := k) (by omega) (fun j q => by rw [zu_n _ _ (by omega)]; exact e2 j (by omega)) (by rw [zu_s, e2 _ (by omega)]) (by rw [← e2 _ (by omega)]; exact h127) (fun j q1 q2 => by rw [zu_n _ _ (by omega)]; exact e1 j q1 q2)
                | exact cut_pre0 hp hnc (by rcases hup with q | q
                                            · omega
                                            · exact q.2)
            refine z_callvV (C := RX3) (n := 0) (As := []) (rest := []) (wr := []) (wn := (fun (u : (Nat → Int) × Int × Int) => [(h, .inr (3, [.ref hb, .int (zI u.2.1), .int (zI u.2.2), .ref ht, .int (zI len)])), (hb, .inl (cB, 1200, .inl (zA u.1))), (ht, .inl (cT, 420, .inl (zA tx)))])) S w (c_X3_trim l D cB cT h hb ht (zu r1 k.toNat ((r1 k.toNat) + 1)) nn P tx len (rX X (1200 + P - nn).toNat) k6_ (by omega) (by omega)) gX3_cut_X3_trim (by decide +kernel) rfl ⟨rfl, rfl⟩ ⟨Nat.le_of_ble_eq_true rfl, Nat.le_of_ble_eq_true rfl⟩ [0, 1] [0, 1, 2] [] [0, 1, 2] rfl rfl rfl rfl rfl (by decide) (fun u => rfl) rfl rfl rfl rfl rfl hl.1 (Nat.le_of_ble_eq_true rfl) ⟨Nat.le_of_ble_eq_true rfl, Nat.le_of_ble_eq_true rfl⟩ rfl dX3_cut_224 (fun u H locs p224 w => ?_)
            obtain ⟨r224, n224, P224⟩ := u
            have p224 : mRep r224 n224 P224 (rX X (1200 + P - nn).toNat) ∧ n224 ≤ nn ∧ (n224 - P224 ≤ nn - P ∨ n224 - P224 = 0) ∧ (P224 ≤ P ∨ P224 = 0) := p224
            have w : zW D _ _ s [(h, .inr (3, [.ref hb, .int (zI n224), .int (zI P224), .ref ht, .int (zI len)])), (hb, .inl (cB, 1200, .inl (zA r224))), (ht, .inl (cT, 420, .inl (zA tx)))] H locs := w
            have k7_ : mRep r224 n224 P224 (rX X (1200 + P - nn).toNat) ∧ n224 ≤ n ∧ (P224 ≤ P + 1 ∨ P224 = 0) := by
              obtain ⟨a1, a2, a3, a4⟩ := p224; exact ⟨a1, by omega, by omega⟩
            exact z_vret S hr hlk w (r224, n224, P224) k7_ rfl dX3_cut_227
        · skip
          refine lv_aload_n S.1 S.2.1 dX3_cut_130 rfl (lv_at hl 0 rfl) ?_
          refine z_get (ci := 3) (C := RX3) (T := TX3) (N := 5) S w 0 rfl rfl in_X3_cut_X3 0 (by decide) ln_X3_cut_7 rfl rfl dX3_cut_131 ?_
          refine lv_iload S.1 S.2.1 dX3_cut_134 (lv_at hl 3 rfl) ?_
          refine z_iconst S dX3_cut_136 ?_
          refine z_bast S w 1 0 rfl rfl (by omega) (by decide) (by omega) dX3_cut_137 (fun H locs w => ?_)
          have w : zW D _ _ s [(h, .inr (3, [.ref hb, .int (zI nn), .int (zI P), .ref ht, .int (zI len)])), (hb, .inl (cB, 1200, .inl (zA (zu r1 k.toNat 0)))), (ht, .inl (cT, 420, .inl (zA tx)))] H locs := w
          refine lv_iload S.1 S.2.1 dX3_cut_138 (lv_at hl 3 rfl) ?_
          refine z_iconst S dX3_cut_140 ?_
          refine z_isub S dX3_cut_141 ?_
          refine lv_istore (lv' := [(4, .int (zI (k - 1))), (0, .ref h), (1, .int (zI nn)), (3, .int (zI P))]) S.1 S.2.1 dX3_cut_142 hl (by decide) rfl (fun ls hl => ?_)
          refine lv_goto (tgt := 113) S.1 S.2.1 dX3_cut_144 (by decide) ?_
          have k8_ : ∀ j : Nat, (k - 1) < (j : Int) → (j : Int) < nn → r j = 9 ∧ (zu r1 k.toNat 0) j = 0 := by
            intro j q1 q2
            by_cases q3 : (j : Int) = k
            · have q4 : k.toNat = j := by omega
              have q5 := e2 j (by omega)
              rw [q4] at h127
              rw [q4, zu_s, ← q5]; exact ⟨h127, rfl⟩
            · rw [zu_n _ _ (by omega)]; exact e1 j (by omega) q2
          exact ih (zu r1 k.toNat 0) (k - 1) (by omega) (by omega) (by omega) hu k8_ (fun j q => by rw [zu_n _ _ (by omega)]; exact e2 j (by omega)) _ _ _ w (lv_sub hl [1, 2, 3, 0] rfl)
  have lab94 : ∀ (up : Int), (0 ≤ nn ∧ nn < n) → ((up = 1 ∧ (5 < r nn.toNat ∨ (r nn.toNat = 5 ∧ ((0 < nn ∧ r (nn - 1).toNat % 2 = 1) ∨ nn + 1 < n)))) ∨ (up = 0 ∧ ¬ (5 < r nn.toNat ∨ (r nn.toNat = 5 ∧ ((0 < nn ∧ r (nn - 1).toNat % 2 = 1) ∨ nn + 1 < n))))) → ∀ (H : Heap) (locs : List Loc) (ls : Array Slot), zW D [(cB, .byte), (cT, .int)] (va_A [(h, .inr (3, [.ref hb, .int (zI n), .int (zI P), .ref ht, .int (zI len)])), (hb, .inl (cB, 1200, .inl (zA r))), (ht, .inl (cT, 420, .inl (zA tx)))] s.heap.size) s [(h, .inr (3, [.ref hb, .int (zI n), .int (zI P), .ref ht, .int (zI len)])), (hb, .inl (cB, 1200, .inl (zA r))), (ht, .inl (cT, 420, .inl (zA tx)))] H locs → lv_has ls 6 [(0, .ref h), (1, .int (zI nn)), (2, .int (zI up))] → W p l e ({ frames := 1, cells := 0, slots := 0, locals := 22 } : Room) s m ([.ref h, .int (zI nn)] : List Value).toArray below meth c H locs 0 0 (MQ below (zQv D [(cB, .byte), (cT, .int)] [(h, .inr (3, [.ref hb, .int (zI n), .int (zI P), .ref ht, .int (zI len)])), (hb, .inl (cB, 1200, .inl (zA r))), (ht, .inl (cT, 420, .inl (zA tx)))] s.heap.size (fun (u : (Nat → Int) × Int × Int) => mRep u.1 u.2.1 u.2.2 (rX X (1200 + P - nn).toNat) ∧ u.2.1 ≤ n ∧ (u.2.2 ≤ P + 1 ∨ u.2.2 = 0)) (fun (u : (Nat → Int) × Int × Int) => [(h, .inr (3, [.ref hb, .int (zI u.2.1), .int (zI u.2.2), .ref ht, .int (zI len)])), (hb, .inl (cB, 1200, .inl (zA u.1))), (ht, .inl (cT, 420, .inl (zA tx)))])) ([.ref h, .int (zI nn)] : List Value).toArray s 0 0 (va_A [(h, .inr (3, [.ref hb, .int (zI n), .int (zI P), .ref ht, .int (zI len)])), (hb, .inl (cB, 1200, .inl (zA r))), (ht, .inl (cT, 420, .inl (zA tx)))] s.heap.size)) (F0 m 94 ls []) := by
    intro up hnc hup H locs ls w hl
    obtain ⟨⟨d1, d2, d3, d4⟩, d5, d6⟩ := id hp
    refine lv_aload_n S.1 S.2.1 dX3_cut_94 rfl (lv_at hl 0 rfl) ?_
    refine z_get (ci := 3) (C := RX3) (T := TX3) (N := 5) S w 0 rfl rfl in_X3_cut_X3 2 (by decide) ln_X3_cut_31 rfl rfl dX3_cut_95 ?_
    refine lv_istore_n (lv' := [(3, .int (zI P)), (0, .ref h), (1, .int (zI nn)), (2, .int (zI up))]) S.1 S.2.1 dX3_cut_98 rfl hl (by decide) rfl (fun ls hl => ?_)
    refine lv_aload_n S.1 S.2.1 dX3_cut_99 rfl (lv_at hl 1 rfl) ?_
    refine lv_iload_n S.1 S.2.1 dX3_cut_100 rfl (lv_at hl 2 rfl) ?_
    refine z_put (ci := 3) (C := RX3) (T := TX3) (N := 5) S w 0 rfl rfl in_X3_cut_X3 tyX3_ok nmX3 1 (by decide) ln_X3_cut_23 rfl rfl rfl rfl (Nat.le_of_ble_eq_true rfl) dX3_cut_101 (fun H locs w => ?_)
    have w : zW D _ _ s [(h, .inr (3, [.ref hb, .int (zI nn), .int (zI P), .ref ht, .int (zI len)])), (hb, .inl (cB, 1200, .inl (zA r))), (ht, .inl (cT, 420, .inl (zA tx)))] H locs := w
    refine lv_iload_n S.1 S.2.1 dX3_cut_104 rfl (lv_at hl 3 rfl) ?_
    refine z_if_eq (tgt := 223) S dX3_cut_105 (by decide) (by omega) (fun h105 => ?_) (fun h105 => ?_)
    · skip
      refine lv_aload_n S.1 S.2.1 dX3_cut_223 rfl (lv_at hl 1 rfl) ?_
      have k9_ : mPre r nn P (rX X (1200 + P - nn).toNat) := by
        first
          | (exfalso; omega)
          | exact cut_pre2 hp hnc hu h9 (zu_s _ _ _) (fun j q1 q2 => by rw [zu_n _ _ (by omega)]; exact e2 j (by omega) q2)
          | exact cut_pre1 hp hnc hu (k := k) (by omega) (fun j q => by rw [zu_n _ _ (by omega)]; exact e2 j (by omega)) (by rw [zu_s, e2 _ (by omega)]) (by rw [← e2 _ (by omega)]; exact h127) (fun j q1 q2 => by rw [zu_n _ _ (by omega)]; exact e1 j q1 q2)
          | exact cut_pre0 hp hnc (by rcases hup with q | q
                                      · omega
                                      · exact q.2)
      refine z_callvV (C := RX3) (n := 0) (As := []) (rest := []) (wr := []) (wn := (fun (u : (Nat → Int) × Int × Int) => [(h, .inr (3, [.ref hb, .int (zI u.2.1), .int (zI u.2.2), .ref ht, .int (zI len)])), (hb, .inl (cB, 1200, .inl (zA u.1))), (ht, .inl (cT, 420, .inl (zA tx)))])) S w (c_X3_trim l D cB cT h hb ht r nn P tx len (rX X (1200 + P - nn).toNat) k9_ (by omega) (by omega)) gX3_cut_X3_trim (by decide +kernel) rfl ⟨rfl, rfl⟩ ⟨Nat.le_of_ble_eq_true rfl, Nat.le_of_ble_eq_true rfl⟩ [0, 1] [0, 1, 2] [] [0, 1, 2] rfl rfl rfl rfl rfl (by decide) (fun u => rfl) rfl rfl rfl rfl rfl hl.1 (Nat.le_of_ble_eq_true rfl) ⟨Nat.le_of_ble_eq_true rfl, Nat.le_of_ble_eq_true rfl⟩ rfl dX3_cut_224 (fun u H locs p224 w => ?_)
      obtain ⟨r224, n224, P224⟩ := u
      have p224 : mRep r224 n224 P224 (rX X (1200 + P - nn).toNat) ∧ n224 ≤ nn ∧ (n224 - P224 ≤ nn - P ∨ n224 - P224 = 0) ∧ (P224 ≤ P ∨ P224 = 0) := p224
      have w : zW D _ _ s [(h, .inr (3, [.ref hb, .int (zI n224), .int (zI P224), .ref ht, .int (zI len)])), (hb, .inl (cB, 1200, .inl (zA r224))), (ht, .inl (cT, 420, .inl (zA tx)))] H locs := w
      have k10_ : mRep r224 n224 P224 (rX X (1200 + P - nn).toNat) ∧ n224 ≤ n ∧ (P224 ≤ P + 1 ∨ P224 = 0) := by
        obtain ⟨a1, a2, a3, a4⟩ := p224; exact ⟨a1, by omega, by omega⟩
      exact z_vret S hr hlk w (r224, n224, P224) k10_ rfl dX3_cut_227
    · skip
      refine lv_iload_n S.1 S.2.1 dX3_cut_108 rfl (lv_at hl 2 rfl) ?_
      refine z_iconst S dX3_cut_109 ?_
      refine z_isub S dX3_cut_110 ?_
      refine lv_istore (lv' := [(4, .int (zI (nn - 1))), (3, .int (zI P)), (0, .ref h), (1, .int (zI nn)), (2, .int (zI up))]) S.1 S.2.1 dX3_cut_111 hl (by decide) rfl (fun ls hl => ?_)
      have k11_ : (5 < r nn.toNat ∨ (r nn.toNat = 5 ∧ ((0 < nn ∧ r (nn - 1).toNat % 2 = 1) ∨ nn + 1 < n))) := by
        rcases hup with q | q
        · exact q.2
        · omega
      exact lab113 _ r (nn - 1) (Nat.lt_succ_self _) (by omega) (by omega) k11_ (fun j q1 q2 => by omega) (fun j q => rfl) _ _ _ w (lv_sub hl [2, 3, 1, 0] rfl)
  have hl : lv_has ls 6 [(0, .ref h), (1, .int (zI nn))] := hl
  obtain ⟨⟨d1, d2, d3, d4⟩, d5, d6⟩ := id hp
  refine lv_iload_n S.1 S.2.1 dX3_cut_0 rfl (lv_at hl 1 rfl) ?_
  refine lv_aload_n S.1 S.2.1 dX3_cut_1 rfl (lv_at hl 0 rfl) ?_
  refine z_get (ci := 3) (C := RX3) (T := TX3) (N := 5) S w 0 rfl rfl in_X3_cut_X3 1 (by decide) ln_X3_cut_23 rfl rfl dX3_cut_2 ?_
  refine z_icmp_lt (tgt := 9) S dX3_cut_5 (by decide) (by omega) (by omega) (fun h5 => ?_) (fun h5 => ?_)
  · skip
    refine lv_iload_n S.1 S.2.1 dX3_cut_9 rfl (lv_at hl 1 rfl) ?_
    refine z_if_ge (tgt := 24) S dX3_cut_10 (by decide) (by omega) (fun h10 => ?_) (fun h10 => ?_)
    · skip
      refine lv_aload_n S.1 S.2.1 dX3_cut_24 rfl (lv_at hl 0 rfl) ?_
      refine z_get (ci := 3) (C := RX3) (T := TX3) (N := 5) S w 0 rfl rfl in_X3_cut_X3 0 (by decide) ln_X3_cut_7 rfl rfl dX3_cut_25 ?_
      refine lv_iload_n S.1 S.2.1 dX3_cut_28 rfl (lv_at hl 1 rfl) ?_
      refine z_bald S w 1 0 rfl rfl (by omega) (by decide) dX3_cut_29 ?_
      refine z_iconst S dX3_cut_30 ?_
      refine z_icmp_le (tgt := 38) S dX3_cut_31 (by decide) (by have := d1 nn.toNat (by omega); omega) (by omega) (fun h31 => ?_) (fun h31 => ?_)
      · skip
        refine z_iconst S dX3_cut_38 ?_
        refine lv_istore_n (lv' := [(2, .int (zI 0)), (0, .ref h), (1, .int (zI nn))]) S.1 S.2.1 dX3_cut_39 rfl hl (by decide) rfl (fun ls hl => ?_)
        refine lv_aload_n S.1 S.2.1 dX3_cut_40 rfl (lv_at hl 1 rfl) ?_
        refine z_get (ci := 3) (C := RX3) (T := TX3) (N := 5) S w 0 rfl rfl in_X3_cut_X3 0 (by decide) ln_X3_cut_7 rfl rfl dX3_cut_41 ?_
        refine lv_iload_n S.1 S.2.1 dX3_cut_44 rfl (lv_at hl 2 rfl) ?_
        refine z_bald S w 1 0 rfl rfl (by omega) (by decide) dX3_cut_45 ?_
        refine z_iconst S dX3_cut_46 ?_
        refine z_icmp_ne (tgt := 94) S dX3_cut_47 (by decide) (by have := d1 nn.toNat (by omega); omega) (by omega) (fun h47 => ?_) (fun h47 => ?_)
        · skip
          exact lab94 0 (by omega) (by omega) _ _ _ w (lv_sub hl [1, 2, 0] rfl)
        · skip
          refine lv_iload_n S.1 S.2.1 dX3_cut_50 rfl (lv_at hl 2 rfl) ?_
          refine z_if_le (tgt := 72) S dX3_cut_51 (by decide) (by omega) (fun h51 => ?_) (fun h51 => ?_)
          · skip
            refine z_iconst S dX3_cut_72 ?_
            refine lv_istore_n (lv' := [(3, .int (zI 0)), (2, .int (zI 0)), (0, .ref h), (1, .int (zI nn))]) S.1 S.2.1 dX3_cut_73 rfl hl (by decide) rfl (fun ls hl => ?_)
            refine lv_iload_n S.1 S.2.1 dX3_cut_74 rfl (lv_at hl 0 rfl) ?_
            refine z_if_ne (tgt := 88) S dX3_cut_75 (by decide) (by omega) (fun h75 => ?_) (fun h75 => ?_)
            · skip
              refine z_iconst S dX3_cut_88 ?_
              refine lv_goto (tgt := 93) S.1 S.2.1 dX3_cut_89 (by decide) ?_
              refine lv_istore_n (lv' := [(2, .int (zI 1)), (3, .int (zI 0)), (0, .ref h), (1, .int (zI nn))]) S.1 S.2.1 dX3_cut_93 rfl hl (by decide) rfl (fun ls hl => ?_)
              exact lab94 1 (by omega) (by omega) _ _ _ w (lv_sub hl [2, 3, 0] rfl)
            · skip
              refine lv_aload_n S.1 S.2.1 dX3_cut_78 rfl (lv_at hl 2 rfl) ?_
              refine z_get (ci := 3) (C := RX3) (T := TX3) (N := 5) S w 0 rfl rfl in_X3_cut_X3 1 (by decide) ln_X3_cut_23 rfl rfl dX3_cut_79 ?_
              refine lv_iload_n S.1 S.2.1 dX3_cut_82 rfl (lv_at hl 3 rfl) ?_
              refine z_iconst S dX3_cut_83 ?_
              refine z_iadd S dX3_cut_84 ?_
              refine z_icmp_le (tgt := 92) S dX3_cut_85 (by decide) (by omega) (by omega) (fun h85 => ?_) (fun h85 => ?_)
              · skip
                refine z_iconst S dX3_cut_92 ?_
                refine lv_istore_n (lv' := [(2, .int (zI 0)), (3, .int (zI 0)), (0, .ref h), (1, .int (zI nn))]) S.1 S.2.1 dX3_cut_93 rfl hl (by decide) rfl (fun ls hl => ?_)
                exact lab94 0 (by omega) (by omega) _ _ _ w (lv_sub hl [2, 3, 0] rfl)
              · skip
                refine z_iconst S dX3_cut_88 ?_
                refine lv_goto (tgt := 93) S.1 S.2.1 dX3_cut_89 (by decide) ?_
                refine lv_istore_n (lv' := [(2, .int (zI 1)), (3, .int (zI 0)), (0, .ref h), (1, .int (zI nn))]) S.1 S.2.1 dX3_cut_93 rfl hl (by decide) rfl (fun ls hl => ?_)
                exact lab94 1 (by omega) (by omega) _ _ _ w (lv_sub hl [2, 3, 0] rfl)
          · skip
            refine lv_aload_n S.1 S.2.1 dX3_cut_54 rfl (lv_at hl 1 rfl) ?_
            refine z_get (ci := 3) (C := RX3) (T := TX3) (N := 5) S w 0 rfl rfl in_X3_cut_X3 0 (by decide) ln_X3_cut_7 rfl rfl dX3_cut_55 ?_
            refine lv_iload_n S.1 S.2.1 dX3_cut_58 rfl (lv_at hl 2 rfl) ?_
            refine z_iconst S dX3_cut_59 ?_
            refine z_isub S dX3_cut_60 ?_
            refine z_bald S w 1 0 rfl rfl (by omega) (by decide) dX3_cut_61 ?_
            refine z_iconst S dX3_cut_62 ?_
            refine z_irem S dX3_cut_63 (by have := d1 (nn - 1).toNat (by omega); omega) (by omega) ?_
            refine z_iconst S dX3_cut_64 ?_
            refine z_icmp_ne (tgt := 72) S dX3_cut_65 (by decide) (by omega) (by omega) (fun h65 => ?_) (fun h65 => ?_)
            · skip
              refine z_iconst S dX3_cut_72 ?_
              refine lv_istore_n (lv' := [(3, .int (zI 0)), (2, .int (zI 0)), (0, .ref h), (1, .int (zI nn))]) S.1 S.2.1 dX3_cut_73 rfl hl (by decide) rfl (fun ls hl => ?_)
              refine lv_iload_n S.1 S.2.1 dX3_cut_74 rfl (lv_at hl 0 rfl) ?_
              refine z_if_ne (tgt := 88) S dX3_cut_75 (by decide) (by omega) (fun h75 => ?_) (fun h75 => ?_)
              · skip
                refine z_iconst S dX3_cut_88 ?_
                refine lv_goto (tgt := 93) S.1 S.2.1 dX3_cut_89 (by decide) ?_
                refine lv_istore_n (lv' := [(2, .int (zI 1)), (3, .int (zI 0)), (0, .ref h), (1, .int (zI nn))]) S.1 S.2.1 dX3_cut_93 rfl hl (by decide) rfl (fun ls hl => ?_)
                exact lab94 1 (by omega) (by omega) _ _ _ w (lv_sub hl [2, 3, 0] rfl)
              · skip
                refine lv_aload_n S.1 S.2.1 dX3_cut_78 rfl (lv_at hl 2 rfl) ?_
                refine z_get (ci := 3) (C := RX3) (T := TX3) (N := 5) S w 0 rfl rfl in_X3_cut_X3 1 (by decide) ln_X3_cut_23 rfl rfl dX3_cut_79 ?_
                refine lv_iload_n S.1 S.2.1 dX3_cut_82 rfl (lv_at hl 3 rfl) ?_
                refine z_iconst S dX3_cut_83 ?_
                refine z_iadd S dX3_cut_84 ?_
                refine z_icmp_le (tgt := 92) S dX3_cut_85 (by decide) (by omega) (by omega) (fun h85 => ?_) (fun h85 => ?_)
                · skip
                  refine z_iconst S dX3_cut_92 ?_
                  refine lv_istore_n (lv' := [(2, .int (zI 0)), (3, .int (zI 0)), (0, .ref h), (1, .int (zI nn))]) S.1 S.2.1 dX3_cut_93 rfl hl (by decide) rfl (fun ls hl => ?_)
                  exact lab94 0 (by omega) (by omega) _ _ _ w (lv_sub hl [2, 3, 0] rfl)
                · skip
                  refine z_iconst S dX3_cut_88 ?_
                  refine lv_goto (tgt := 93) S.1 S.2.1 dX3_cut_89 (by decide) ?_
                  refine lv_istore_n (lv' := [(2, .int (zI 1)), (3, .int (zI 0)), (0, .ref h), (1, .int (zI nn))]) S.1 S.2.1 dX3_cut_93 rfl hl (by decide) rfl (fun ls hl => ?_)
                  exact lab94 1 (by omega) (by omega) _ _ _ w (lv_sub hl [2, 3, 0] rfl)
            · skip
              refine z_iconst S dX3_cut_68 ?_
              refine lv_goto (tgt := 73) S.1 S.2.1 dX3_cut_69 (by decide) ?_
              refine lv_istore_n (lv' := [(3, .int (zI 1)), (2, .int (zI 0)), (0, .ref h), (1, .int (zI nn))]) S.1 S.2.1 dX3_cut_73 rfl hl (by decide) rfl (fun ls hl => ?_)
              refine lv_iload_n S.1 S.2.1 dX3_cut_74 rfl (lv_at hl 0 rfl) ?_
              refine z_if_ne (tgt := 88) S dX3_cut_75 (by decide) (by omega) (fun h75 => ?_) (fun h75 => ?_)
              · skip
                refine z_iconst S dX3_cut_88 ?_
                refine lv_goto (tgt := 93) S.1 S.2.1 dX3_cut_89 (by decide) ?_
                refine lv_istore_n (lv' := [(2, .int (zI 1)), (3, .int (zI 1)), (0, .ref h), (1, .int (zI nn))]) S.1 S.2.1 dX3_cut_93 rfl hl (by decide) rfl (fun ls hl => ?_)
                exact lab94 1 (by omega) (by omega) _ _ _ w (lv_sub hl [2, 3, 0] rfl)
              · skip
                refine lv_aload_n S.1 S.2.1 dX3_cut_78 rfl (lv_at hl 2 rfl) ?_
                refine z_get (ci := 3) (C := RX3) (T := TX3) (N := 5) S w 0 rfl rfl in_X3_cut_X3 1 (by decide) ln_X3_cut_23 rfl rfl dX3_cut_79 ?_
                refine lv_iload_n S.1 S.2.1 dX3_cut_82 rfl (lv_at hl 3 rfl) ?_
                refine z_iconst S dX3_cut_83 ?_
                refine z_iadd S dX3_cut_84 ?_
                refine z_icmp_le (tgt := 92) S dX3_cut_85 (by decide) (by omega) (by omega) (fun h85 => ?_) (fun h85 => ?_)
                · skip
                  refine z_iconst S dX3_cut_92 ?_
                  refine lv_istore_n (lv' := [(2, .int (zI 0)), (3, .int (zI 1)), (0, .ref h), (1, .int (zI nn))]) S.1 S.2.1 dX3_cut_93 rfl hl (by decide) rfl (fun ls hl => ?_)
                  exact lab94 0 (by omega) (by omega) _ _ _ w (lv_sub hl [2, 3, 0] rfl)
                · skip
                  refine z_iconst S dX3_cut_88 ?_
                  refine lv_goto (tgt := 93) S.1 S.2.1 dX3_cut_89 (by decide) ?_
                  refine lv_istore_n (lv' := [(2, .int (zI 1)), (3, .int (zI 1)), (0, .ref h), (1, .int (zI nn))]) S.1 S.2.1 dX3_cut_93 rfl hl (by decide) rfl (fun ls hl => ?_)
                  exact lab94 1 (by omega) (by omega) _ _ _ w (lv_sub hl [2, 3, 0] rfl)
      · skip
        refine z_iconst S dX3_cut_34 ?_
        refine lv_goto (tgt := 39) S.1 S.2.1 dX3_cut_35 (by decide) ?_
        refine lv_istore_n (lv' := [(2, .int (zI 1)), (0, .ref h), (1, .int (zI nn))]) S.1 S.2.1 dX3_cut_39 rfl hl (by decide) rfl (fun ls hl => ?_)
        refine lv_aload_n S.1 S.2.1 dX3_cut_40 rfl (lv_at hl 1 rfl) ?_
        refine z_get (ci := 3) (C := RX3) (T := TX3) (N := 5) S w 0 rfl rfl in_X3_cut_X3 0 (by decide) ln_X3_cut_7 rfl rfl dX3_cut_41 ?_
        refine lv_iload_n S.1 S.2.1 dX3_cut_44 rfl (lv_at hl 2 rfl) ?_
        refine z_bald S w 1 0 rfl rfl (by omega) (by decide) dX3_cut_45 ?_
        refine z_iconst S dX3_cut_46 ?_
        refine z_icmp_ne (tgt := 94) S dX3_cut_47 (by decide) (by have := d1 nn.toNat (by omega); omega) (by omega) (fun h47 => ?_) (fun h47 => ?_)
        · skip
          exact lab94 1 (by omega) (by omega) _ _ _ w (lv_sub hl [1, 2, 0] rfl)
        · skip
          refine lv_iload_n S.1 S.2.1 dX3_cut_50 rfl (lv_at hl 2 rfl) ?_
          refine z_if_le (tgt := 72) S dX3_cut_51 (by decide) (by omega) (fun h51 => ?_) (fun h51 => ?_)
          · skip
            refine z_iconst S dX3_cut_72 ?_
            refine lv_istore_n (lv' := [(3, .int (zI 0)), (2, .int (zI 1)), (0, .ref h), (1, .int (zI nn))]) S.1 S.2.1 dX3_cut_73 rfl hl (by decide) rfl (fun ls hl => ?_)
            refine lv_iload_n S.1 S.2.1 dX3_cut_74 rfl (lv_at hl 0 rfl) ?_
            refine z_if_ne (tgt := 88) S dX3_cut_75 (by decide) (by omega) (fun h75 => ?_) (fun h75 => ?_)
            · skip
              refine z_iconst S dX3_cut_88 ?_
              refine lv_goto (tgt := 93) S.1 S.2.1 dX3_cut_89 (by decide) ?_
              refine lv_istore_n (lv' := [(2, .int (zI 1)), (3, .int (zI 0)), (0, .ref h), (1, .int (zI nn))]) S.1 S.2.1 dX3_cut_93 rfl hl (by decide) rfl (fun ls hl => ?_)
              exact lab94 1 (by omega) (by omega) _ _ _ w (lv_sub hl [2, 3, 0] rfl)
            · skip
              refine lv_aload_n S.1 S.2.1 dX3_cut_78 rfl (lv_at hl 2 rfl) ?_
              refine z_get (ci := 3) (C := RX3) (T := TX3) (N := 5) S w 0 rfl rfl in_X3_cut_X3 1 (by decide) ln_X3_cut_23 rfl rfl dX3_cut_79 ?_
              refine lv_iload_n S.1 S.2.1 dX3_cut_82 rfl (lv_at hl 3 rfl) ?_
              refine z_iconst S dX3_cut_83 ?_
              refine z_iadd S dX3_cut_84 ?_
              refine z_icmp_le (tgt := 92) S dX3_cut_85 (by decide) (by omega) (by omega) (fun h85 => ?_) (fun h85 => ?_)
              · skip
                refine z_iconst S dX3_cut_92 ?_
                refine lv_istore_n (lv' := [(2, .int (zI 0)), (3, .int (zI 0)), (0, .ref h), (1, .int (zI nn))]) S.1 S.2.1 dX3_cut_93 rfl hl (by decide) rfl (fun ls hl => ?_)
                exact lab94 0 (by omega) (by omega) _ _ _ w (lv_sub hl [2, 3, 0] rfl)
              · skip
                refine z_iconst S dX3_cut_88 ?_
                refine lv_goto (tgt := 93) S.1 S.2.1 dX3_cut_89 (by decide) ?_
                refine lv_istore_n (lv' := [(2, .int (zI 1)), (3, .int (zI 0)), (0, .ref h), (1, .int (zI nn))]) S.1 S.2.1 dX3_cut_93 rfl hl (by decide) rfl (fun ls hl => ?_)
                exact lab94 1 (by omega) (by omega) _ _ _ w (lv_sub hl [2, 3, 0] rfl)
          · skip
            refine lv_aload_n S.1 S.2.1 dX3_cut_54 rfl (lv_at hl 1 rfl) ?_
            refine z_get (ci := 3) (C := RX3) (T := TX3) (N := 5) S w 0 rfl rfl in_X3_cut_X3 0 (by decide) ln_X3_cut_7 rfl rfl dX3_cut_55 ?_
            refine lv_iload_n S.1 S.2.1 dX3_cut_58 rfl (lv_at hl 2 rfl) ?_
            refine z_iconst S dX3_cut_59 ?_
            refine z_isub S dX3_cut_60 ?_
            refine z_bald S w 1 0 rfl rfl (by omega) (by decide) dX3_cut_61 ?_
            refine z_iconst S dX3_cut_62 ?_
            refine z_irem S dX3_cut_63 (by have := d1 (nn - 1).toNat (by omega); omega) (by omega) ?_
            refine z_iconst S dX3_cut_64 ?_
            refine z_icmp_ne (tgt := 72) S dX3_cut_65 (by decide) (by omega) (by omega) (fun h65 => ?_) (fun h65 => ?_)
            · skip
              refine z_iconst S dX3_cut_72 ?_
              refine lv_istore_n (lv' := [(3, .int (zI 0)), (2, .int (zI 1)), (0, .ref h), (1, .int (zI nn))]) S.1 S.2.1 dX3_cut_73 rfl hl (by decide) rfl (fun ls hl => ?_)
              refine lv_iload_n S.1 S.2.1 dX3_cut_74 rfl (lv_at hl 0 rfl) ?_
              refine z_if_ne (tgt := 88) S dX3_cut_75 (by decide) (by omega) (fun h75 => ?_) (fun h75 => ?_)
              · skip
                refine z_iconst S dX3_cut_88 ?_
                refine lv_goto (tgt := 93) S.1 S.2.1 dX3_cut_89 (by decide) ?_
                refine lv_istore_n (lv' := [(2, .int (zI 1)), (3, .int (zI 0)), (0, .ref h), (1, .int (zI nn))]) S.1 S.2.1 dX3_cut_93 rfl hl (by decide) rfl (fun ls hl => ?_)
                exact lab94 1 (by omega) (by omega) _ _ _ w (lv_sub hl [2, 3, 0] rfl)
              · skip
                refine lv_aload_n S.1 S.2.1 dX3_cut_78 rfl (lv_at hl 2 rfl) ?_
                refine z_get (ci := 3) (C := RX3) (T := TX3) (N := 5) S w 0 rfl rfl in_X3_cut_X3 1 (by decide) ln_X3_cut_23 rfl rfl dX3_cut_79 ?_
                refine lv_iload_n S.1 S.2.1 dX3_cut_82 rfl (lv_at hl 3 rfl) ?_
                refine z_iconst S dX3_cut_83 ?_
                refine z_iadd S dX3_cut_84 ?_
                refine z_icmp_le (tgt := 92) S dX3_cut_85 (by decide) (by omega) (by omega) (fun h85 => ?_) (fun h85 => ?_)
                · skip
                  refine z_iconst S dX3_cut_92 ?_
                  refine lv_istore_n (lv' := [(2, .int (zI 0)), (3, .int (zI 0)), (0, .ref h), (1, .int (zI nn))]) S.1 S.2.1 dX3_cut_93 rfl hl (by decide) rfl (fun ls hl => ?_)
                  exact lab94 0 (by omega) (by omega) _ _ _ w (lv_sub hl [2, 3, 0] rfl)
                · skip
                  refine z_iconst S dX3_cut_88 ?_
                  refine lv_goto (tgt := 93) S.1 S.2.1 dX3_cut_89 (by decide) ?_
                  refine lv_istore_n (lv' := [(2, .int (zI 1)), (3, .int (zI 0)), (0, .ref h), (1, .int (zI nn))]) S.1 S.2.1 dX3_cut_93 rfl hl (by decide) rfl (fun ls hl => ?_)
                  exact lab94 1 (by omega) (by omega) _ _ _ w (lv_sub hl [2, 3, 0] rfl)
            · skip
              refine z_iconst S dX3_cut_68 ?_
              refine lv_goto (tgt := 73) S.1 S.2.1 dX3_cut_69 (by decide) ?_
              refine lv_istore_n (lv' := [(3, .int (zI 1)), (2, .int (zI 1)), (0, .ref h), (1, .int (zI nn))]) S.1 S.2.1 dX3_cut_73 rfl hl (by decide) rfl (fun ls hl => ?_)
              refine lv_iload_n S.1 S.2.1 dX3_cut_74 rfl (lv_at hl 0 rfl) ?_
              refine z_if_ne (tgt := 88) S dX3_cut_75 (by decide) (by omega) (fun h75 => ?_) (fun h75 => ?_)
              · skip
                refine z_iconst S dX3_cut_88 ?_
                refine lv_goto (tgt := 93) S.1 S.2.1 dX3_cut_89 (by decide) ?_
                refine lv_istore_n (lv' := [(2, .int (zI 1)), (3, .int (zI 1)), (0, .ref h), (1, .int (zI nn))]) S.1 S.2.1 dX3_cut_93 rfl hl (by decide) rfl (fun ls hl => ?_)
                exact lab94 1 (by omega) (by omega) _ _ _ w (lv_sub hl [2, 3, 0] rfl)
              · skip
                refine lv_aload_n S.1 S.2.1 dX3_cut_78 rfl (lv_at hl 2 rfl) ?_
                refine z_get (ci := 3) (C := RX3) (T := TX3) (N := 5) S w 0 rfl rfl in_X3_cut_X3 1 (by decide) ln_X3_cut_23 rfl rfl dX3_cut_79 ?_
                refine lv_iload_n S.1 S.2.1 dX3_cut_82 rfl (lv_at hl 3 rfl) ?_
                refine z_iconst S dX3_cut_83 ?_
                refine z_iadd S dX3_cut_84 ?_
                refine z_icmp_le (tgt := 92) S dX3_cut_85 (by decide) (by omega) (by omega) (fun h85 => ?_) (fun h85 => ?_)
                · skip
                  refine z_iconst S dX3_cut_92 ?_
                  refine lv_istore_n (lv' := [(2, .int (zI 0)), (3, .int (zI 1)), (0, .ref h), (1, .int (zI nn))]) S.1 S.2.1 dX3_cut_93 rfl hl (by decide) rfl (fun ls hl => ?_)
                  exact lab94 0 (by omega) (by omega) _ _ _ w (lv_sub hl [2, 3, 0] rfl)
                · skip
                  refine z_iconst S dX3_cut_88 ?_
                  refine lv_goto (tgt := 93) S.1 S.2.1 dX3_cut_89 (by decide) ?_
                  refine lv_istore_n (lv' := [(2, .int (zI 1)), (3, .int (zI 1)), (0, .ref h), (1, .int (zI nn))]) S.1 S.2.1 dX3_cut_93 rfl hl (by decide) rfl (fun ls hl => ?_)
                  exact lab94 1 (by omega) (by omega) _ _ _ w (lv_sub hl [2, 3, 0] rfl)
    · skip
      refine lv_aload_n S.1 S.2.1 dX3_cut_13 rfl (lv_at hl 0 rfl) ?_
      refine z_iconst S dX3_cut_14 ?_
      refine z_put (ci := 3) (C := RX3) (T := TX3) (N := 5) S w 0 rfl rfl in_X3_cut_X3 tyX3_ok nmX3 1 (by decide) ln_X3_cut_23 rfl rfl rfl rfl (Nat.le_of_ble_eq_true rfl) dX3_cut_15 (fun H locs w => ?_)
      have w : zW D _ _ s [(h, .inr (3, [.ref hb, .int (zI 0), .int (zI P), .ref ht, .int (zI len)])), (hb, .inl (cB, 1200, .inl (zA r))), (ht, .inl (cT, 420, .inl (zA tx)))] H locs := w
      refine lv_aload_n S.1 S.2.1 dX3_cut_18 rfl (lv_at hl 0 rfl) ?_
      refine z_iconst S dX3_cut_19 ?_
      refine z_put (ci := 3) (C := RX3) (T := TX3) (N := 5) S w 0 rfl rfl in_X3_cut_X3 tyX3_ok nmX3 2 (by decide) ln_X3_cut_31 rfl rfl rfl rfl (Nat.le_of_ble_eq_true rfl) dX3_cut_20 (fun H locs w => ?_)
      have w : zW D _ _ s [(h, .inr (3, [.ref hb, .int (zI 0), .int (zI 0), .ref ht, .int (zI len)])), (hb, .inl (cB, 1200, .inl (zA r))), (ht, .inl (cT, 420, .inl (zA tx)))] H locs := w
      have k12_ : mRep r (0 : Int) (0 : Int) (rX X (1200 + P - nn).toNat) ∧ (0 : Int) ≤ n ∧ ((0 : Int) ≤ P + 1 ∨ (0 : Int) = 0) := by
        rw [cut_neg hp (by omega)]
        refine ⟨⟨⟨fun j q => by omega, by omega, by omega, ?_⟩, fun _ => rfl, fun q => by omega⟩, by omega, by omega⟩
        show 0 = hv r 0 * _
        rw [hv, Nat.zero_mul]
      exact z_vret S hr hlk w (r, 0, 0) k12_ rfl dX3_cut_23
  · skip
    have k13_ : mRep r n P (rX X (1200 + P - nn).toNat) ∧ n ≤ n ∧ (P ≤ P + 1 ∨ P = 0) := by
      rw [cut_id hp (by omega) hc]; exact ⟨hp, by omega, by omega⟩
    exact z_vret S hr hlk w (r, n, P) k13_ rfl dX3_cut_8
