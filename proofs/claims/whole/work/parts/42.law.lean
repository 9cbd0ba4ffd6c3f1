theorem at_eq {C tx : Nat → Int} {len ln2 : Int} {T : List Int} (h1 : tRep C len T) (h2 : tRep tx ln2 T) (i : Int) : (if 0 ≤ i ∧ i < len then C i.toNat else -1) = (if 0 ≤ i ∧ i < ln2 then tx i.toNat else -1) := by
  have e1 := h1.1
  have e2 := h2.1
  by_cases q : 0 ≤ i ∧ i < len
  · rw [if_pos q, if_pos (by omega)]
    have k1 := h1.2 i.toNat (by omega)
    have k2 := h2.2 i.toNat (by omega)
    rw [k1] at k2
    exact Option.some.inj k2
  · rw [if_neg q, if_neg (by omega)]
set_option maxRecDepth 20000 in
theorem kl_L_law_13 : Cond.constantLong RL 13 (4294967295) ∈ wsL_law := by decide +kernel
set_option maxRecDepth 20000 in
theorem cl_L_law_7 : Cond.classLink RL 7 RX2 ∈ wsL_law := by decide +kernel
set_option maxRecDepth 20000 in
theorem nst_L_law_X2 : Cond.instantiable RX2 2 ∈ wsL_law := by decide +kernel
set_option maxRecDepth 20000 in
theorem ini_L_law_RX2 : Cond.initialized RX2 ∈ wsL_law := by decide +kernel
theorem in_L_law_X2 : ∀ w ∈ u_ws RX2 TX2 2, w ∈ wsL_law := by decide +kernel
set_option maxRecDepth 20000 in
theorem ml_L_law_9 : Cond.methodLink RL 9 yX2_init ∈ wsL_law := by decide +kernel
set_option maxRecDepth 20000 in
theorem im_L_law_X2_init : Cond.instanceMethod yX2_init ∈ wsL_law := by decide +kernel
set_option maxRecDepth 20000 in
theorem cl_L_law_10 : Cond.classLink RL 10 RX3 ∈ wsL_law := by decide +kernel
set_option maxRecDepth 20000 in
theorem nst_L_law_X3 : Cond.instantiable RX3 5 ∈ wsL_law := by decide +kernel
set_option maxRecDepth 20000 in
theorem ini_L_law_RX3 : Cond.initialized RX3 ∈ wsL_law := by decide +kernel
theorem in_L_law_X3 : ∀ w ∈ u_ws RX3 TX3 5, w ∈ wsL_law := by decide +kernel
set_option maxRecDepth 20000 in
theorem ml_L_law_12 : Cond.methodLink RL 12 yX3_init ∈ wsL_law := by decide +kernel
set_option maxRecDepth 20000 in
theorem im_L_law_X3_init : Cond.instanceMethod yX3_init ∈ wsL_law := by decide +kernel
set_option maxHeartbeats 4000000 in
set_option maxRecDepth 100000 in
/-- THE LAW, from its entry -/
theorem whole_start {p : Program} {e : Env} {s : State} {m : MethodId} {below : List Frame} {meth : Method} {c : Code} (l : Launch) {b Ln : Nat} {xs : Nat → Int32} (hL : Ln ≤ 3584) (C0 : lw_At p s m meth c b Ln xs) : W p l e room_1 s m #[Value.ref b] below meth c s.heap [] 0 0 (lw_Z below #[Value.ref b] s) (entryFrame m ([Value.ref b] : List Value).toArray 4) := by
  obtain ⟨hx, hb0, hr, hml, hown, hts, hX, hbl, hlocks, hgv⟩ := id C0
  have hbA : ¬ (fun q : Nat => s.heap.size ≤ q) b := Nat.not_le.mpr hbl
  have S : CallFix p m c cL_law 4 s #[Value.ref b] wsL_law RL := ⟨hx, hb0, hml, hown, fun w h => hts w (wsL_law_in w h)⟩
  obtain ⟨c0, iS0, hKn0⟩ := u_known (C := RX0) (T := TX0) (N := 2) (n := 2) hts inX0 (hts (.instantiable RX0 2) (by decide +kernel))
  obtain ⟨c1, iS1, hKn1⟩ := u_known (C := RX1) (T := TX1) (N := 5) (n := 5) hts inX1 (hts (.instantiable RX1 5) (by decide +kernel))
  obtain ⟨c2, iS2, hKn2⟩ := u_known (C := RX2) (T := TX2) (N := 2) (n := 2) hts inX2 (hts (.instantiable RX2 2) (by decide +kernel))
  obtain ⟨c3, iS3, hKn3⟩ := u_known (C := RX3) (T := TX3) (N := 5) (n := 5) hts inX3 (hts (.instantiable RX3 5) (by decide +kernel))
  obtain ⟨D, hKc⟩ : ∃ (D : va_G), ∀ (k : Nat) (q : vw_C), vwCl[k]? = some q → u_Kn s q.1 q.2.1 q.2.2 (D.1 k) (D.2 k) := by
    refine ⟨(fun k => if k = 0 then c0 else if k = 1 then c1 else if k = 2 then c2 else c3, fun k => if k = 0 then iS0 else if k = 1 then iS1 else if k = 2 then iS2 else iS3), ?_⟩
    intro k q hq
    match k, hq with
    | 0, hq => cases hq; exact hKn0
    | 1, hq => cases hq; exact hKn1
    | 2, hq => cases hq; exact hKn2
    | 3, hq => cases hq; exact hKn3
    | k + 4, hq => simp [vwCl] at hq
  have hNn : zN s := va_Nw.of rfl (hts (.methodLinkNest RX1 28 yX2_exponentField "DecimalText") (by decide +kernel))
  have w : zW D [] (fun q : Nat => s.heap.size ≤ q) s [] s.heap [] := ⟨⟨hKc, fun k q h => by simp at h⟩, fun k q h => by simp at h, ⟨fun i j p q h => by simp at h, fun k q h => by simp at h⟩, va_S.rf, fun _ h => h, hNn⟩
  have hl := lv_entry ([.ref b]) (n := 4) (Nat.le_of_ble_eq_true rfl)
  rw [lg_entry_eq]
  generalize (lg_sl ([.ref b]) ++ List.replicate (4 - (lg_sl ([.ref b])).length) Slot.unset).toArray = ls at hl ⊢
  have hl : lv_has ls 4 [(0, .ref b)] := hl
  have lab18 : ∀ (nf_ : Nat) (h : Nat) (hw : Nat) (ha : Nat) (hr1 : Nat) (hn : Nat) (hc : Nat) (h3 : Nat) (hb : Nat) (ht : Nat) (cL : ClassId) (cR : ClassId) (cC : ClassId) (cB : ClassId) (cT : ClassId) (L : Nat → Int) (lc : Int) (Rw : Nat → Int) (cnt : Int) (dec : Int) (C : Nat → Int) (len : Int) (r : Nat → Int) (n : Int) (P : Int) (tx : Nat → Int) (ln2 : Int) (T : List Int) (i : Int), ((Ln : Int) - i).toNat < nf_ → (0 ≤ i ∧ i ≤ 4000) → (tRep C len T) → (tRep tx ln2 T) → (len ≤ 400) → ∀ (H : Heap) (locs : List Loc) (ls : Array Slot), zW D [(cL, .int), (cR, .int), (cC, .char), (cB, .byte), (cT, .int)] (fun q : Nat => s.heap.size ≤ q) s [(h, .inr (2, [.ref hw, .ref hn])), (hw, .inr (1, [.ref ha, .int (zI lc), .ref hr1, .int (zI cnt), .int (zI dec)])), (ha, .inl (cL, 86, .inl (zA L))), (hr1, .inl (cR, 774, .inl (zA Rw))), (hn, .inr (0, [.ref hc, .int (zI len)])), (hc, .inl (cC, 400, .inl (zA C))), (h3, .inr (3, [.ref hb, .int (zI n), .int (zI P), .ref ht, .int (zI ln2)])), (hb, .inl (cB, 1200, .inl (zA r))), (ht, .inl (cT, 420, .inl (zA tx)))] H locs → lv_has ls 4 [(0, .ref b), (1, .ref h), (2, .ref h3), (3, .int (zI i))] → W p l e room_1 s m #[Value.ref b] below meth c H locs 9 2894 (lw_Z below #[Value.ref b] s) (F0 m 18 ls []) := by
    intro nf_
    induction nf_ with
    | zero => intro h hw ha hr1 hn hc h3 hb ht cL cR cC cB cT L lc Rw cnt dec C len r n P tx ln2 T i hmeas_; exact absurd hmeas_ (Nat.not_lt_zero _)
    | succ nf_ ih =>
      intro h hw ha hr1 hn hc h3 hb ht cL cR cC cB cT L lc Rw cnt dec C len r n P tx ln2 T i hmeas_ hi t1 t2 hlen H locs ls w hl
      have hl1 := t1.1
      have hl2 := t2.1
      have hl1 := t1.1
      have hl2 := t2.1
      refine lv_iload_n S.1 S.2.1 dL_law_18 rfl (lv_at hl 3 rfl) ?_
      refine lv_aload_n S.1 S.2.1 dL_law_19 rfl (lv_at hl 0 rfl) ?_
      refine z_slen S w hX hbl hbA dL_law_20 ?_
      refine z_bipush S dL_law_21 (by decide +kernel) ?_
      refine z_isub S dL_law_23 ?_
      refine z_icmp_gt (tgt := 237) S dL_law_24 (by decide) (by omega) (by omega) (fun h24 => ?_) (fun h24 => ?_)
      · skip
        refine z_iconst S dL_law_237 ?_
        refine W.eq (g2 := F0 m 238 ls [.int 1]) rfl ?_
        refine va_forget (fun q hq => w.2.2.2.1.2.2 q hq) ?_
        exact lw_ret S.1 S.2.1 hr hlocks dL_law_238
      · skip
        refine lv_aload_n S.1 S.2.1 dL_law_27 rfl (lv_at hl 0 rfl) ?_
        refine lv_iload_n S.1 S.2.1 dL_law_28 rfl (lv_at hl 3 rfl) ?_
        refine z_sld S w hX hbl hbA (by omega) (by omega) dL_law_29 ?_
        refine z_iconst S dL_law_30 ?_
        refine z_iand S dL_law_31 (v := ((xs i.toNat).toInt % 4)) (zI_m2 _) ?_
        generalize hsw : (xs i.toNat).toInt % 4 = sw
        rcases (show sw = 0 ∨ sw = 1 ∨ sw = 2 ∨ sw = 3 by omega) with rfl | rfl | rfl | rfl
        · skip
          refine lv_tableIn (off := 28) (tgt := 60) S.1 S.2.1 dL_law_32 (by decide) (by decide) rfl (by decide) ?_
          refine lv_aload_n S.1 S.2.1 dL_law_60 rfl (lv_at hl 1 rfl) ?_
          refine lv_aload_n S.1 S.2.1 dL_law_61 rfl (lv_at hl 0 rfl) ?_
          refine lv_iload_n S.1 S.2.1 dL_law_62 rfl (lv_at hl 3 rfl) ?_
          refine z_iconst S dL_law_63 ?_
          refine z_iadd S dL_law_64 ?_
          refine z_sld S w hX hbl hbA (by omega) (by omega) dL_law_65 ?_
          refine z_i2l S dL_law_66 (i32_rng _) ?_
          refine z_bipush S dL_law_67 (by decide +kernel) ?_
          refine z_lshl S dL_law_69 (v := (shv ((xs (i + 1).toNat).toInt))) (lI_self _) ?_
          refine lv_aload_n S.1 S.2.1 dL_law_70 rfl (lv_at hl 0 rfl) ?_
          refine lv_iload_n S.1 S.2.1 dL_law_71 rfl (lv_at hl 3 rfl) ?_
          refine z_iconst S dL_law_72 ?_
          refine z_iadd S dL_law_73 ?_
          refine z_sld S w hX hbl hbA (by omega) (by omega) dL_law_74 ?_
          refine z_i2l S dL_law_75 (i32_rng _) ?_
          refine z_ldc2 (v := 4294967295) S 4294967295 kl_L_law_13 (by decide +kernel) dL_law_76 ?_
          refine z_land S dL_law_79 (v := (lov ((xs (i + 2).toNat).toInt))) (lI_self _) ?_
          refine z_lor S dL_law_80 (v := (bzv ((xs (i + 1).toNat).toInt) ((xs (i + 2).toNat).toInt))) (lI_self _) ?_
          refine lv_aload_n S.1 S.2.1 dL_law_81 rfl (lv_at hl 0 rfl) ?_
          refine lv_iload_n S.1 S.2.1 dL_law_82 rfl (lv_at hl 3 rfl) ?_
          refine z_iconst S dL_law_83 ?_
          refine z_iadd S dL_law_84 ?_
          refine z_sld S w hX hbl hbA (by omega) (by omega) dL_law_85 ?_
          refine lv_aload_n S.1 S.2.1 dL_law_86 rfl (lv_at hl 0 rfl) ?_
          refine lv_iload_n S.1 S.2.1 dL_law_87 rfl (lv_at hl 3 rfl) ?_
          refine z_iconst S dL_law_88 ?_
          refine z_iadd S dL_law_89 ?_
          refine z_sld S w hX hbl hbA (by omega) (by omega) dL_law_90 ?_
          refine lv_aload_n S.1 S.2.1 dL_law_91 rfl (lv_at hl 0 rfl) ?_
          refine lv_iload_n S.1 S.2.1 dL_law_92 rfl (lv_at hl 3 rfl) ?_
          refine z_iconst S dL_law_93 ?_
          refine z_iadd S dL_law_94 ?_
          refine z_sld S w hX hbl hbA (by omega) (by omega) dL_law_95 ?_
          refine lv_aload_n S.1 S.2.1 dL_law_96 rfl (lv_at hl 0 rfl) ?_
          refine lv_iload_n S.1 S.2.1 dL_law_97 rfl (lv_at hl 3 rfl) ?_
          refine z_bipush S dL_law_98 (by decide +kernel) ?_
          refine z_iadd S dL_law_100 ?_
          refine z_sld S w hX hbl hbA (by omega) (by omega) dL_law_101 ?_
          refine z_calliV (C := RX2) (n := 5) (As := [.long (lI (bzv ((xs (i + 1).toNat).toInt) ((xs (i + 2).toNat).toInt))), .int (zI ((xs (i + 3).toNat).toInt)), .int (zI ((xs (i + 4).toNat).toInt)), .int (zI ((xs (i + 5).toNat).toInt)), .int (zI ((xs (i + 6).toNat).toInt))]) (rest := []) (wr := [(h3, .inr (3, [.ref hb, .int (zI n), .int (zI P), .ref ht, .int (zI ln2)])), (hb, .inl (cB, 1200, .inl (zA r))), (ht, .inl (cT, 420, .inl (zA tx)))]) (wn := (fun (u : (Nat → Int) × Int × (Nat → Int) × Int × Int × (Nat → Int) × Int) => [(h, .inr (2, [.ref hw, .ref hn])), (hw, .inr (1, [.ref ha, .int (zI u.2.1), .ref hr1, .int (zI u.2.2.2.1), .int (zI u.2.2.2.2.1)])), (ha, .inl (cL, 86, .inl (zA u.1))), (hr1, .inl (cR, 774, .inl (zA u.2.2.1))), (hn, .inr (0, [.ref hc, .int (zI u.2.2.2.2.2.2)])), (hc, .inl (cC, 400, .inl (zA u.2.2.2.2.2.1))), (h3, .inr (3, [.ref hb, .int (zI n), .int (zI P), .ref ht, .int (zI ln2)])), (hb, .inl (cB, 1200, .inl (zA r))), (ht, .inl (cT, 420, .inl (zA tx)))])) S w (c_X2_make l D cL cR cC h hw ha hr1 hn hc L lc Rw cnt dec C len (bzv ((xs (i + 1).toNat).toInt) ((xs (i + 2).toNat).toInt)) ((xs (i + 3).toNat).toInt) ((xs (i + 4).toNat).toInt) ((xs (i + 5).toNat).toInt) ((xs (i + 6).toNat).toInt) (i64_rng _) (i32_rng _) (i32_rng _) (i32_rng _) (i32_rng _)) gL_law_X2_make (by decide +kernel) rfl ⟨rfl, rfl⟩ ⟨Nat.le_of_ble_eq_true rfl, Nat.le_of_ble_eq_true rfl⟩ [0, 1, 2] [0, 1, 2, 3, 4, 5] [6, 7, 8] [3, 4, 5, 6, 7, 8, 0, 1, 2] rfl rfl rfl rfl rfl (by decide) (fun u => rfl) rfl rfl rfl rfl rfl hl.1 (Nat.le_of_ble_eq_true rfl) ⟨Nat.le_of_ble_eq_true rfl, Nat.le_of_ble_eq_true rfl⟩ rfl dL_law_102 (fun z102 u H locs p102 w => ?_)
          obtain ⟨L102, lc102, Rw102, cnt102, dec102, C102, len102⟩ := u
          have p102 : (¬ okF (bzv ((xs (i + 1).toNat).toInt) ((xs (i + 2).toNat).toInt)) ((xs (i + 3).toNat).toInt) ((xs (i + 4).toNat).toInt) ((xs (i + 5).toNat).toInt) ((xs (i + 6).toNat).toInt) ∧ z102 = -1 ∧ C102 = C ∧ len102 = len) ∨ (okF (bzv ((xs (i + 1).toNat).toInt) ((xs (i + 2).toNat).toInt)) ((xs (i + 3).toNat).toInt) ((xs (i + 4).toNat).toInt) ((xs (i + 5).toNat).toInt) ((xs (i + 6).toNat).toInt) ∧ z102 = ((mkT (bzv ((xs (i + 1).toNat).toInt) ((xs (i + 2).toNat).toInt)) ((xs (i + 3).toNat).toInt) ((xs (i + 4).toNat).toInt) ((xs (i + 5).toNat).toInt) ((xs (i + 6).toNat).toInt)).length : Int) ∧ tRep C102 len102 (mkT (bzv ((xs (i + 1).toNat).toInt) ((xs (i + 2).toNat).toInt)) ((xs (i + 3).toNat).toInt) ((xs (i + 4).toNat).toInt) ((xs (i + 5).toNat).toInt) ((xs (i + 6).toNat).toInt)) ∧ len102 ≤ 400) := p102
          have w : zW D _ _ s [(h, .inr (2, [.ref hw, .ref hn])), (hw, .inr (1, [.ref ha, .int (zI lc102), .ref hr1, .int (zI cnt102), .int (zI dec102)])), (ha, .inl (cL, 86, .inl (zA L102))), (hr1, .inl (cR, 774, .inl (zA Rw102))), (hn, .inr (0, [.ref hc, .int (zI len102)])), (hc, .inl (cC, 400, .inl (zA C102))), (h3, .inr (3, [.ref hb, .int (zI n), .int (zI P), .ref ht, .int (zI ln2)])), (hb, .inl (cB, 1200, .inl (zA r))), (ht, .inl (cT, 420, .inl (zA tx)))] H locs := w
          refine lv_aload_n S.1 S.2.1 dL_law_105 rfl (lv_at hl 2 rfl) ?_
          refine lv_aload_n S.1 S.2.1 dL_law_106 rfl (lv_at hl 0 rfl) ?_
          refine lv_iload_n S.1 S.2.1 dL_law_107 rfl (lv_at hl 3 rfl) ?_
          refine z_iconst S dL_law_108 ?_
          refine z_iadd S dL_law_109 ?_
          refine z_sld S w hX hbl hbA (by omega) (by omega) dL_law_110 ?_
          refine z_i2l S dL_law_111 (i32_rng _) ?_
          refine z_bipush S dL_law_112 (by decide +kernel) ?_
          refine z_lshl S dL_law_114 (v := (shv ((xs (i + 1).toNat).toInt))) (lI_self _) ?_
          refine lv_aload_n S.1 S.2.1 dL_law_115 rfl (lv_at hl 0 rfl) ?_
          refine lv_iload_n S.1 S.2.1 dL_law_116 rfl (lv_at hl 3 rfl) ?_
          refine z_iconst S dL_law_117 ?_
          refine z_iadd S dL_law_118 ?_
          refine z_sld S w hX hbl hbA (by omega) (by omega) dL_law_119 ?_
          refine z_i2l S dL_law_120 (i32_rng _) ?_
          refine z_ldc2 (v := 4294967295) S 4294967295 kl_L_law_13 (by decide +kernel) dL_law_121 ?_
          refine z_land S dL_law_124 (v := (lov ((xs (i + 2).toNat).toInt))) (lI_self _) ?_
          refine z_lor S dL_law_125 (v := (bzv ((xs (i + 1).toNat).toInt) ((xs (i + 2).toNat).toInt))) (lI_self _) ?_
          refine lv_aload_n S.1 S.2.1 dL_law_126 rfl (lv_at hl 0 rfl) ?_
          refine lv_iload_n S.1 S.2.1 dL_law_127 rfl (lv_at hl 3 rfl) ?_
          refine z_iconst S dL_law_128 ?_
          refine z_iadd S dL_law_129 ?_
          refine z_sld S w hX hbl hbA (by omega) (by omega) dL_law_130 ?_
          refine lv_aload_n S.1 S.2.1 dL_law_131 rfl (lv_at hl 0 rfl) ?_
          refine lv_iload_n S.1 S.2.1 dL_law_132 rfl (lv_at hl 3 rfl) ?_
          refine z_iconst S dL_law_133 ?_
          refine z_iadd S dL_law_134 ?_
          refine z_sld S w hX hbl hbA (by omega) (by omega) dL_law_135 ?_
          refine lv_aload_n S.1 S.2.1 dL_law_136 rfl (lv_at hl 0 rfl) ?_
          refine lv_iload_n S.1 S.2.1 dL_law_137 rfl (lv_at hl 3 rfl) ?_
          refine z_iconst S dL_law_138 ?_
          refine z_iadd S dL_law_139 ?_
          refine z_sld S w hX hbl hbA (by omega) (by omega) dL_law_140 ?_
          refine lv_aload_n S.1 S.2.1 dL_law_141 rfl (lv_at hl 0 rfl) ?_
          refine lv_iload_n S.1 S.2.1 dL_law_142 rfl (lv_at hl 3 rfl) ?_
          refine z_bipush S dL_law_143 (by decide +kernel) ?_
          refine z_iadd S dL_law_145 ?_
          refine z_sld S w hX hbl hbA (by omega) (by omega) dL_law_146 ?_
          refine z_calliV (C := RX3) (n := 5) (As := [.long (lI (bzv ((xs (i + 1).toNat).toInt) ((xs (i + 2).toNat).toInt))), .int (zI ((xs (i + 3).toNat).toInt)), .int (zI ((xs (i + 4).toNat).toInt)), .int (zI ((xs (i + 5).toNat).toInt)), .int (zI ((xs (i + 6).toNat).toInt))]) (rest := [.int (zI z102)]) (wr := [(h, .inr (2, [.ref hw, .ref hn])), (hw, .inr (1, [.ref ha, .int (zI lc102), .ref hr1, .int (zI cnt102), .int (zI dec102)])), (ha, .inl (cL, 86, .inl (zA L102))), (hr1, .inl (cR, 774, .inl (zA Rw102))), (hn, .inr (0, [.ref hc, .int (zI len102)])), (hc, .inl (cC, 400, .inl (zA C102)))]) (wn := (fun (u : (Nat → Int) × Int × Int × (Nat → Int) × Int) => [(h, .inr (2, [.ref hw, .ref hn])), (hw, .inr (1, [.ref ha, .int (zI lc102), .ref hr1, .int (zI cnt102), .int (zI dec102)])), (ha, .inl (cL, 86, .inl (zA L102))), (hr1, .inl (cR, 774, .inl (zA Rw102))), (hn, .inr (0, [.ref hc, .int (zI len102)])), (hc, .inl (cC, 400, .inl (zA C102))), (h3, .inr (3, [.ref hb, .int (zI u.2.1), .int (zI u.2.2.1), .ref ht, .int (zI u.2.2.2.2)])), (hb, .inl (cB, 1200, .inl (zA u.1))), (ht, .inl (cT, 420, .inl (zA u.2.2.2.1)))])) S w (c_X3_make l D cB cT h3 hb ht r n P tx ln2 (bzv ((xs (i + 1).toNat).toInt) ((xs (i + 2).toNat).toInt)) ((xs (i + 3).toNat).toInt) ((xs (i + 4).toNat).toInt) ((xs (i + 5).toNat).toInt) ((xs (i + 6).toNat).toInt) (i64_rng _) (i32_rng _) (i32_rng _) (i32_rng _) (i32_rng _)) gL_law_X3_make (by decide +kernel) rfl ⟨rfl, rfl⟩ ⟨Nat.le_of_ble_eq_true rfl, Nat.le_of_ble_eq_true rfl⟩ [3, 4] [6, 7, 8] [0, 1, 2, 3, 4, 5] [0, 1, 2, 3, 4, 5, 6, 7, 8] rfl rfl rfl rfl rfl (by decide) (fun u => rfl) rfl rfl rfl rfl rfl hl.1 (Nat.le_of_ble_eq_true rfl) ⟨Nat.le_of_ble_eq_true rfl, Nat.le_of_ble_eq_true rfl⟩ rfl dL_law_147 (fun z147 u H locs p147 w => ?_)
          obtain ⟨r147, n147, P147, tx147, len147⟩ := u
          have p147 : (¬ okF (bzv ((xs (i + 1).toNat).toInt) ((xs (i + 2).toNat).toInt)) ((xs (i + 3).toNat).toInt) ((xs (i + 4).toNat).toInt) ((xs (i + 5).toNat).toInt) ((xs (i + 6).toNat).toInt) ∧ z147 = -1 ∧ tx147 = tx ∧ len147 = ln2) ∨ (okF (bzv ((xs (i + 1).toNat).toInt) ((xs (i + 2).toNat).toInt)) ((xs (i + 3).toNat).toInt) ((xs (i + 4).toNat).toInt) ((xs (i + 5).toNat).toInt) ((xs (i + 6).toNat).toInt) ∧ z147 = ((mkT (bzv ((xs (i + 1).toNat).toInt) ((xs (i + 2).toNat).toInt)) ((xs (i + 3).toNat).toInt) ((xs (i + 4).toNat).toInt) ((xs (i + 5).toNat).toInt) ((xs (i + 6).toNat).toInt)).length : Int) ∧ tRep tx147 len147 (mkT (bzv ((xs (i + 1).toNat).toInt) ((xs (i + 2).toNat).toInt)) ((xs (i + 3).toNat).toInt) ((xs (i + 4).toNat).toInt) ((xs (i + 5).toNat).toInt) ((xs (i + 6).toNat).toInt)) ∧ len147 ≤ 400) := p147
          have w : zW D _ _ s [(h, .inr (2, [.ref hw, .ref hn])), (hw, .inr (1, [.ref ha, .int (zI lc102), .ref hr1, .int (zI cnt102), .int (zI dec102)])), (ha, .inl (cL, 86, .inl (zA L102))), (hr1, .inl (cR, 774, .inl (zA Rw102))), (hn, .inr (0, [.ref hc, .int (zI len102)])), (hc, .inl (cC, 400, .inl (zA C102))), (h3, .inr (3, [.ref hb, .int (zI n147), .int (zI P147), .ref ht, .int (zI len147)])), (hb, .inl (cB, 1200, .inl (zA r147))), (ht, .inl (cT, 420, .inl (zA tx147)))] H locs := w
          have heq : z102 = z147 := by
            rcases p102 with ⟨a, b1, _, _⟩ | ⟨a, b1, _, _⟩
            · rcases p147 with ⟨c9, d9, _, _⟩ | ⟨c9, d9, _, _⟩
              · rw [b1, d9]
              · exact absurd c9 a
            · rcases p147 with ⟨c9, d9, _, _⟩ | ⟨c9, d9, _, _⟩
              · exact absurd a c9
              · rw [b1, d9]
          refine lv_icmp_eq (tgt := 231) S.1 S.2.1 dL_law_150 (by decide) (fun _ => ?_) (fun hne => absurd (by rw [heq]) hne)
          obtain ⟨T', t1', t2', l'⟩ : ∃ T' : List Int, tRep C102 len102 T' ∧ tRep tx147 len147 T' ∧ len102 ≤ 400 := by
            rcases p102 with ⟨a, _, b2, b3⟩ | ⟨a, _, b2, b3⟩
            · rcases p147 with ⟨c9, _, d2, d3⟩ | ⟨c9, _, d2, d3⟩
              · rw [b2, b3, d2, d3]; exact ⟨T, t1, t2, hlen⟩
              · exact absurd c9 a
            · rcases p147 with ⟨c9, _, d2, d3⟩ | ⟨c9, _, d2, d3⟩
              · exact absurd a c9
              · exact ⟨_, b2, d2, b3⟩
          refine lv_iinc (v := zI (i + 7)) (lv' := [(3, .int (zI (i + 7))), (0, .ref b), (1, .ref h), (2, .ref h3)]) S.1 S.2.1 dL_law_231 hl (k := 3) rfl (zI_add i 7) (by decide) rfl (fun ls hl => ?_)
          refine lv_goto (tgt := 18) S.1 S.2.1 dL_law_234 (by decide) ?_
          exact ih h hw ha hr1 hn hc h3 hb ht cL cR cC cB cT L102 lc102 Rw102 cnt102 dec102 C102 len102 r147 n147 P147 tx147 len147 T' (i + 7) (by omega) (by omega) t1' t2' l' _ _ _ w (lv_sub hl [1, 2, 3, 0] rfl)
        · skip
          refine lv_tableIn (off := 123) (tgt := 155) S.1 S.2.1 dL_law_32 (by decide) (by decide) rfl (by decide) ?_
          refine lv_aload_n S.1 S.2.1 dL_law_155 rfl (lv_at hl 1 rfl) ?_
          refine lv_aload_n S.1 S.2.1 dL_law_156 rfl (lv_at hl 0 rfl) ?_
          refine lv_iload_n S.1 S.2.1 dL_law_157 rfl (lv_at hl 3 rfl) ?_
          refine z_iconst S dL_law_158 ?_
          refine z_iadd S dL_law_159 ?_
          refine z_sld S w hX hbl hbA (by omega) (by omega) dL_law_160 ?_
          refine z_calliV (C := RX2) (n := 1) (As := [.int (zI ((xs (i + 1).toNat).toInt))]) (rest := []) (wr := [(hw, .inr (1, [.ref ha, .int (zI lc), .ref hr1, .int (zI cnt), .int (zI dec)])), (ha, .inl (cL, 86, .inl (zA L))), (hr1, .inl (cR, 774, .inl (zA Rw))), (h3, .inr (3, [.ref hb, .int (zI n), .int (zI P), .ref ht, .int (zI ln2)])), (hb, .inl (cB, 1200, .inl (zA r))), (ht, .inl (cT, 420, .inl (zA tx)))]) (wn := (fun (u : Unit) => [(h, .inr (2, [.ref hw, .ref hn])), (hw, .inr (1, [.ref ha, .int (zI lc), .ref hr1, .int (zI cnt), .int (zI dec)])), (ha, .inl (cL, 86, .inl (zA L))), (hr1, .inl (cR, 774, .inl (zA Rw))), (hn, .inr (0, [.ref hc, .int (zI len)])), (hc, .inl (cC, 400, .inl (zA C))), (h3, .inr (3, [.ref hb, .int (zI n), .int (zI P), .ref ht, .int (zI ln2)])), (hb, .inl (cB, 1200, .inl (zA r))), (ht, .inl (cT, 420, .inl (zA tx)))])) S w (c_X2_at l D cC h hw hn hc C len T ((xs (i + 1).toNat).toInt) t1 (by omega) (i32_rng _)) gL_law_X2_at (by decide +kernel) rfl ⟨rfl, rfl⟩ ⟨Nat.le_of_ble_eq_true rfl, Nat.le_of_ble_eq_true rfl⟩ [2] [0, 4, 5] [1, 2, 3, 6, 7, 8] [6, 0, 1, 2, 7, 8, 3, 4, 5] rfl rfl rfl rfl rfl (by decide) (fun u => rfl) rfl rfl rfl rfl rfl hl.1 (Nat.le_of_ble_eq_true rfl) ⟨Nat.le_of_ble_eq_true rfl, Nat.le_of_ble_eq_true rfl⟩ rfl dL_law_161 (fun z161 _ H locs p161 w => ?_)
          have p161 : z161 = (if 0 ≤ ((xs (i + 1).toNat).toInt) ∧ ((xs (i + 1).toNat).toInt) < len then C ((xs (i + 1).toNat).toInt).toNat else -1) := p161
          have w : zW D _ _ s [(h, .inr (2, [.ref hw, .ref hn])), (hw, .inr (1, [.ref ha, .int (zI lc), .ref hr1, .int (zI cnt), .int (zI dec)])), (ha, .inl (cL, 86, .inl (zA L))), (hr1, .inl (cR, 774, .inl (zA Rw))), (hn, .inr (0, [.ref hc, .int (zI len)])), (hc, .inl (cC, 400, .inl (zA C))), (h3, .inr (3, [.ref hb, .int (zI n), .int (zI P), .ref ht, .int (zI ln2)])), (hb, .inl (cB, 1200, .inl (zA r))), (ht, .inl (cT, 420, .inl (zA tx)))] H locs := w
          refine lv_aload_n S.1 S.2.1 dL_law_164 rfl (lv_at hl 2 rfl) ?_
          refine lv_aload_n S.1 S.2.1 dL_law_165 rfl (lv_at hl 0 rfl) ?_
          refine lv_iload_n S.1 S.2.1 dL_law_166 rfl (lv_at hl 3 rfl) ?_
          refine z_iconst S dL_law_167 ?_
          refine z_iadd S dL_law_168 ?_
          refine z_sld S w hX hbl hbA (by omega) (by omega) dL_law_169 ?_
          refine z_calliV (C := RX3) (n := 1) (As := [.int (zI ((xs (i + 1).toNat).toInt))]) (rest := [.int (zI z161)]) (wr := [(h, .inr (2, [.ref hw, .ref hn])), (hw, .inr (1, [.ref ha, .int (zI lc), .ref hr1, .int (zI cnt), .int (zI dec)])), (ha, .inl (cL, 86, .inl (zA L))), (hr1, .inl (cR, 774, .inl (zA Rw))), (hn, .inr (0, [.ref hc, .int (zI len)])), (hc, .inl (cC, 400, .inl (zA C)))]) (wn := (fun (u : Unit) => [(h, .inr (2, [.ref hw, .ref hn])), (hw, .inr (1, [.ref ha, .int (zI lc), .ref hr1, .int (zI cnt), .int (zI dec)])), (ha, .inl (cL, 86, .inl (zA L))), (hr1, .inl (cR, 774, .inl (zA Rw))), (hn, .inr (0, [.ref hc, .int (zI len)])), (hc, .inl (cC, 400, .inl (zA C))), (h3, .inr (3, [.ref hb, .int (zI n), .int (zI P), .ref ht, .int (zI ln2)])), (hb, .inl (cB, 1200, .inl (zA r))), (ht, .inl (cT, 420, .inl (zA tx)))])) S w (c_X3_at l D cB cT h3 hb ht r n P tx ln2 ((xs (i + 1).toNat).toInt) (by omega) (i32_rng _)) gL_law_X3_at (by decide +kernel) rfl ⟨rfl, rfl⟩ ⟨Nat.le_of_ble_eq_true rfl, Nat.le_of_ble_eq_true rfl⟩ [3, 4] [6, 7, 8] [0, 1, 2, 3, 4, 5] [0, 1, 2, 3, 4, 5, 6, 7, 8] rfl rfl rfl rfl rfl (by decide) (fun u => rfl) rfl rfl rfl rfl rfl hl.1 (Nat.le_of_ble_eq_true rfl) ⟨Nat.le_of_ble_eq_true rfl, Nat.le_of_ble_eq_true rfl⟩ rfl dL_law_170 (fun z170 _ H locs p170 w => ?_)
          have p170 : z170 = (if 0 ≤ ((xs (i + 1).toNat).toInt) ∧ ((xs (i + 1).toNat).toInt) < ln2 then tx ((xs (i + 1).toNat).toInt).toNat else -1) := p170
          have w : zW D _ _ s [(h, .inr (2, [.ref hw, .ref hn])), (hw, .inr (1, [.ref ha, .int (zI lc), .ref hr1, .int (zI cnt), .int (zI dec)])), (ha, .inl (cL, 86, .inl (zA L))), (hr1, .inl (cR, 774, .inl (zA Rw))), (hn, .inr (0, [.ref hc, .int (zI len)])), (hc, .inl (cC, 400, .inl (zA C))), (h3, .inr (3, [.ref hb, .int (zI n), .int (zI P), .ref ht, .int (zI ln2)])), (hb, .inl (cB, 1200, .inl (zA r))), (ht, .inl (cT, 420, .inl (zA tx)))] H locs := w
          have heq : z161 = z170 := by
            rw [p161, p170]; exact at_eq t1 t2 _
          refine lv_icmp_eq (tgt := 231) S.1 S.2.1 dL_law_173 (by decide) (fun _ => ?_) (fun hne => absurd (by rw [heq]) hne)
          obtain ⟨T', t1', t2', l'⟩ : ∃ T' : List Int, tRep C len T' ∧ tRep tx ln2 T' ∧ len ≤ 400 := ⟨T, t1, t2, hlen⟩
          refine lv_iinc (v := zI (i + 7)) (lv' := [(3, .int (zI (i + 7))), (0, .ref b), (1, .ref h), (2, .ref h3)]) S.1 S.2.1 dL_law_231 hl (k := 3) rfl (zI_add i 7) (by decide) rfl (fun ls hl => ?_)
          refine lv_goto (tgt := 18) S.1 S.2.1 dL_law_234 (by decide) ?_
          exact ih h hw ha hr1 hn hc h3 hb ht cL cR cC cB cT L lc Rw cnt dec C len r n P tx ln2 T' (i + 7) (by omega) (by omega) t1' t2' l' _ _ _ w (lv_sub hl [1, 2, 3, 0] rfl)
        · skip
          refine lv_tableIn (off := 146) (tgt := 178) S.1 S.2.1 dL_law_32 (by decide) (by decide) rfl (by decide) ?_
          refine lv_aload_n S.1 S.2.1 dL_law_178 rfl (lv_at hl 1 rfl) ?_
          refine lv_aload_n S.1 S.2.1 dL_law_179 rfl (lv_at hl 0 rfl) ?_
          refine lv_iload_n S.1 S.2.1 dL_law_180 rfl (lv_at hl 3 rfl) ?_
          refine z_iconst S dL_law_181 ?_
          refine z_iadd S dL_law_182 ?_
          refine z_sld S w hX hbl hbA (by omega) (by omega) dL_law_183 ?_
          refine z_i2l S dL_law_184 (i32_rng _) ?_
          refine z_bipush S dL_law_185 (by decide +kernel) ?_
          refine z_lshl S dL_law_187 (v := (shv ((xs (i + 1).toNat).toInt))) (lI_self _) ?_
          refine lv_aload_n S.1 S.2.1 dL_law_188 rfl (lv_at hl 0 rfl) ?_
          refine lv_iload_n S.1 S.2.1 dL_law_189 rfl (lv_at hl 3 rfl) ?_
          refine z_iconst S dL_law_190 ?_
          refine z_iadd S dL_law_191 ?_
          refine z_sld S w hX hbl hbA (by omega) (by omega) dL_law_192 ?_
          refine z_i2l S dL_law_193 (i32_rng _) ?_
          refine z_ldc2 (v := 4294967295) S 4294967295 kl_L_law_13 (by decide +kernel) dL_law_194 ?_
          refine z_land S dL_law_197 (v := (lov ((xs (i + 2).toNat).toInt))) (lI_self _) ?_
          refine z_lor S dL_law_198 (v := (bzv ((xs (i + 1).toNat).toInt) ((xs (i + 2).toNat).toInt))) (lI_self _) ?_
          refine z_calliV (C := RX2) (n := 1) (As := [.long (lI (bzv ((xs (i + 1).toNat).toInt) ((xs (i + 2).toNat).toInt)))]) (rest := []) (wr := [(hn, .inr (0, [.ref hc, .int (zI len)])), (hc, .inl (cC, 400, .inl (zA C))), (h3, .inr (3, [.ref hb, .int (zI n), .int (zI P), .ref ht, .int (zI ln2)])), (hb, .inl (cB, 1200, .inl (zA r))), (ht, .inl (cT, 420, .inl (zA tx)))]) (wn := (fun (u : (Nat → Int) × Int × (Nat → Int) × Int × Int) => [(h, .inr (2, [.ref hw, .ref hn])), (hw, .inr (1, [.ref ha, .int (zI u.2.1), .ref hr1, .int (zI u.2.2.2.1), .int (zI u.2.2.2.2)])), (ha, .inl (cL, 86, .inl (zA u.1))), (hr1, .inl (cR, 774, .inl (zA u.2.2.1))), (hn, .inr (0, [.ref hc, .int (zI len)])), (hc, .inl (cC, 400, .inl (zA C))), (h3, .inr (3, [.ref hb, .int (zI n), .int (zI P), .ref ht, .int (zI ln2)])), (hb, .inl (cB, 1200, .inl (zA r))), (ht, .inl (cT, 420, .inl (zA tx)))])) S w (c_X2_digits l D cL cR h hw ha hr1 hn L lc Rw cnt dec (bzv ((xs (i + 1).toNat).toInt) ((xs (i + 2).toNat).toInt)) (i64_rng _)) gL_law_X2_digits (by decide +kernel) rfl ⟨rfl, rfl⟩ ⟨Nat.le_of_ble_eq_true rfl, Nat.le_of_ble_eq_true rfl⟩ [0, 1] [0, 1, 2, 3] [4, 5, 6, 7, 8] [5, 6, 7, 8, 0, 1, 2, 3, 4] rfl rfl rfl rfl rfl (by decide) (fun u => rfl) rfl rfl rfl rfl rfl hl.1 (Nat.le_of_ble_eq_true rfl) ⟨Nat.le_of_ble_eq_true rfl, Nat.le_of_ble_eq_true rfl⟩ rfl dL_law_199 (fun z199 u H locs p199 w => ?_)
          obtain ⟨L199, lc199, Rw199, cnt199, dec199⟩ := u
          have p199 : (xE (bzv ((xs (i + 1).toNat).toInt) ((xs (i + 2).toNat).toInt)) = 2047 ∧ z199 = -1) ∨ (xE (bzv ((xs (i + 1).toNat).toInt) ((xs (i + 2).toNat).toInt)) ≠ 2047 ∧ sgX (xX (bzv ((xs (i + 1).toNat).toInt) ((xs (i + 2).toNat).toInt))) z199) := p199
          have w : zW D _ _ s [(h, .inr (2, [.ref hw, .ref hn])), (hw, .inr (1, [.ref ha, .int (zI lc199), .ref hr1, .int (zI cnt199), .int (zI dec199)])), (ha, .inl (cL, 86, .inl (zA L199))), (hr1, .inl (cR, 774, .inl (zA Rw199))), (hn, .inr (0, [.ref hc, .int (zI len)])), (hc, .inl (cC, 400, .inl (zA C))), (h3, .inr (3, [.ref hb, .int (zI n), .int (zI P), .ref ht, .int (zI ln2)])), (hb, .inl (cB, 1200, .inl (zA r))), (ht, .inl (cT, 420, .inl (zA tx)))] H locs := w
          refine lv_aload_n S.1 S.2.1 dL_law_202 rfl (lv_at hl 2 rfl) ?_
          refine lv_aload_n S.1 S.2.1 dL_law_203 rfl (lv_at hl 0 rfl) ?_
          refine lv_iload_n S.1 S.2.1 dL_law_204 rfl (lv_at hl 3 rfl) ?_
          refine z_iconst S dL_law_205 ?_
          refine z_iadd S dL_law_206 ?_
          refine z_sld S w hX hbl hbA (by omega) (by omega) dL_law_207 ?_
          refine z_i2l S dL_law_208 (i32_rng _) ?_
          refine z_bipush S dL_law_209 (by decide +kernel) ?_
          refine z_lshl S dL_law_211 (v := (shv ((xs (i + 1).toNat).toInt))) (lI_self _) ?_
          refine lv_aload_n S.1 S.2.1 dL_law_212 rfl (lv_at hl 0 rfl) ?_
          refine lv_iload_n S.1 S.2.1 dL_law_213 rfl (lv_at hl 3 rfl) ?_
          refine z_iconst S dL_law_214 ?_
          refine z_iadd S dL_law_215 ?_
          refine z_sld S w hX hbl hbA (by omega) (by omega) dL_law_216 ?_
          refine z_i2l S dL_law_217 (i32_rng _) ?_
          refine z_ldc2 (v := 4294967295) S 4294967295 kl_L_law_13 (by decide +kernel) dL_law_218 ?_
          refine z_land S dL_law_221 (v := (lov ((xs (i + 2).toNat).toInt))) (lI_self _) ?_
          refine z_lor S dL_law_222 (v := (bzv ((xs (i + 1).toNat).toInt) ((xs (i + 2).toNat).toInt))) (lI_self _) ?_
          refine z_calliV (C := RX3) (n := 1) (As := [.long (lI (bzv ((xs (i + 1).toNat).toInt) ((xs (i + 2).toNat).toInt)))]) (rest := [.int (zI z199)]) (wr := [(h, .inr (2, [.ref hw, .ref hn])), (hw, .inr (1, [.ref ha, .int (zI lc199), .ref hr1, .int (zI cnt199), .int (zI dec199)])), (ha, .inl (cL, 86, .inl (zA L199))), (hr1, .inl (cR, 774, .inl (zA Rw199))), (hn, .inr (0, [.ref hc, .int (zI len)])), (hc, .inl (cC, 400, .inl (zA C)))]) (wn := (fun (u : (Nat → Int) × Int × Int) => [(h, .inr (2, [.ref hw, .ref hn])), (hw, .inr (1, [.ref ha, .int (zI lc199), .ref hr1, .int (zI cnt199), .int (zI dec199)])), (ha, .inl (cL, 86, .inl (zA L199))), (hr1, .inl (cR, 774, .inl (zA Rw199))), (hn, .inr (0, [.ref hc, .int (zI len)])), (hc, .inl (cC, 400, .inl (zA C))), (h3, .inr (3, [.ref hb, .int (zI u.2.1), .int (zI u.2.2), .ref ht, .int (zI ln2)])), (hb, .inl (cB, 1200, .inl (zA u.1))), (ht, .inl (cT, 420, .inl (zA tx)))])) S w (c_X3_digits l D cB cT h3 hb ht r n P tx ln2 (bzv ((xs (i + 1).toNat).toInt) ((xs (i + 2).toNat).toInt)) (i64_rng _)) gL_law_X3_digits (by decide +kernel) rfl ⟨rfl, rfl⟩ ⟨Nat.le_of_ble_eq_true rfl, Nat.le_of_ble_eq_true rfl⟩ [3, 4] [6, 7, 8] [0, 1, 2, 3, 4, 5] [0, 1, 2, 3, 4, 5, 6, 7, 8] rfl rfl rfl rfl rfl (by decide) (fun u => rfl) rfl rfl rfl rfl rfl hl.1 (Nat.le_of_ble_eq_true rfl) ⟨Nat.le_of_ble_eq_true rfl, Nat.le_of_ble_eq_true rfl⟩ rfl dL_law_223 (fun z223 u H locs p223 w => ?_)
          obtain ⟨r223, n223, P223⟩ := u
          have p223 : (xE (bzv ((xs (i + 1).toNat).toInt) ((xs (i + 2).toNat).toInt)) = 2047 ∧ z223 = -1) ∨ (xE (bzv ((xs (i + 1).toNat).toInt) ((xs (i + 2).toNat).toInt)) ≠ 2047 ∧ sgX (xX (bzv ((xs (i + 1).toNat).toInt) ((xs (i + 2).toNat).toInt))) z223) := p223
          have w : zW D _ _ s [(h, .inr (2, [.ref hw, .ref hn])), (hw, .inr (1, [.ref ha, .int (zI lc199), .ref hr1, .int (zI cnt199), .int (zI dec199)])), (ha, .inl (cL, 86, .inl (zA L199))), (hr1, .inl (cR, 774, .inl (zA Rw199))), (hn, .inr (0, [.ref hc, .int (zI len)])), (hc, .inl (cC, 400, .inl (zA C))), (h3, .inr (3, [.ref hb, .int (zI n223), .int (zI P223), .ref ht, .int (zI ln2)])), (hb, .inl (cB, 1200, .inl (zA r223))), (ht, .inl (cT, 420, .inl (zA tx)))] H locs := w
          have heq : z199 = z223 := by
            rcases p199 with ⟨a, b1⟩ | ⟨a, b1⟩
            · rcases p223 with ⟨c9, d9⟩ | ⟨c9, d9⟩
              · rw [b1, d9]
              · exact absurd a c9
            · rcases p223 with ⟨c9, d9⟩ | ⟨c9, d9⟩
              · exact absurd c9 a
              · exact sgX_uniq b1 d9
          refine lv_icmp_eq (tgt := 231) S.1 S.2.1 dL_law_226 (by decide) (fun _ => ?_) (fun hne => absurd (by rw [heq]) hne)
          obtain ⟨T', t1', t2', l'⟩ : ∃ T' : List Int, tRep C len T' ∧ tRep tx ln2 T' ∧ len ≤ 400 := ⟨T, t1, t2, hlen⟩
          refine lv_iinc (v := zI (i + 7)) (lv' := [(3, .int (zI (i + 7))), (0, .ref b), (1, .ref h), (2, .ref h3)]) S.1 S.2.1 dL_law_231 hl (k := 3) rfl (zI_add i 7) (by decide) rfl (fun ls hl => ?_)
          refine lv_goto (tgt := 18) S.1 S.2.1 dL_law_234 (by decide) ?_
          exact ih h hw ha hr1 hn hc h3 hb ht cL cR cC cB cT L199 lc199 Rw199 cnt199 dec199 C len r223 n223 P223 tx ln2 T' (i + 7) (by omega) (by omega) t1' t2' l' _ _ _ w (lv_sub hl [1, 2, 3, 0] rfl)
        · skip
          refine lv_tableOut (tgt := 231) S.1 S.2.1 dL_law_32 (Or.inr (by decide)) (by decide) ?_
          obtain ⟨T', t1', t2', l'⟩ : ∃ T' : List Int, tRep C len T' ∧ tRep tx ln2 T' ∧ len ≤ 400 := ⟨T, t1, t2, hlen⟩
          refine lv_iinc (v := zI (i + 7)) (lv' := [(3, .int (zI (i + 7))), (0, .ref b), (1, .ref h), (2, .ref h3)]) S.1 S.2.1 dL_law_231 hl (k := 3) rfl (zI_add i 7) (by decide) rfl (fun ls hl => ?_)
          refine lv_goto (tgt := 18) S.1 S.2.1 dL_law_234 (by decide) ?_
          exact ih h hw ha hr1 hn hc h3 hb ht cL cR cC cB cT L lc Rw cnt dec C len r n P tx ln2 T' (i + 7) (by omega) (by omega) t1' t2' l' _ _ _ w (lv_sub hl [1, 2, 3, 0] rfl)
  refine z_new (ci := 2) (fs := [.null, .null]) (C := RX2) (TT := TX2) (N := 2) S w in_L_law_X2 tyX2_ok cl_L_law_7 nst_L_law_X2 ini_L_law_RX2 rfl (fun j hj => by rcases (show j = 0 ∨ j = 1 by omega) with rfl | rfl <;> rfl) (Nat.le_of_ble_eq_true rfl) (Nat.le_of_ble_eq_true rfl) dL_law_0 (fun o0 H w => ?_)
  have w : zW D _ _ s [(o0, .inr (2, [.null, .null]))] H _ := w
  refine lv_dup S.1 S.2.1 dL_law_3 rfl ?_
  refine z_callK (n := 0) (As := []) (rest := [.ref o0]) (wr := []) (wn := (fun (u : Nat × Nat × Nat × Nat × Nat × ClassId × ClassId × ClassId) => [(o0, .inr (2, [.ref u.1, .ref u.2.2.2.1])), (u.1, .inr (1, [.ref u.2.1, .int (zI 0), .ref u.2.2.1, .int (zI 0), .int (zI 0)])), (u.2.1, .inl (u.2.2.2.2.2.1, 86, .inl (zA (fun _ => 0)))), (u.2.2.1, .inl (u.2.2.2.2.2.2.1, 774, .inl (zA (fun _ => 0)))), (u.2.2.2.1, .inr (0, [.ref u.2.2.2.2.1, .int (zI 0)])), (u.2.2.2.2.1, .inl (u.2.2.2.2.2.2.2, 400, .inl (zA (fun _ => 0))))])) S w (c_X2_init l D o0) gL_law_X2_init ml_L_law_9 im_L_law_X2_init ini_L_law_RX2 rfl (by decide +kernel) rfl ⟨rfl, rfl⟩ ⟨Nat.le_of_ble_eq_true rfl, Nat.le_of_ble_eq_true rfl⟩ [0] [] [0, 1, 2, 3, 4, 5] rfl rfl rfl rfl (by decide) (fun u => rfl) rfl rfl hl.1 (Nat.le_of_ble_eq_true rfl) ⟨Nat.le_of_ble_eq_true rfl, Nat.le_of_ble_eq_true rfl⟩ rfl dL_law_4 (fun u H locs _ w => ?_)
  obtain ⟨hw_4, ha_4, hr1_4, hn_4, hc_4, cL_4, cR_4, cC_4⟩ := u
  have w : zW D _ _ s [(o0, .inr (2, [.ref hw_4, .ref hn_4])), (hw_4, .inr (1, [.ref ha_4, .int (zI 0), .ref hr1_4, .int (zI 0), .int (zI 0)])), (ha_4, .inl (cL_4, 86, .inl (zA (fun _ => 0)))), (hr1_4, .inl (cR_4, 774, .inl (zA (fun _ => 0)))), (hn_4, .inr (0, [.ref hc_4, .int (zI 0)])), (hc_4, .inl (cC_4, 400, .inl (zA (fun _ => 0))))] H locs := w
  refine lv_astore_n (lv' := [(1, .ref o0), (0, .ref b)]) S.1 S.2.1 dL_law_7 rfl hl (by decide) rfl (fun ls hl => ?_)
  refine z_new (ci := 3) (fs := [.null, .int (zI 0), .int (zI 0), .null, .int (zI 0)]) (C := RX3) (TT := TX3) (N := 5) S w in_L_law_X3 tyX3_ok cl_L_law_10 nst_L_law_X3 ini_L_law_RX3 rfl (fun j hj => by rcases (show j = 0 ∨ j = 1 ∨ j = 2 ∨ j = 3 ∨ j = 4 by omega) with rfl | rfl | rfl | rfl | rfl <;> rfl) (Nat.le_of_ble_eq_true rfl) (Nat.le_of_ble_eq_true rfl) dL_law_8 (fun o8 H w => ?_)
  have w : zW D _ _ s [(o0, .inr (2, [.ref hw_4, .ref hn_4])), (hw_4, .inr (1, [.ref ha_4, .int (zI 0), .ref hr1_4, .int (zI 0), .int (zI 0)])), (ha_4, .inl (cL_4, 86, .inl (zA (fun _ => 0)))), (hr1_4, .inl (cR_4, 774, .inl (zA (fun _ => 0)))), (hn_4, .inr (0, [.ref hc_4, .int (zI 0)])), (hc_4, .inl (cC_4, 400, .inl (zA (fun _ => 0)))), (o8, .inr (3, [.null, .int (zI 0), .int (zI 0), .null, .int (zI 0)]))] H _ := w
  refine lv_dup S.1 S.2.1 dL_law_11 rfl ?_
  refine z_callK (n := 0) (As := []) (rest := [.ref o8]) (wr := [(o0, .inr (2, [.ref hw_4, .ref hn_4])), (hw_4, .inr (1, [.ref ha_4, .int (zI 0), .ref hr1_4, .int (zI 0), .int (zI 0)])), (ha_4, .inl (cL_4, 86, .inl (zA (fun _ => 0)))), (hr1_4, .inl (cR_4, 774, .inl (zA (fun _ => 0)))), (hn_4, .inr (0, [.ref hc_4, .int (zI 0)])), (hc_4, .inl (cC_4, 400, .inl (zA (fun _ => 0))))]) (wn := (fun (u : Nat × Nat × ClassId × ClassId) => [(o0, .inr (2, [.ref hw_4, .ref hn_4])), (hw_4, .inr (1, [.ref ha_4, .int (zI 0), .ref hr1_4, .int (zI 0), .int (zI 0)])), (ha_4, .inl (cL_4, 86, .inl (zA (fun _ => 0)))), (hr1_4, .inl (cR_4, 774, .inl (zA (fun _ => 0)))), (hn_4, .inr (0, [.ref hc_4, .int (zI 0)])), (hc_4, .inl (cC_4, 400, .inl (zA (fun _ => 0)))), (o8, .inr (3, [.ref u.1, .int (zI 0), .int (zI 0), .ref u.2.1, .int (zI 0)])), (u.1, .inl (u.2.2.1, 1200, .inl (zA (fun _ => 0)))), (u.2.1, .inl (u.2.2.2, 420, .inl (zA (fun _ => 0))))])) S w (c_X3_init l D o8) gL_law_X3_init ml_L_law_12 im_L_law_X3_init ini_L_law_RX3 rfl (by decide +kernel) rfl ⟨rfl, rfl⟩ ⟨Nat.le_of_ble_eq_true rfl, Nat.le_of_ble_eq_true rfl⟩ [6] [0, 1, 2, 3, 4, 5] [0, 1, 2, 3, 4, 5, 6, 7, 8] rfl rfl rfl rfl (by decide) (fun u => rfl) rfl rfl hl.1 (Nat.le_of_ble_eq_true rfl) ⟨Nat.le_of_ble_eq_true rfl, Nat.le_of_ble_eq_true rfl⟩ rfl dL_law_12 (fun u H locs _ w => ?_)
  obtain ⟨hb_12, ht_12, cB_12, cT_12⟩ := u
  have w : zW D _ _ s [(o0, .inr (2, [.ref hw_4, .ref hn_4])), (hw_4, .inr (1, [.ref ha_4, .int (zI 0), .ref hr1_4, .int (zI 0), .int (zI 0)])), (ha_4, .inl (cL_4, 86, .inl (zA (fun _ => 0)))), (hr1_4, .inl (cR_4, 774, .inl (zA (fun _ => 0)))), (hn_4, .inr (0, [.ref hc_4, .int (zI 0)])), (hc_4, .inl (cC_4, 400, .inl (zA (fun _ => 0)))), (o8, .inr (3, [.ref hb_12, .int (zI 0), .int (zI 0), .ref ht_12, .int (zI 0)])), (hb_12, .inl (cB_12, 1200, .inl (zA (fun _ => 0)))), (ht_12, .inl (cT_12, 420, .inl (zA (fun _ => 0))))] H locs := w
  refine lv_astore_n (lv' := [(2, .ref o8), (1, .ref o0), (0, .ref b)]) S.1 S.2.1 dL_law_15 rfl hl (by decide) rfl (fun ls hl => ?_)
  refine z_iconst S dL_law_16 ?_
  refine lv_istore_n (lv' := [(3, .int (zI 0)), (2, .ref o8), (1, .ref o0), (0, .ref b)]) S.1 S.2.1 dL_law_17 rfl hl (by decide) rfl (fun ls hl => ?_)
  exact lab18 _ o0 hw_4 ha_4 hr1_4 hn_4 hc_4 o8 hb_12 ht_12 cL_4 cR_4 cC_4 cB_12 cT_12 (fun _ => 0) 0 (fun _ => 0) 0 0 (fun _ => 0) 0 (fun _ => 0) 0 0 (fun _ => 0) 0 ([]) 0 (Nat.lt_succ_self _) (by omega) (tRep_nil _) (tRep_nil _) (by omega) _ _ _ w (lv_sub hl [3, 2, 1, 0] rfl)
