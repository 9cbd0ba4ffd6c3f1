/-! numbers of the machine by whole numbers: zI of an Int is an Int32, lI an Int64 -/
def zI (z : Int) : Int32 := Int32.ofInt z
def lI (z : Int) : Int64 := Int64.ofInt z
theorem zI_toInt {z : Int} (h : -2147483648 ≤ z ∧ z ≤ 2147483647) : (zI z).toInt = z := by
  unfold zI
  rw [Int32.toInt_ofInt]
  exact Jvm.Kit.bmod32 (by omega) (by omega)
theorem lI_toInt {z : Int} (h : -9223372036854775808 ≤ z ∧ z ≤ 9223372036854775807) : (lI z).toInt = z := by
  unfold lI
  rw [Int64.toInt_ofInt]
  exact Jvm.Kit.bmod64 (by omega) (by omega)
theorem zI_of (x : Int32) : ∃ z : Int, (-2147483648 ≤ z ∧ z ≤ 2147483647) ∧ x = zI z := by
  have h1 := x.le_toInt
  have h2 := x.toInt_lt
  exact ⟨x.toInt, ⟨by omega, by omega⟩, (Int32.ofInt_toInt x).symm⟩
theorem lI_of (x : Int64) : ∃ z : Int, (-9223372036854775808 ≤ z ∧ z ≤ 9223372036854775807) ∧ x = lI z := by
  have h1 := x.le_toInt
  have h2 := x.toInt_lt
  exact ⟨x.toInt, ⟨by omega, by omega⟩, (Int64.ofInt_toInt x).symm⟩
theorem zI_eq_of {x : Int32} {z : Int} (h : x.toInt = z) : x = zI z := by
  rw [← h]; exact (Int32.ofInt_toInt x).symm
theorem lI_eq_of {x : Int64} {z : Int} (h : x.toInt = z) : x = lI z := by
  rw [← h]; exact (Int64.ofInt_toInt x).symm
theorem zI_add (a b : Int) : zI a + zI b = zI (a + b) := (Int32.ofInt_add a b).symm
theorem zI_sub (a b : Int) : zI a - zI b = zI (a - b) := (Int32.ofInt_sub a b).symm
theorem zI_mul (a b : Int) : zI a * zI b = zI (a * b) := (Int32.ofInt_mul a b).symm
theorem zI_neg (a : Int) : -zI a = zI (-a) := (Int32.ofInt_neg a).symm
theorem lI_add (a b : Int) : lI a + lI b = lI (a + b) := (Int64.ofInt_add a b).symm
theorem lI_sub (a b : Int) : lI a - lI b = lI (a - b) := (Int64.ofInt_sub a b).symm
theorem lI_mul (a b : Int) : lI a * lI b = lI (a * b) := (Int64.ofInt_mul a b).symm
theorem zI_lt {a b : Int} (ha : -2147483648 ≤ a ∧ a ≤ 2147483647) (hb : -2147483648 ≤ b ∧ b ≤ 2147483647) : zI a < zI b ↔ a < b := by
  rw [Int32.lt_iff_toInt_lt, zI_toInt ha, zI_toInt hb]
theorem zI_le {a b : Int} (ha : -2147483648 ≤ a ∧ a ≤ 2147483647) (hb : -2147483648 ≤ b ∧ b ≤ 2147483647) : zI a ≤ zI b ↔ a ≤ b := by
  rw [Int32.le_iff_toInt_le, zI_toInt ha, zI_toInt hb]
theorem zI_eq {a b : Int} (ha : -2147483648 ≤ a ∧ a ≤ 2147483647) (hb : -2147483648 ≤ b ∧ b ≤ 2147483647) : zI a = zI b ↔ a = b := by
  constructor
  · intro h
    have h1 := zI_toInt ha
    rw [h, zI_toInt hb] at h1
    exact h1.symm
  · intro h; rw [h]
theorem lI_lt {a b : Int} (ha : -9223372036854775808 ≤ a ∧ a ≤ 9223372036854775807) (hb : -9223372036854775808 ≤ b ∧ b ≤ 9223372036854775807) : lI a < lI b ↔ a < b := by
  rw [Int64.lt_iff_toInt_lt, lI_toInt ha, lI_toInt hb]
theorem lI_le {a b : Int} (ha : -9223372036854775808 ≤ a ∧ a ≤ 9223372036854775807) (hb : -9223372036854775808 ≤ b ∧ b ≤ 9223372036854775807) : lI a ≤ lI b ↔ a ≤ b := by
  rw [Int64.le_iff_toInt_le, lI_toInt ha, lI_toInt hb]
theorem lI_eq {a b : Int} (ha : -9223372036854775808 ≤ a ∧ a ≤ 9223372036854775807) (hb : -9223372036854775808 ≤ b ∧ b ≤ 9223372036854775807) : lI a = lI b ↔ a = b := by
  constructor
  · intro h
    have h1 := lI_toInt ha
    rw [h, lI_toInt hb] at h1
    exact h1.symm
  · intro h; rw [h]
theorem zI_0 : zI 0 = 0 := rfl
theorem lI_0 : lI 0 = 0 := rfl
theorem zI_div {a b : Int} (ha : 0 ≤ a ∧ a ≤ 2147483647) (hb : 0 < b ∧ b ≤ 2147483647) : zI a / zI b = zI (a / b) := by
  apply zI_eq_of
  rw [Jvm.Kit.i32_div (by rw [zI_toInt (by omega), zI_toInt (by omega)]; omega), zI_toInt (by omega), zI_toInt (by omega)]
  exact Int.tdiv_eq_ediv_of_nonneg ha.1
theorem lI_div {a b : Int} (ha : 0 ≤ a ∧ a ≤ 9223372036854775807) (hb : 0 < b ∧ b ≤ 9223372036854775807) : lI a / lI b = lI (a / b) := by
  apply lI_eq_of
  rw [Jvm.Kit.i64_div (by rw [lI_toInt (by omega), lI_toInt (by omega)]; omega), lI_toInt (by omega), lI_toInt (by omega)]
  exact Int.tdiv_eq_ediv_of_nonneg ha.1
theorem zI_rem {a b : Int} (ha : 0 ≤ a ∧ a ≤ 2147483647) (hb : 0 < b ∧ b ≤ 2147483647) : zI a - zI a / zI b * zI b = zI (a % b) := by
  rw [zI_div ha hb, zI_mul, zI_sub, Int.emod_def, Int.mul_comm]
theorem lI_rem {a b : Int} (ha : 0 ≤ a ∧ a ≤ 9223372036854775807) (hb : 0 < b ∧ b ≤ 9223372036854775807) : lI a - lI a / lI b * lI b = lI (a % b) := by
  rw [lI_div ha hb, lI_mul, lI_sub, Int.emod_def, Int.mul_comm]
theorem zI_l (a : Int) (h : -2147483648 ≤ a ∧ a ≤ 2147483647) : (zI a).toInt64 = lI a := by
  apply lI_eq_of
  rw [Int32.toInt_toInt64, zI_toInt h]
theorem lI_i (a : Int) : (lI a).toInt32 = zI a := by
  first | exact Int64.toInt32_ofInt a | (unfold lI zI; simp) 
theorem zI_b {a : Int} (h : -128 ≤ a ∧ a ≤ 127) : (zI a).toInt8.toInt32 = zI a := by
  apply zI_eq_of
  rw [Int8.toInt_toInt32, Int32.toInt_toInt8, zI_toInt (by omega)]
  rw [Int.bmod_def]; omega
theorem zI_c {a : Int} (h : 0 ≤ a ∧ a ≤ 65535) : ((zI a).toUInt32 % 65536).toInt32 = zI a :=
  lg_i2c_word (by rw [zI_toInt (by omega)]; exact h.1) (by rw [zI_toInt (by omega)]; omega)
theorem zI_nb {a : Int} (h : -128 ≤ a ∧ a ≤ 127) : vp_nar .byte (zI a) = zI a := by rw [vp_nar_byte, zI_b h]
theorem zI_nc {a : Int} (h : 0 ≤ a ∧ a ≤ 65535) : vp_nar .char (zI a) = zI a := by
  rw [vp_nar_char, ← lg_i2c_nf, zI_c h]
theorem zI_in {z : Int} {n : Nat} (h : 0 ≤ z ∧ z < (n : Int)) (hn : n ≤ 2147483647) : vp_in (zI z) n := by
  rw [vp_in_iff, zI_toInt (by omega)]; exact h
theorem zI_cl {z : Int} (h : 0 ≤ z ∧ z ≤ 2147483647) : (zI z).toNatClampNeg = z.toNat := by
  have h1 : (zI z).toNatClampNeg = (zI z).toInt.toNat := rfl
  rw [h1, zI_toInt (by omega)]
theorem zI_nI (n : Nat) : zI (n : Int) = nI n := by
  unfold zI nI
  first | exact Int32.ofInt_eq_ofNat | rfl | simp
/-- a row of numbers by its Ints -/
def zA (r : Nat → Int) : Nat → Int32 := fun j => zI (r j)
def zu (r : Nat → Int) (k : Nat) (v : Int) : Nat → Int := fun j => if j = k then v else r j
theorem zu_s (r : Nat → Int) (k : Nat) (v : Int) : zu r k v k = v := if_pos rfl
theorem zu_n (r : Nat → Int) {k j : Nat} (v : Int) (h : j ≠ k) : zu r k v j = r j := if_neg h
theorem zA_upd (r : Nat → Int) (k : Nat) (v : Int) : upd (zA r) k (zI v) = zA (zu r k v) := by
  funext j
  unfold upd zA zu
  by_cases h : j = k
  · simp only [if_pos h]
  · simp only [if_neg h]
theorem lg_cmp_z (a b : Int) (ha : -9223372036854775808 ≤ a ∧ a ≤ 9223372036854775807) (hb : -9223372036854775808 ≤ b ∧ b ≤ 9223372036854775807) : lg_cmp (lI a) (lI b) = zI (if b < a then 1 else if a = b then 0 else -1) := by
  unfold lg_cmp
  have h1 : (lI a > lI b) ↔ b < a := lI_lt hb ha
  have h2 := lI_eq ha hb
  by_cases h3 : b < a
  · rw [if_pos (h1.mpr h3), if_pos h3]; rfl
  · rw [if_neg (fun h => h3 (h1.mp h)), if_neg h3]
    by_cases h4 : a = b
    · rw [if_pos (h2.mpr h4), if_pos h4]; rfl
    · rw [if_neg (fun h => h4 (h2.mp h)), if_neg h4]; rfl
/-- the one word of the tables that isn't among a method's words: Worth reads DecimalText's own exponentField -/
def zN (U : State) : Prop := va_Nw (.methodLinkNest RX1 28 yX2_exponentField "DecimalText") U
/-- what a world is in one word: the tables, the cells, that they are apart, what has changed, the nest's word -/
def zW (D : va_G) (tys : List (ClassId × FieldType)) (A : Nat → Prop) (s : State) (ws : va_W) (H : Heap) (locs : List Loc) : Prop :=
  va_K D vwCl tys s ∧ va_P D vwCl ws H ∧ va_D A ws ∧ va_S A s.heap H locs ∧ (∀ q : Nat, s.heap.size ≤ q → A q) ∧ zN s
section ZR
variable {p : Program} {l : Launch} {e : Env} {R : Room} {s : State} {m : MethodId} {args : Array Value} {below : List Frame} {meth : Method} {c : Code} {H : Heap} {locs : List Loc} {cells slots : Nat} {Q : State → Prop} {cc : ByteArray} {nL : Nat} {Ts : List Cond} {own : String} {pc : Nat} {ls : Array Slot} {rest : List Value}
theorem z_iconst (S : CallFix p m c cc nL s args Ts own) {n : Int} (hdg : decode cc pc = .ok (.iconst n, 1))  (k : W p l e R s m args below meth c H locs cells slots Q (F0 m (pc + 1) ls (.int (zI n) :: rest))) : W p l e R s m args below meth c H locs cells slots Q (F0 m pc ls (rest)) := lv_iconst S.1 S.2.1 hdg rfl k
theorem z_bipush (S : CallFix p m c cc nL s args Ts own) {n : Int} (hdg : decode cc pc = .ok (.bipush n, 2)) (hv : (Int8.ofInt n).toInt32 = zI n) (k : W p l e R s m args below meth c H locs cells slots Q (F0 m (pc + 2) ls (.int (zI n) :: rest))) : W p l e R s m args below meth c H locs cells slots Q (F0 m pc ls (rest)) := lv_bipush S.1 S.2.1 hdg hv k
theorem z_sipush (S : CallFix p m c cc nL s args Ts own) {n : Int} (hdg : decode cc pc = .ok (.sipush n, 3)) (hv : (Int16.ofInt n).toInt32 = zI n) (k : W p l e R s m args below meth c H locs cells slots Q (F0 m (pc + 3) ls (.int (zI n) :: rest))) : W p l e R s m args below meth c H locs cells slots Q (F0 m pc ls (rest)) := lv_sipush S.1 S.2.1 hdg hv k
theorem z_lconst (S : CallFix p m c cc nL s args Ts own) {n : Fin 2} {z : Int} (hdg : decode cc pc = .ok (.lconst n, 1)) (hv : Int64.ofNat (n : Nat) = lI z) (k : W p l e R s m args below meth c H locs cells slots Q (F0 m (pc + 1) ls (.long (lI z) :: rest))) : W p l e R s m args below meth c H locs cells slots Q (F0 m pc ls (rest)) := lv_lconst S.1 S.2.1 hdg hv k
theorem z_ldc (S : CallFix p m c cc nL s args Ts own) {index : Nat} {v : Int32} (z : Int) (hm : Cond.constant own index v ∈ Ts) (hv : v = zI z) (hdg : decode cc pc = .ok (.ldc index, 2)) (k : W p l e R s m args below meth c H locs cells slots Q (F0 m (pc + 2) ls (.int (zI z) :: rest))) : W p l e R s m args below meth c H locs cells slots Q (F0 m pc ls rest) := lv_ldc S.1 S.2.1 S.2.2.2.1 (S.2.2.2.2 _ hm) hdg (by rw [hv]; exact k)
theorem z_ldc2 (S : CallFix p m c cc nL s args Ts own) {index : Nat} {v : Int64} (z : Int) (hm : Cond.constantLong own index v ∈ Ts) (hv : v = lI z) (hdg : decode cc pc = .ok (.ldc2_w index, 3)) (k : W p l e R s m args below meth c H locs cells slots Q (F0 m (pc + 3) ls (.long (lI z) :: rest))) : W p l e R s m args below meth c H locs cells slots Q (F0 m pc ls rest) := lv_ldc2 S.1 S.2.1 S.2.2.2.1 (S.2.2.2.2 _ hm) hdg (by rw [hv]; exact k)
theorem z_iadd (S : CallFix p m c cc nL s args Ts own) {a b : Int} (hdg : decode cc pc = .ok (.iadd, 1))  (k : W p l e R s m args below meth c H locs cells slots Q (F0 m (pc + 1) ls (.int (zI (a + b)) :: rest))) : W p l e R s m args below meth c H locs cells slots Q (F0 m pc ls (.int (zI b) :: .int (zI a) :: rest)) := lv_iadd S.1 S.2.1 hdg (by rw [zI_add]; exact k)
theorem z_isub (S : CallFix p m c cc nL s args Ts own) {a b : Int} (hdg : decode cc pc = .ok (.isub, 1))  (k : W p l e R s m args below meth c H locs cells slots Q (F0 m (pc + 1) ls (.int (zI (a - b)) :: rest))) : W p l e R s m args below meth c H locs cells slots Q (F0 m pc ls (.int (zI b) :: .int (zI a) :: rest)) := lv_isub S.1 S.2.1 hdg (by rw [zI_sub]; exact k)
theorem z_imul (S : CallFix p m c cc nL s args Ts own) {a b : Int} (hdg : decode cc pc = .ok (.imul, 1))  (k : W p l e R s m args below meth c H locs cells slots Q (F0 m (pc + 1) ls (.int (zI (a * b)) :: rest))) : W p l e R s m args below meth c H locs cells slots Q (F0 m pc ls (.int (zI b) :: .int (zI a) :: rest)) := lv_imul S.1 S.2.1 hdg (by rw [zI_mul]; exact k)
theorem z_ladd (S : CallFix p m c cc nL s args Ts own) {a b : Int} (hdg : decode cc pc = .ok (.ladd, 1))  (k : W p l e R s m args below meth c H locs cells slots Q (F0 m (pc + 1) ls (.long (lI (a + b)) :: rest))) : W p l e R s m args below meth c H locs cells slots Q (F0 m pc ls (.long (lI b) :: .long (lI a) :: rest)) := lv_ladd S.1 S.2.1 hdg (by rw [lI_add]; exact k)
theorem z_lsub (S : CallFix p m c cc nL s args Ts own) {a b : Int} (hdg : decode cc pc = .ok (.lsub, 1))  (k : W p l e R s m args below meth c H locs cells slots Q (F0 m (pc + 1) ls (.long (lI (a - b)) :: rest))) : W p l e R s m args below meth c H locs cells slots Q (F0 m pc ls (.long (lI b) :: .long (lI a) :: rest)) := lv_lsub S.1 S.2.1 hdg (by rw [lI_sub]; exact k)
theorem z_lmul (S : CallFix p m c cc nL s args Ts own) {a b : Int} (hdg : decode cc pc = .ok (.lmul, 1))  (k : W p l e R s m args below meth c H locs cells slots Q (F0 m (pc + 1) ls (.long (lI (a * b)) :: rest))) : W p l e R s m args below meth c H locs cells slots Q (F0 m pc ls (.long (lI b) :: .long (lI a) :: rest)) := lv_lmul S.1 S.2.1 hdg (by rw [lI_mul]; exact k)
theorem z_ineg (S : CallFix p m c cc nL s args Ts own) {a : Int} (hdg : decode cc pc = .ok (.ineg, 1))  (k : W p l e R s m args below meth c H locs cells slots Q (F0 m (pc + 1) ls (.int (zI (-a)) :: rest))) : W p l e R s m args below meth c H locs cells slots Q (F0 m pc ls (.int (zI a) :: rest)) := lv_ineg S.1 S.2.1 hdg (by rw [zI_neg]; exact k)
theorem z_idiv (S : CallFix p m c cc nL s args Ts own) {a b : Int} (hdg : decode cc pc = .ok (.idiv, 1)) (ha : 0 ≤ a ∧ a ≤ 2147483647) (hb : 0 < b ∧ b ≤ 2147483647) (k : W p l e R s m args below meth c H locs cells slots Q (F0 m (pc + 1) ls (.int (zI (a / b)) :: rest))) : W p l e R s m args below meth c H locs cells slots Q (F0 m pc ls (.int (zI b) :: .int (zI a) :: rest)) := lv_idiv S.1 S.2.1 hdg (fun h => by have := (zI_eq (by omega) (by omega)).mp (h.trans zI_0.symm); omega) (by rw [zI_div ha hb]; exact k)
theorem z_irem (S : CallFix p m c cc nL s args Ts own) {a b : Int} (hdg : decode cc pc = .ok (.irem, 1)) (ha : 0 ≤ a ∧ a ≤ 2147483647) (hb : 0 < b ∧ b ≤ 2147483647) (k : W p l e R s m args below meth c H locs cells slots Q (F0 m (pc + 1) ls (.int (zI (a % b)) :: rest))) : W p l e R s m args below meth c H locs cells slots Q (F0 m pc ls (.int (zI b) :: .int (zI a) :: rest)) := lv_irem S.1 S.2.1 hdg (fun h => by have := (zI_eq (by omega) (by omega)).mp (h.trans zI_0.symm); omega) (by rw [zI_rem ha hb]; exact k)
theorem z_ldiv (S : CallFix p m c cc nL s args Ts own) {a b : Int} (hdg : decode cc pc = .ok (.ldiv, 1)) (ha : 0 ≤ a ∧ a ≤ 9223372036854775807) (hb : 0 < b ∧ b ≤ 9223372036854775807) (k : W p l e R s m args below meth c H locs cells slots Q (F0 m (pc + 1) ls (.long (lI (a / b)) :: rest))) : W p l e R s m args below meth c H locs cells slots Q (F0 m pc ls (.long (lI b) :: .long (lI a) :: rest)) := lv_ldiv S.1 S.2.1 hdg (fun h => by have := (lI_eq (by omega) (by omega)).mp (h.trans lI_0.symm); omega) (by rw [lI_div ha hb]; exact k)
theorem z_lrem (S : CallFix p m c cc nL s args Ts own) {a b : Int} (hdg : decode cc pc = .ok (.lrem, 1)) (ha : 0 ≤ a ∧ a ≤ 9223372036854775807) (hb : 0 < b ∧ b ≤ 9223372036854775807) (k : W p l e R s m args below meth c H locs cells slots Q (F0 m (pc + 1) ls (.long (lI (a % b)) :: rest))) : W p l e R s m args below meth c H locs cells slots Q (F0 m pc ls (.long (lI b) :: .long (lI a) :: rest)) := lv_lrem S.1 S.2.1 hdg (fun h => by have := (lI_eq (by omega) (by omega)).mp (h.trans lI_0.symm); omega) (by rw [lI_rem ha hb]; exact k)
theorem z_i2l (S : CallFix p m c cc nL s args Ts own) {a : Int} (hdg : decode cc pc = .ok (.i2l, 1)) (ha : -2147483648 ≤ a ∧ a ≤ 2147483647) (k : W p l e R s m args below meth c H locs cells slots Q (F0 m (pc + 1) ls (.long (lI a) :: rest))) : W p l e R s m args below meth c H locs cells slots Q (F0 m pc ls (.int (zI a) :: rest)) := lv_i2l S.1 S.2.1 hdg (zI_l a ha) k
theorem z_l2i (S : CallFix p m c cc nL s args Ts own) {a : Int} (hdg : decode cc pc = .ok (.l2i, 1))  (k : W p l e R s m args below meth c H locs cells slots Q (F0 m (pc + 1) ls (.int (zI a) :: rest))) : W p l e R s m args below meth c H locs cells slots Q (F0 m pc ls (.long (lI a) :: rest)) := lv_l2i S.1 S.2.1 hdg (lI_i a) k
theorem z_i2b (S : CallFix p m c cc nL s args Ts own) {a : Int} (hdg : decode cc pc = .ok (.i2b, 1)) (ha : -128 ≤ a ∧ a ≤ 127) (k : W p l e R s m args below meth c H locs cells slots Q (F0 m (pc + 1) ls (.int (zI a) :: rest))) : W p l e R s m args below meth c H locs cells slots Q (F0 m pc ls (.int (zI a) :: rest)) := lv_i2b S.1 S.2.1 hdg (zI_b ha) k
theorem z_i2c (S : CallFix p m c cc nL s args Ts own) {a : Int} (hdg : decode cc pc = .ok (.i2c, 1)) (ha : 0 ≤ a ∧ a ≤ 65535) (k : W p l e R s m args below meth c H locs cells slots Q (F0 m (pc + 1) ls (.int (zI a) :: rest))) : W p l e R s m args below meth c H locs cells slots Q (F0 m pc ls (.int (zI a) :: rest)) := lv_i2c S.1 S.2.1 hdg (zI_c ha) k
theorem z_lcmp (S : CallFix p m c cc nL s args Ts own) {a b : Int} (hdg : decode cc pc = .ok (.lcmp, 1)) (ha : -9223372036854775808 ≤ a ∧ a ≤ 9223372036854775807) (hb : -9223372036854775808 ≤ b ∧ b ≤ 9223372036854775807) (k : ∀ z : Int, ((z = 1 ∧ b < a) ∨ (z = 0 ∧ a = b) ∨ (z = -1 ∧ a < b)) → W p l e R s m args below meth c H locs cells slots Q (F0 m (pc + 1) ls (.int (zI z) :: rest))) : W p l e R s m args below meth c H locs cells slots Q (F0 m pc ls (.long (lI b) :: .long (lI a) :: rest)) := W.lcmp S.1 S.2.1 hdg (by
  rw [lg_cmp_z a b ha hb]
  apply k
  by_cases h1 : b < a
  · rw [if_pos h1]; exact Or.inl ⟨rfl, h1⟩
  · rw [if_neg h1]
    by_cases h2 : a = b
    · rw [if_pos h2]; exact Or.inr (Or.inl ⟨rfl, h2⟩)
    · rw [if_neg h2]; exact Or.inr (Or.inr ⟨rfl, by omega⟩))
theorem z_icmp_eq (S : CallFix p m c cc nL s args Ts own) {a b : Int} {off : Int} {tgt : Nat} (hdg : decode cc pc = .ok (.if_icmp .eq off, 3)) (ht : (pc : Int) + off = (tgt : Int)) (ha : -2147483648 ≤ a ∧ a ≤ 2147483647) (hb : -2147483648 ≤ b ∧ b ≤ 2147483647) (kt : a = b → W p l e R s m args below meth c H locs cells slots Q (F0 m tgt ls rest)) (kf : a ≠ b → W p l e R s m args below meth c H locs cells slots Q (F0 m (pc + 3) ls rest)) : W p l e R s m args below meth c H locs cells slots Q (F0 m pc ls (.int (zI b) :: .int (zI a) :: rest)) := lv_icmp_eq S.1 S.2.1 hdg ht (fun h => kt ((zI_eq ha hb).mp h)) (fun h => kf (fun q => h ((zI_eq ha hb).mpr q)))
theorem z_if_eq (S : CallFix p m c cc nL s args Ts own) {a : Int} {off : Int} {tgt : Nat} (hdg : decode cc pc = .ok (.ifCond .eq off, 3)) (ht : (pc : Int) + off = (tgt : Int)) (ha : -2147483648 ≤ a ∧ a ≤ 2147483647) (kt : a = 0 → W p l e R s m args below meth c H locs cells slots Q (F0 m tgt ls rest)) (kf : a ≠ 0 → W p l e R s m args below meth c H locs cells slots Q (F0 m (pc + 3) ls rest)) : W p l e R s m args below meth c H locs cells slots Q (F0 m pc ls (.int (zI a) :: rest)) := by
  have hb : (-2147483648 : Int) ≤ 0 ∧ (0 : Int) ≤ 2147483647 := by omega
  have kk : W p l e R s m args below meth c H locs cells slots Q (F0 m pc ls (.int (zI a) :: rest)) := lv_if_eq S.1 S.2.1 hdg ht (fun h => kt ((zI_eq ha hb).mp h)) (fun h => kf (fun q => h ((zI_eq ha hb).mpr q)))
  exact kk
theorem z_icmp_ne (S : CallFix p m c cc nL s args Ts own) {a b : Int} {off : Int} {tgt : Nat} (hdg : decode cc pc = .ok (.if_icmp .ne off, 3)) (ht : (pc : Int) + off = (tgt : Int)) (ha : -2147483648 ≤ a ∧ a ≤ 2147483647) (hb : -2147483648 ≤ b ∧ b ≤ 2147483647) (kt : a ≠ b → W p l e R s m args below meth c H locs cells slots Q (F0 m tgt ls rest)) (kf : a = b → W p l e R s m args below meth c H locs cells slots Q (F0 m (pc + 3) ls rest)) : W p l e R s m args below meth c H locs cells slots Q (F0 m pc ls (.int (zI b) :: .int (zI a) :: rest)) := lv_icmp_ne S.1 S.2.1 hdg ht (fun h => kt (fun q => h ((zI_eq ha hb).mpr q))) (fun h => kf ((zI_eq ha hb).mp h))
theorem z_if_ne (S : CallFix p m c cc nL s args Ts own) {a : Int} {off : Int} {tgt : Nat} (hdg : decode cc pc = .ok (.ifCond .ne off, 3)) (ht : (pc : Int) + off = (tgt : Int)) (ha : -2147483648 ≤ a ∧ a ≤ 2147483647) (kt : a ≠ 0 → W p l e R s m args below meth c H locs cells slots Q (F0 m tgt ls rest)) (kf : a = 0 → W p l e R s m args below meth c H locs cells slots Q (F0 m (pc + 3) ls rest)) : W p l e R s m args below meth c H locs cells slots Q (F0 m pc ls (.int (zI a) :: rest)) := by
  have hb : (-2147483648 : Int) ≤ 0 ∧ (0 : Int) ≤ 2147483647 := by omega
  have kk : W p l e R s m args below meth c H locs cells slots Q (F0 m pc ls (.int (zI a) :: rest)) := lv_if_ne S.1 S.2.1 hdg ht (fun h => kt (fun q => h ((zI_eq ha hb).mpr q))) (fun h => kf ((zI_eq ha hb).mp h))
  exact kk
theorem z_icmp_lt (S : CallFix p m c cc nL s args Ts own) {a b : Int} {off : Int} {tgt : Nat} (hdg : decode cc pc = .ok (.if_icmp .lt off, 3)) (ht : (pc : Int) + off = (tgt : Int)) (ha : -2147483648 ≤ a ∧ a ≤ 2147483647) (hb : -2147483648 ≤ b ∧ b ≤ 2147483647) (kt : a < b → W p l e R s m args below meth c H locs cells slots Q (F0 m tgt ls rest)) (kf : b ≤ a → W p l e R s m args below meth c H locs cells slots Q (F0 m (pc + 3) ls rest)) : W p l e R s m args below meth c H locs cells slots Q (F0 m pc ls (.int (zI b) :: .int (zI a) :: rest)) := lv_icmp_lt S.1 S.2.1 hdg ht (fun h => kt ((zI_lt ha hb).mp h)) (fun h => kf (Int.not_lt.mp (fun q => h ((zI_lt ha hb).mpr q))))
theorem z_if_lt (S : CallFix p m c cc nL s args Ts own) {a : Int} {off : Int} {tgt : Nat} (hdg : decode cc pc = .ok (.ifCond .lt off, 3)) (ht : (pc : Int) + off = (tgt : Int)) (ha : -2147483648 ≤ a ∧ a ≤ 2147483647) (kt : a < 0 → W p l e R s m args below meth c H locs cells slots Q (F0 m tgt ls rest)) (kf : 0 ≤ a → W p l e R s m args below meth c H locs cells slots Q (F0 m (pc + 3) ls rest)) : W p l e R s m args below meth c H locs cells slots Q (F0 m pc ls (.int (zI a) :: rest)) := by
  have hb : (-2147483648 : Int) ≤ 0 ∧ (0 : Int) ≤ 2147483647 := by omega
  have kk : W p l e R s m args below meth c H locs cells slots Q (F0 m pc ls (.int (zI a) :: rest)) := lv_if_lt S.1 S.2.1 hdg ht (fun h => kt ((zI_lt ha hb).mp h)) (fun h => kf (Int.not_lt.mp (fun q => h ((zI_lt ha hb).mpr q))))
  exact kk
theorem z_icmp_ge (S : CallFix p m c cc nL s args Ts own) {a b : Int} {off : Int} {tgt : Nat} (hdg : decode cc pc = .ok (.if_icmp .ge off, 3)) (ht : (pc : Int) + off = (tgt : Int)) (ha : -2147483648 ≤ a ∧ a ≤ 2147483647) (hb : -2147483648 ≤ b ∧ b ≤ 2147483647) (kt : b ≤ a → W p l e R s m args below meth c H locs cells slots Q (F0 m tgt ls rest)) (kf : a < b → W p l e R s m args below meth c H locs cells slots Q (F0 m (pc + 3) ls rest)) : W p l e R s m args below meth c H locs cells slots Q (F0 m pc ls (.int (zI b) :: .int (zI a) :: rest)) := lv_icmp_ge S.1 S.2.1 hdg ht (fun h => kt ((zI_le hb ha).mp h)) (fun h => kf (Int.not_le.mp (fun q => h ((zI_le hb ha).mpr q))))
theorem z_if_ge (S : CallFix p m c cc nL s args Ts own) {a : Int} {off : Int} {tgt : Nat} (hdg : decode cc pc = .ok (.ifCond .ge off, 3)) (ht : (pc : Int) + off = (tgt : Int)) (ha : -2147483648 ≤ a ∧ a ≤ 2147483647) (kt : 0 ≤ a → W p l e R s m args below meth c H locs cells slots Q (F0 m tgt ls rest)) (kf : a < 0 → W p l e R s m args below meth c H locs cells slots Q (F0 m (pc + 3) ls rest)) : W p l e R s m args below meth c H locs cells slots Q (F0 m pc ls (.int (zI a) :: rest)) := by
  have hb : (-2147483648 : Int) ≤ 0 ∧ (0 : Int) ≤ 2147483647 := by omega
  have kk : W p l e R s m args below meth c H locs cells slots Q (F0 m pc ls (.int (zI a) :: rest)) := lv_if_ge S.1 S.2.1 hdg ht (fun h => kt ((zI_le hb ha).mp h)) (fun h => kf (Int.not_le.mp (fun q => h ((zI_le hb ha).mpr q))))
  exact kk
theorem z_icmp_gt (S : CallFix p m c cc nL s args Ts own) {a b : Int} {off : Int} {tgt : Nat} (hdg : decode cc pc = .ok (.if_icmp .gt off, 3)) (ht : (pc : Int) + off = (tgt : Int)) (ha : -2147483648 ≤ a ∧ a ≤ 2147483647) (hb : -2147483648 ≤ b ∧ b ≤ 2147483647) (kt : b < a → W p l e R s m args below meth c H locs cells slots Q (F0 m tgt ls rest)) (kf : a ≤ b → W p l e R s m args below meth c H locs cells slots Q (F0 m (pc + 3) ls rest)) : W p l e R s m args below meth c H locs cells slots Q (F0 m pc ls (.int (zI b) :: .int (zI a) :: rest)) := lv_icmp_gt S.1 S.2.1 hdg ht (fun h => kt ((zI_lt hb ha).mp h)) (fun h => kf (Int.not_lt.mp (fun q => h ((zI_lt hb ha).mpr q))))
theorem z_if_gt (S : CallFix p m c cc nL s args Ts own) {a : Int} {off : Int} {tgt : Nat} (hdg : decode cc pc = .ok (.ifCond .gt off, 3)) (ht : (pc : Int) + off = (tgt : Int)) (ha : -2147483648 ≤ a ∧ a ≤ 2147483647) (kt : 0 < a → W p l e R s m args below meth c H locs cells slots Q (F0 m tgt ls rest)) (kf : a ≤ 0 → W p l e R s m args below meth c H locs cells slots Q (F0 m (pc + 3) ls rest)) : W p l e R s m args below meth c H locs cells slots Q (F0 m pc ls (.int (zI a) :: rest)) := by
  have hb : (-2147483648 : Int) ≤ 0 ∧ (0 : Int) ≤ 2147483647 := by omega
  have kk : W p l e R s m args below meth c H locs cells slots Q (F0 m pc ls (.int (zI a) :: rest)) := lv_if_gt S.1 S.2.1 hdg ht (fun h => kt ((zI_lt hb ha).mp h)) (fun h => kf (Int.not_lt.mp (fun q => h ((zI_lt hb ha).mpr q))))
  exact kk
theorem z_icmp_le (S : CallFix p m c cc nL s args Ts own) {a b : Int} {off : Int} {tgt : Nat} (hdg : decode cc pc = .ok (.if_icmp .le off, 3)) (ht : (pc : Int) + off = (tgt : Int)) (ha : -2147483648 ≤ a ∧ a ≤ 2147483647) (hb : -2147483648 ≤ b ∧ b ≤ 2147483647) (kt : a ≤ b → W p l e R s m args below meth c H locs cells slots Q (F0 m tgt ls rest)) (kf : b < a → W p l e R s m args below meth c H locs cells slots Q (F0 m (pc + 3) ls rest)) : W p l e R s m args below meth c H locs cells slots Q (F0 m pc ls (.int (zI b) :: .int (zI a) :: rest)) := lv_icmp_le S.1 S.2.1 hdg ht (fun h => kt ((zI_le ha hb).mp h)) (fun h => kf (Int.not_le.mp (fun q => h ((zI_le ha hb).mpr q))))
theorem z_if_le (S : CallFix p m c cc nL s args Ts own) {a : Int} {off : Int} {tgt : Nat} (hdg : decode cc pc = .ok (.ifCond .le off, 3)) (ht : (pc : Int) + off = (tgt : Int)) (ha : -2147483648 ≤ a ∧ a ≤ 2147483647) (kt : a ≤ 0 → W p l e R s m args below meth c H locs cells slots Q (F0 m tgt ls rest)) (kf : 0 < a → W p l e R s m args below meth c H locs cells slots Q (F0 m (pc + 3) ls rest)) : W p l e R s m args below meth c H locs cells slots Q (F0 m pc ls (.int (zI a) :: rest)) := by
  have hb : (-2147483648 : Int) ≤ 0 ∧ (0 : Int) ≤ 2147483647 := by omega
  have kk : W p l e R s m args below meth c H locs cells slots Q (F0 m pc ls (.int (zI a) :: rest)) := lv_if_le S.1 S.2.1 hdg ht (fun h => kt ((zI_le ha hb).mp h)) (fun h => kf (Int.not_le.mp (fun q => h ((zI_le ha hb).mpr q))))
  exact kk
variable {D : va_G} {tys : List (ClassId × FieldType)} {A : Nat → Prop} {ws : va_W} {a : Nat}
theorem z_get (S : CallFix p m c cc nL s args Ts own) (w : zW D tys A s ws H locs) (q0 : Nat) {ci : Nat} {fs : List Value} {C ref : String} {T : u_T} {N index : Nat} (he : ws[q0]? = some (a, .inr (ci, fs))) (hc : vwCl[ci]? = some (C, T, N)) (hin : ∀ w ∈ u_ws C T N, w ∈ Ts) (k : Nat) (hk : k < N) (hl : Cond.fieldLink own index ref (T k).2.1 (T k).2.2.1 ∈ Ts) (hr : (T k).1 = ref) {v : Value} (hv : fs[k]? = some v) (hdg : decode cc pc = .ok (.getfield index, 3)) (kk : W p l e R s m args below meth c H locs cells slots Q (F0 m (pc + 3) ls (v :: rest))) : W p l e R s m args below meth c H locs cells slots Q (F0 m pc ls (.ref a :: rest)) := va_get S.1 S.2.1 S.2.2.2.2 hin S.2.2.2.1 w.1 w.2.1 q0 he hc k hk (S.2.2.2.2 _ hl) (fun _ h => hr ▸ h) hv hdg kk
theorem z_put (S : CallFix p m c cc nL s args Ts own) (w : zW D tys A s ws H locs) (q0 : Nat) {ci : Nat} {fs : List Value} {C ref : String} {T : u_T} {N index : Nat} (he : ws[q0]? = some (a, .inr (ci, fs))) (hc : vwCl[ci]? = some (C, T, N)) (hin : ∀ w ∈ u_ws C T N, w ∈ Ts) {ty0 : Nat → FieldType} (hty : ∀ k, k < N → parseFieldDescriptor (T k).2.2.1 = some (ty0 k)) (hnm : ∀ a, a < N → ∀ b, b < N → a ≠ b → (T a).2.1 ≠ (T b).2.1) (k : Nat) (hk : k < N) (hl : Cond.fieldLink own index ref (T k).2.1 (T k).2.2.1 ∈ Ts) (hr : (T k).1 = ref) (hfin : (T k).2.2.2 = false) {v : Value} (hn : narrow (ty0 k) v = v) (hfit : fits (ty0 k) v = true) (hl2 : k < fs.length) (hdg : decode cc pc = .ok (.putfield index, 3)) (kk : ∀ (H : Heap) (locs : List Loc), zW D tys A s (ws.set q0 (a, .inr (ci, fs.set k v))) H locs → W p l e R s m args below meth c H locs cells slots Q (F0 m (pc + 3) ls rest)) : W p l e R s m args below meth c H locs cells slots Q (F0 m pc ls (v :: .ref a :: rest)) := va_put S.1 S.2.1 S.2.2.2.2 hin ty0 hty hnm S.2.2.2.1 w.1 w.2.1 w.2.2.1 w.2.2.2.1 q0 he hc k hk (S.2.2.2.2 _ hl) (fun _ h => hr ▸ h) hfin (hty k hk) hn hfit hl2 hdg (fun H1 l1 h1 h2 h3 => kk H1 l1 ⟨w.1, h1, h2, h3, w.2.2.2.2⟩)
theorem z_putF (S : CallFix p m c cc nL s args Ts own) (w : zW D tys A s ws H locs) (q0 : Nat) {ci : Nat} {fs : List Value} {C ref : String} {T : u_T} {N index : Nat} (he : ws[q0]? = some (a, .inr (ci, fs))) (hc : vwCl[ci]? = some (C, T, N)) (hin : ∀ w ∈ u_ws C T N, w ∈ Ts) {ty0 : Nat → FieldType} (hty : ∀ k, k < N → parseFieldDescriptor (T k).2.2.1 = some (ty0 k)) (hnm : ∀ a, a < N → ∀ b, b < N → a ≠ b → (T a).2.1 ≠ (T b).2.1) (k : Nat) (hk : k < N) (hl : Cond.fieldLink own index ref (T k).2.1 (T k).2.2.1 ∈ Ts) (hr : (T k).1 = ref) (hfin : (T k).2.2.2 = true) (hin2 : meth.name = "<init>") (hdecl : (T k).1 = own) {v : Value} (hn : narrow (ty0 k) v = v) (hfit : fits (ty0 k) v = true) (hl2 : k < fs.length) (hdg : decode cc pc = .ok (.putfield index, 3)) (kk : ∀ (H : Heap) (locs : List Loc), zW D tys A s (ws.set q0 (a, .inr (ci, fs.set k v))) H locs → W p l e R s m args below meth c H locs cells slots Q (F0 m (pc + 3) ls rest)) : W p l e R s m args below meth c H locs cells slots Q (F0 m pc ls (v :: .ref a :: rest)) := va_putF S.1 S.2.1 S.2.2.2.2 hin ty0 hty hnm S.2.2.2.1 w.1 w.2.1 w.2.2.1 w.2.2.2.1 q0 he hc k hk (S.2.2.2.2 _ hl) (fun _ h => hr ▸ h) hfin hin2 hdecl (hty k hk) hn hfit hl2 hdg (fun H1 l1 h1 h2 h3 => kk H1 l1 ⟨w.1, h1, h2, h3, w.2.2.2.2⟩)
theorem z_iald (S : CallFix p m c cc nL s args Ts own) (w : zW D tys A s ws H locs) (q0 t0 : Nat) {cA : ClassId} {n : Nat} {r : Nat → Int} (ha : ws[q0]? = some (a, .inl (cA, n, .inl (zA r)))) (ht : tys[t0]? = some (cA, .int)) {i : Int} (hi : 0 ≤ i ∧ i < (n : Int)) (hn : n ≤ 2147483647) (hdg : decode cc pc = .ok (.iaload, 1)) (kk : W p l e R s m args below meth c H locs cells slots Q (F0 m (pc + 1) ls (.int (zI (r i.toNat)) :: rest))) : W p l e R s m args below meth c H locs cells slots Q (F0 m pc ls (.int (zI i) :: .ref a :: rest)) := va_iald S.1 S.2.1 w.1 w.2.1 q0 t0 ha ht (zI_in hi hn) hdg (by rw [zI_cl (by omega)]; exact kk)
theorem z_bald (S : CallFix p m c cc nL s args Ts own) (w : zW D tys A s ws H locs) (q0 t0 : Nat) {cA : ClassId} {n : Nat} {r : Nat → Int} (ha : ws[q0]? = some (a, .inl (cA, n, .inl (zA r)))) (ht : tys[t0]? = some (cA, .byte)) {i : Int} (hi : 0 ≤ i ∧ i < (n : Int)) (hn : n ≤ 2147483647) (hdg : decode cc pc = .ok (.baload, 1)) (kk : W p l e R s m args below meth c H locs cells slots Q (F0 m (pc + 1) ls (.int (zI (r i.toNat)) :: rest))) : W p l e R s m args below meth c H locs cells slots Q (F0 m pc ls (.int (zI i) :: .ref a :: rest)) := va_bald S.1 S.2.1 w.1 w.2.1 q0 t0 ha ht (zI_in hi hn) hdg (by rw [zI_cl (by omega)]; exact kk)
theorem z_cald (S : CallFix p m c cc nL s args Ts own) (w : zW D tys A s ws H locs) (q0 t0 : Nat) {cA : ClassId} {n : Nat} {r : Nat → Int} (ha : ws[q0]? = some (a, .inl (cA, n, .inl (zA r)))) (ht : tys[t0]? = some (cA, .char)) {i : Int} (hi : 0 ≤ i ∧ i < (n : Int)) (hn : n ≤ 2147483647) (hdg : decode cc pc = .ok (.caload, 1)) (kk : W p l e R s m args below meth c H locs cells slots Q (F0 m (pc + 1) ls (.int (zI (r i.toNat)) :: rest))) : W p l e R s m args below meth c H locs cells slots Q (F0 m pc ls (.int (zI i) :: .ref a :: rest)) := va_cald S.1 S.2.1 w.1 w.2.1 q0 t0 ha ht (zI_in hi hn) hdg (by rw [zI_cl (by omega)]; exact kk)
theorem z_iast (S : CallFix p m c cc nL s args Ts own) (w : zW D tys A s ws H locs) (q0 t0 : Nat) {cA : ClassId} {n : Nat} {r : Nat → Int} (ha : ws[q0]? = some (a, .inl (cA, n, .inl (zA r)))) (ht : tys[t0]? = some (cA, .int)) {i x : Int} (hi : 0 ≤ i ∧ i < (n : Int)) (hn : n ≤ 2147483647)  (hdg : decode cc pc = .ok (.iastore, 1)) (kk : ∀ (H : Heap) (locs : List Loc), zW D tys A s (ws.set q0 (a, .inl (cA, n, .inl (zA (zu r i.toNat x))))) H locs → W p l e R s m args below meth c H locs cells slots Q (F0 m (pc + 1) ls rest)) : W p l e R s m args below meth c H locs cells slots Q (F0 m pc ls (.int (zI x) :: .int (zI i) :: .ref a :: rest)) := va_iast S.1 S.2.1 w.1 w.2.1 w.2.2.1 w.2.2.2.1 q0 t0 ha ht (zI_in hi hn) hdg (fun H1 l1 h1 h2 h3 => kk H1 l1 (by rw [zI_cl (by omega), zA_upd] at h1 h2; exact ⟨w.1, h1, h2, h3, w.2.2.2.2⟩))
theorem z_bast (S : CallFix p m c cc nL s args Ts own) (w : zW D tys A s ws H locs) (q0 t0 : Nat) {cA : ClassId} {n : Nat} {r : Nat → Int} (ha : ws[q0]? = some (a, .inl (cA, n, .inl (zA r)))) (ht : tys[t0]? = some (cA, .byte)) {i x : Int} (hi : 0 ≤ i ∧ i < (n : Int)) (hn : n ≤ 2147483647) (hx : -128 ≤ x ∧ x ≤ 127) (hdg : decode cc pc = .ok (.bastore, 1)) (kk : ∀ (H : Heap) (locs : List Loc), zW D tys A s (ws.set q0 (a, .inl (cA, n, .inl (zA (zu r i.toNat x))))) H locs → W p l e R s m args below meth c H locs cells slots Q (F0 m (pc + 1) ls rest)) : W p l e R s m args below meth c H locs cells slots Q (F0 m pc ls (.int (zI x) :: .int (zI i) :: .ref a :: rest)) := va_bast S.1 S.2.1 w.1 w.2.1 w.2.2.1 w.2.2.2.1 q0 t0 ha ht (zI_in hi hn) hdg (fun H1 l1 h1 h2 h3 => kk H1 l1 (by rw [zI_cl (by omega), zI_nb hx, zA_upd] at h1 h2; exact ⟨w.1, h1, h2, h3, w.2.2.2.2⟩))
theorem z_cast (S : CallFix p m c cc nL s args Ts own) (w : zW D tys A s ws H locs) (q0 t0 : Nat) {cA : ClassId} {n : Nat} {r : Nat → Int} (ha : ws[q0]? = some (a, .inl (cA, n, .inl (zA r)))) (ht : tys[t0]? = some (cA, .char)) {i x : Int} (hi : 0 ≤ i ∧ i < (n : Int)) (hn : n ≤ 2147483647) (hx : 0 ≤ x ∧ x ≤ 65535) (hdg : decode cc pc = .ok (.castore, 1)) (kk : ∀ (H : Heap) (locs : List Loc), zW D tys A s (ws.set q0 (a, .inl (cA, n, .inl (zA (zu r i.toNat x))))) H locs → W p l e R s m args below meth c H locs cells slots Q (F0 m (pc + 1) ls rest)) : W p l e R s m args below meth c H locs cells slots Q (F0 m pc ls (.int (zI x) :: .int (zI i) :: .ref a :: rest)) := va_cast S.1 S.2.1 w.1 w.2.1 w.2.2.1 w.2.2.2.1 q0 t0 ha ht (zI_in hi hn) hdg (fun H1 l1 h1 h2 h3 => kk H1 l1 (by rw [zI_cl (by omega), zI_nc hx, zA_upd] at h1 h2; exact ⟨w.1, h1, h2, h3, w.2.2.2.2⟩))
theorem z_alen (S : CallFix p m c cc nL s args Ts own) (w : zW D tys A s ws H locs) (q0 t0 : Nat) {cA : ClassId} {n : Nat} {x : (Nat → Int32) ⊕ (Nat → Int64) ⊕ (Nat → UInt32) ⊕ (Nat → UInt64) ⊕ (Nat → Option Nat)} (ha : ws[q0]? = some (a, .inl (cA, n, x))) {ty : FieldType} (ht : tys[t0]? = some (cA, ty)) (hdg : decode cc pc = .ok (.arraylength, 1)) (kk : W p l e R s m args below meth c H locs cells slots Q (F0 m (pc + 1) ls (.int (zI (n : Int)) :: rest))) : W p l e R s m args below meth c H locs cells slots Q (F0 m pc ls (.ref a :: rest)) := va_alen S.1 S.2.1 w.1 w.2.1 q0 t0 ha ht (zI_nI n).symm hdg kk
theorem z_iand (S : CallFix p m c cc nL s args Ts own) {a b : Int} (hdg : decode cc pc = .ok (.iand, 1)) {v : Int} (hv : zI a &&& zI b = zI v) (k : W p l e R s m args below meth c H locs cells slots Q (F0 m (pc + 1) ls (.int (zI v) :: rest))) : W p l e R s m args below meth c H locs cells slots Q (F0 m pc ls (.int (zI b) :: .int (zI a) :: rest)) := lv_iand S.1 S.2.1 hdg (by rw [hv]; exact k)
theorem z_land (S : CallFix p m c cc nL s args Ts own) {a b : Int} (hdg : decode cc pc = .ok (.land, 1)) {v : Int} (hv : lI a &&& lI b = lI v) (k : W p l e R s m args below meth c H locs cells slots Q (F0 m (pc + 1) ls (.long (lI v) :: rest))) : W p l e R s m args below meth c H locs cells slots Q (F0 m pc ls (.long (lI b) :: .long (lI a) :: rest)) := lv_land S.1 S.2.1 hdg (by rw [hv]; exact k)
theorem z_lor (S : CallFix p m c cc nL s args Ts own) {a b : Int} (hdg : decode cc pc = .ok (.lor, 1)) {v : Int} (hv : lI a ||| lI b = lI v) (k : W p l e R s m args below meth c H locs cells slots Q (F0 m (pc + 1) ls (.long (lI v) :: rest))) : W p l e R s m args below meth c H locs cells slots Q (F0 m pc ls (.long (lI b) :: .long (lI a) :: rest)) := lv_lor S.1 S.2.1 hdg (by rw [hv]; exact k)
theorem z_lushr (S : CallFix p m c cc nL s args Ts own) {a b : Int} (hdg : decode cc pc = .ok (.lushr, 1)) {v : Int} (hv : ((lI a).toUInt64 >>> ((zI b).toInt64.toUInt64 &&& Int64.toUInt64 63)).toInt64 = lI v) (k : W p l e R s m args below meth c H locs cells slots Q (F0 m (pc + 1) ls (.long (lI v) :: rest))) : W p l e R s m args below meth c H locs cells slots Q (F0 m pc ls (.int (zI b) :: .long (lI a) :: rest)) := lv_lushr S.1 S.2.1 hdg hv k
theorem z_lshr (S : CallFix p m c cc nL s args Ts own) {a b : Int} (hdg : decode cc pc = .ok (.lshr, 1)) {v : Int} (hv : lI a >>> ((zI b).toInt64 &&& 63) = lI v) (k : W p l e R s m args below meth c H locs cells slots Q (F0 m (pc + 1) ls (.long (lI v) :: rest))) : W p l e R s m args below meth c H locs cells slots Q (F0 m pc ls (.int (zI b) :: .long (lI a) :: rest)) := lv_lshr S.1 S.2.1 hdg hv k
theorem z_mmax (S : CallFix p m c cc nL s args Ts own) {index : Nat} (h1 : Cond.methodLink own index Lib.Math.max.name ∈ Ts) (h2 : Cond.static Lib.Math.max.name ∈ Ts) (h3 : Cond.initialized "java/lang/Math" ∈ Ts) (h4 : Cond.code Lib.Math.max.name Lib.Math.max.code 2 (some .int) ∈ Ts) (hsz : ls.size = nL) (hframes : 1 ≤ R.frames) (hlocals : (rest.map fun v => v.category).sum + 13 ≤ R.locals) (hc : cells ≤ R.cells) (hs : slots ≤ R.slots) {x y : Int} (hdg : decode cc pc = .ok (.invokestatic index, 3)) (hx : -2147483648 ≤ x ∧ x ≤ 2147483647) (hy : -2147483648 ≤ y ∧ y ≤ 2147483647) (kk : ∀ z : Int, ((x < y ∧ z = y) ∨ (y ≤ x ∧ z = x)) → W p l e R s m args below meth c H locs cells slots Q (F0 m (pc + 3) ls (.int (zI z) :: rest))) : W p l e R s m args below meth c H locs cells slots Q (F0 m pc ls (.int (zI y) :: .int (zI x) :: rest)) := va_mmax S.1 S.2.1 (S.2.2.1.trans hsz.symm) S.2.2.2.1 (S.2.2.2.2 _ h1) (S.2.2.2.2 _ h2) (S.2.2.2.2 _ h3) (S.2.2.2.2 _ h4) hframes hlocals hc hs hdg (by
  have e : (if zI x < zI y then zI y else zI x) = zI (if x < y then y else x) := by
    by_cases h : x < y
    · rw [if_pos h, if_pos ((zI_lt hx hy).mpr h)]
    · rw [if_neg h, if_neg (fun q => h ((zI_lt hx hy).mp q))]
  rw [e]
  apply kk
  by_cases h : x < y
  · rw [if_pos h]; exact Or.inl ⟨h, rfl⟩
  · rw [if_neg h]; exact Or.inr ⟨by omega, rfl⟩)
theorem z_mabs (S : CallFix p m c cc nL s args Ts own) {index : Nat} (h1 : Cond.methodLink own index Lib.Math.abs.name ∈ Ts) (h2 : Cond.static Lib.Math.abs.name ∈ Ts) (h3 : Cond.initialized "java/lang/Math" ∈ Ts) (h4 : Cond.code Lib.Math.abs.name Lib.Math.abs.code 1 (some .int) ∈ Ts) (hsz : ls.size = nL) (hframes : 1 ≤ R.frames) (hlocals : (rest.map fun v => v.category).sum + 13 ≤ R.locals) (hc : cells ≤ R.cells) (hs : slots ≤ R.slots) {x : Int} (hdg : decode cc pc = .ok (.invokestatic index, 3)) (hx : -2147483648 ≤ x ∧ x ≤ 2147483647) (kk : ∀ z : Int, ((0 ≤ x ∧ z = x) ∨ (x < 0 ∧ z = -x)) → W p l e R s m args below meth c H locs cells slots Q (F0 m (pc + 3) ls (.int (zI z) :: rest))) : W p l e R s m args below meth c H locs cells slots Q (F0 m pc ls (.int (zI x) :: rest)) := va_mabs S.1 S.2.1 (S.2.2.1.trans hsz.symm) S.2.2.2.1 (S.2.2.2.2 _ h1) (S.2.2.2.2 _ h2) (S.2.2.2.2 _ h3) (S.2.2.2.2 _ h4) hframes hlocals hc hs hdg (by
  have e : (if 0 ≤ zI x then zI x else 0 - zI x) = zI (if 0 ≤ x then x else -x) := by
    have h0 : (0 ≤ zI x) ↔ 0 ≤ x := zI_le (a := 0) (by omega) hx
    by_cases h : 0 ≤ x
    · rw [if_pos h, if_pos (h0.mpr h)]
    · rw [if_neg h, if_neg (fun q => h (h0.mp q)), ← zI_0, zI_sub, Int.zero_sub]
  rw [e]
  apply kk
  by_cases h : 0 ≤ x
  · rw [if_pos h]; exact Or.inl ⟨h, rfl⟩
  · rw [if_neg h]; exact Or.inr ⟨by omega, rfl⟩)
theorem zNar_bool {z : Int} (h : z = 0 ∨ z = 1) : narrow .boolean (.int (zI z)) = .int (zI z) := by rcases h with rfl | rfl <;> rfl
theorem zW.sub {H : Heap} {locs : List Loc} {ws ws' : va_W} (w : zW D tys A s ws H locs) (is : List Nat) (hn : va_nd is = true) (hs : is.map (fun i => ws[i]?) = ws'.map some) : zW D tys A s ws' H locs := ⟨w.1, fun k q h => by
  have h1 : (ws'.map some)[k]? = some (some q) := by rw [List.getElem?_map, h]; rfl
  rw [← hs, List.getElem?_map] at h1
  match hk : is[k]? with
  | none => rw [hk] at h1; exact absurd h1 (by simp)
  | some i => rw [hk] at h1; exact w.2.1 i q (by simpa using h1), w.2.2.1.sub is hn hs, w.2.2.2.1, w.2.2.2.2⟩
end ZR
