section
-- ===== PART A: goes FIRST, ahead of the names: the tables' words, and 'selects' of the private methods out of them =====
/-- a private method of a class that the tables say can be made, by its rows of tables_1 -/
def lw_okq (q : MethodName × Nat) : Prop := (q.1.cls ≠ "java/lang/invoke/MethodHandle" ∧ q.1.cls ≠ "java/lang/invoke/VarHandle") ∧ Cond.instantiable q.1.cls q.2 ∈ tables_1 ∧ Cond.privateMethod q.1 ∈ tables_1 ∧ Cond.instanceMethod q.1 ∈ tables_1
theorem lw_p0 : lw_okq (⟨"DecimalText", "putSign", "(JI)V"⟩, 2) := ⟨⟨by decide +kernel, by decide +kernel⟩, List.mem_of_getElem? (i := 8) (by decide +kernel), List.mem_of_getElem? (i := 84) (by decide +kernel), List.mem_of_getElem? (i := 85) (by decide +kernel)⟩
theorem lw_p1 : lw_okq (⟨"DecimalText$Worth", "setLimbs", "(J)V"⟩, 5) := ⟨⟨by decide +kernel, by decide +kernel⟩, List.mem_of_getElem? (i := 16) (by decide +kernel), List.mem_of_getElem? (i := 106) (by decide +kernel), List.mem_of_getElem? (i := 107) (by decide +kernel)⟩
theorem lw_p2 : lw_okq (⟨"DecimalText$Worth", "addLimb", "(I)V"⟩, 5) := ⟨⟨by decide +kernel, by decide +kernel⟩, List.mem_of_getElem? (i := 16) (by decide +kernel), List.mem_of_getElem? (i := 111) (by decide +kernel), List.mem_of_getElem? (i := 112) (by decide +kernel)⟩
theorem lw_p3 : lw_okq (⟨"DecimalText$Worth", "multiplyByPower", "(II)V"⟩, 5) := ⟨⟨by decide +kernel, by decide +kernel⟩, List.mem_of_getElem? (i := 16) (by decide +kernel), List.mem_of_getElem? (i := 118) (by decide +kernel), List.mem_of_getElem? (i := 119) (by decide +kernel)⟩
theorem lw_p4 : lw_okq (⟨"DecimalText$Worth", "multiplyBy", "(I)V"⟩, 5) := ⟨⟨by decide +kernel, by decide +kernel⟩, List.mem_of_getElem? (i := 16) (by decide +kernel), List.mem_of_getElem? (i := 123) (by decide +kernel), List.mem_of_getElem? (i := 124) (by decide +kernel)⟩
theorem lw_p5 : lw_okq (⟨"DecimalText$Worth", "spreadLimbs", "()V"⟩, 5) := ⟨⟨by decide +kernel, by decide +kernel⟩, List.mem_of_getElem? (i := 16) (by decide +kernel), List.mem_of_getElem? (i := 130) (by decide +kernel), List.mem_of_getElem? (i := 131) (by decide +kernel)⟩
theorem lw_p6 : lw_okq (⟨"DecimalText$Worth", "spreadLimb", "(II)V"⟩, 5) := ⟨⟨by decide +kernel, by decide +kernel⟩, List.mem_of_getElem? (i := 16) (by decide +kernel), List.mem_of_getElem? (i := 137) (by decide +kernel), List.mem_of_getElem? (i := 138) (by decide +kernel)⟩
theorem lw_p7 : lw_okq (⟨"DecimalText", "putBody", "(IIZ)V"⟩, 2) := ⟨⟨by decide +kernel, by decide +kernel⟩, List.mem_of_getElem? (i := 8) (by decide +kernel), List.mem_of_getElem? (i := 141) (by decide +kernel), List.mem_of_getElem? (i := 142) (by decide +kernel)⟩
theorem lw_p8 : lw_okq (⟨"DecimalText", "putPlain", "(IZ)V"⟩, 2) := ⟨⟨by decide +kernel, by decide +kernel⟩, List.mem_of_getElem? (i := 8) (by decide +kernel), List.mem_of_getElem? (i := 145) (by decide +kernel), List.mem_of_getElem? (i := 146) (by decide +kernel)⟩
theorem lw_p9 : lw_okq (⟨"DecimalText$Worth", "isNearerAbove", "(I)Z"⟩, 5) := ⟨⟨by decide +kernel, by decide +kernel⟩, List.mem_of_getElem? (i := 16) (by decide +kernel), List.mem_of_getElem? (i := 153) (by decide +kernel), List.mem_of_getElem? (i := 154) (by decide +kernel)⟩
theorem lw_p10 : lw_okq (⟨"DecimalText$Worth", "digitIn", "(I)I"⟩, 5) := ⟨⟨by decide +kernel, by decide +kernel⟩, List.mem_of_getElem? (i := 16) (by decide +kernel), List.mem_of_getElem? (i := 157) (by decide +kernel), List.mem_of_getElem? (i := 158) (by decide +kernel)⟩
theorem lw_p11 : lw_okq (⟨"DecimalText$Worth", "lowestIndex", "()I"⟩, 5) := ⟨⟨by decide +kernel, by decide +kernel⟩, List.mem_of_getElem? (i := 16) (by decide +kernel), List.mem_of_getElem? (i := 161) (by decide +kernel), List.mem_of_getElem? (i := 162) (by decide +kernel)⟩
theorem lw_p12 : lw_okq (⟨"DecimalText$Worth", "addOneAt", "(I)V"⟩, 5) := ⟨⟨by decide +kernel, by decide +kernel⟩, List.mem_of_getElem? (i := 16) (by decide +kernel), List.mem_of_getElem? (i := 165) (by decide +kernel), List.mem_of_getElem? (i := 166) (by decide +kernel)⟩
theorem lw_p13 : lw_okq (⟨"DecimalText", "putDigits", "(II)V"⟩, 2) := ⟨⟨by decide +kernel, by decide +kernel⟩, List.mem_of_getElem? (i := 8) (by decide +kernel), List.mem_of_getElem? (i := 174) (by decide +kernel), List.mem_of_getElem? (i := 175) (by decide +kernel)⟩
theorem lw_p14 : lw_okq (⟨"DecimalText", "putDigit", "(I)V"⟩, 2) := ⟨⟨by decide +kernel, by decide +kernel⟩, List.mem_of_getElem? (i := 8) (by decide +kernel), List.mem_of_getElem? (i := 182) (by decide +kernel), List.mem_of_getElem? (i := 183) (by decide +kernel)⟩
theorem lw_p15 : lw_okq (⟨"DecimalText", "putDecimals", "(IIZ)V"⟩, 2) := ⟨⟨by decide +kernel, by decide +kernel⟩, List.mem_of_getElem? (i := 8) (by decide +kernel), List.mem_of_getElem? (i := 186) (by decide +kernel), List.mem_of_getElem? (i := 187) (by decide +kernel)⟩
def lw_privs_1 : List (MethodName × Nat) := [(⟨"DecimalText", "putSign", "(JI)V"⟩, 2), (⟨"DecimalText$Worth", "setLimbs", "(J)V"⟩, 5), (⟨"DecimalText$Worth", "addLimb", "(I)V"⟩, 5), (⟨"DecimalText$Worth", "multiplyByPower", "(II)V"⟩, 5), (⟨"DecimalText$Worth", "multiplyBy", "(I)V"⟩, 5), (⟨"DecimalText$Worth", "spreadLimbs", "()V"⟩, 5), (⟨"DecimalText$Worth", "spreadLimb", "(II)V"⟩, 5), (⟨"DecimalText", "putBody", "(IIZ)V"⟩, 2), (⟨"DecimalText", "putPlain", "(IZ)V"⟩, 2), (⟨"DecimalText$Worth", "isNearerAbove", "(I)Z"⟩, 5), (⟨"DecimalText$Worth", "digitIn", "(I)I"⟩, 5), (⟨"DecimalText$Worth", "lowestIndex", "()I"⟩, 5), (⟨"DecimalText$Worth", "addOneAt", "(I)V"⟩, 5), (⟨"DecimalText", "putDigits", "(II)V"⟩, 2), (⟨"DecimalText", "putDigit", "(I)V"⟩, 2), (⟨"DecimalText", "putDecimals", "(IIZ)V"⟩, 2)]
theorem lw_r1 : ∀ q ∈ lw_privs_1, lw_okq q := List.forall_mem_cons.mpr ⟨lw_p0, List.forall_mem_cons.mpr ⟨lw_p1, List.forall_mem_cons.mpr ⟨lw_p2, List.forall_mem_cons.mpr ⟨lw_p3, List.forall_mem_cons.mpr ⟨lw_p4, List.forall_mem_cons.mpr ⟨lw_p5, List.forall_mem_cons.mpr ⟨lw_p6, List.forall_mem_cons.mpr ⟨lw_p7, List.forall_mem_cons.mpr ⟨lw_p8, List.forall_mem_cons.mpr ⟨lw_p9, List.forall_mem_cons.mpr ⟨lw_p10, List.forall_mem_cons.mpr ⟨lw_p11, List.forall_mem_cons.mpr ⟨lw_p12, List.forall_mem_cons.mpr ⟨lw_p13, List.forall_mem_cons.mpr ⟨lw_p14, List.forall_mem_cons.mpr ⟨lw_p15, fun _ h => absurd h List.not_mem_nil⟩⟩⟩⟩⟩⟩⟩⟩⟩⟩⟩⟩⟩⟩⟩⟩
theorem lw_p16 : lw_okq (⟨"DecimalText", "putWithExponent", "(IZC)V"⟩, 2) := ⟨⟨by decide +kernel, by decide +kernel⟩, List.mem_of_getElem? (i := 8) (by decide +kernel), List.mem_of_getElem? (i := 190) (by decide +kernel), List.mem_of_getElem? (i := 191) (by decide +kernel)⟩
theorem lw_p17 : lw_okq (⟨"DecimalText", "putExponent", "(IC)V"⟩, 2) := ⟨⟨by decide +kernel, by decide +kernel⟩, List.mem_of_getElem? (i := 8) (by decide +kernel), List.mem_of_getElem? (i := 194) (by decide +kernel), List.mem_of_getElem? (i := 195) (by decide +kernel)⟩
theorem lw_p18 : lw_okq (⟨"DecimalText", "putInfinite", "()V"⟩, 2) := ⟨⟨by decide +kernel, by decide +kernel⟩, List.mem_of_getElem? (i := 8) (by decide +kernel), List.mem_of_getElem? (i := 199) (by decide +kernel), List.mem_of_getElem? (i := 200) (by decide +kernel)⟩
theorem lw_p19 : lw_okq (⟨"DecimalText", "pad", "(IIZI)V"⟩, 2) := ⟨⟨by decide +kernel, by decide +kernel⟩, List.mem_of_getElem? (i := 8) (by decide +kernel), List.mem_of_getElem? (i := 203) (by decide +kernel), List.mem_of_getElem? (i := 204) (by decide +kernel)⟩
theorem lw_p20 : lw_okq (⟨"DecimalTextModel", "put", "(I)V"⟩, 5) := ⟨⟨by decide +kernel, by decide +kernel⟩, List.mem_of_getElem? (i := 227) (by decide +kernel), List.mem_of_getElem? (i := 259) (by decide +kernel), List.mem_of_getElem? (i := 260) (by decide +kernel)⟩
theorem lw_p21 : lw_okq (⟨"DecimalTextModel", "spread", "(J)V"⟩, 5) := ⟨⟨by decide +kernel, by decide +kernel⟩, List.mem_of_getElem? (i := 227) (by decide +kernel), List.mem_of_getElem? (i := 266) (by decide +kernel), List.mem_of_getElem? (i := 267) (by decide +kernel)⟩
theorem lw_p22 : lw_okq (⟨"DecimalTextModel", "trim", "()V"⟩, 5) := ⟨⟨by decide +kernel, by decide +kernel⟩, List.mem_of_getElem? (i := 227) (by decide +kernel), List.mem_of_getElem? (i := 273) (by decide +kernel), List.mem_of_getElem? (i := 274) (by decide +kernel)⟩
theorem lw_p23 : lw_okq (⟨"DecimalTextModel", "twice", "()V"⟩, 5) := ⟨⟨by decide +kernel, by decide +kernel⟩, List.mem_of_getElem? (i := 227) (by decide +kernel), List.mem_of_getElem? (i := 277) (by decide +kernel), List.mem_of_getElem? (i := 278) (by decide +kernel)⟩
theorem lw_p24 : lw_okq (⟨"DecimalTextModel", "half", "()V"⟩, 5) := ⟨⟨by decide +kernel, by decide +kernel⟩, List.mem_of_getElem? (i := 227) (by decide +kernel), List.mem_of_getElem? (i := 281) (by decide +kernel), List.mem_of_getElem? (i := 282) (by decide +kernel)⟩
theorem lw_p25 : lw_okq (⟨"DecimalTextModel", "body", "(IIZ)V"⟩, 5) := ⟨⟨by decide +kernel, by decide +kernel⟩, List.mem_of_getElem? (i := 227) (by decide +kernel), List.mem_of_getElem? (i := 285) (by decide +kernel), List.mem_of_getElem? (i := 286) (by decide +kernel)⟩
theorem lw_p26 : lw_okq (⟨"DecimalTextModel", "cut", "(I)V"⟩, 5) := ⟨⟨by decide +kernel, by decide +kernel⟩, List.mem_of_getElem? (i := 227) (by decide +kernel), List.mem_of_getElem? (i := 289) (by decide +kernel), List.mem_of_getElem? (i := 290) (by decide +kernel)⟩
theorem lw_p27 : lw_okq (⟨"DecimalTextModel", "digit", "(I)I"⟩, 5) := ⟨⟨by decide +kernel, by decide +kernel⟩, List.mem_of_getElem? (i := 227) (by decide +kernel), List.mem_of_getElem? (i := 293) (by decide +kernel), List.mem_of_getElem? (i := 294) (by decide +kernel)⟩
theorem lw_p28 : lw_okq (⟨"DecimalTextModel", "fill", "(IIIZ)V"⟩, 5) := ⟨⟨by decide +kernel, by decide +kernel⟩, List.mem_of_getElem? (i := 227) (by decide +kernel), List.mem_of_getElem? (i := 297) (by decide +kernel), List.mem_of_getElem? (i := 298) (by decide +kernel)⟩
def lw_privs_2 : List (MethodName × Nat) := [(⟨"DecimalText", "putWithExponent", "(IZC)V"⟩, 2), (⟨"DecimalText", "putExponent", "(IC)V"⟩, 2), (⟨"DecimalText", "putInfinite", "()V"⟩, 2), (⟨"DecimalText", "pad", "(IIZI)V"⟩, 2), (⟨"DecimalTextModel", "put", "(I)V"⟩, 5), (⟨"DecimalTextModel", "spread", "(J)V"⟩, 5), (⟨"DecimalTextModel", "trim", "()V"⟩, 5), (⟨"DecimalTextModel", "twice", "()V"⟩, 5), (⟨"DecimalTextModel", "half", "()V"⟩, 5), (⟨"DecimalTextModel", "body", "(IIZ)V"⟩, 5), (⟨"DecimalTextModel", "cut", "(I)V"⟩, 5), (⟨"DecimalTextModel", "digit", "(I)I"⟩, 5), (⟨"DecimalTextModel", "fill", "(IIIZ)V"⟩, 5)]
theorem lw_r2 : ∀ q ∈ lw_privs_2, lw_okq q := List.forall_mem_cons.mpr ⟨lw_p16, List.forall_mem_cons.mpr ⟨lw_p17, List.forall_mem_cons.mpr ⟨lw_p18, List.forall_mem_cons.mpr ⟨lw_p19, List.forall_mem_cons.mpr ⟨lw_p20, List.forall_mem_cons.mpr ⟨lw_p21, List.forall_mem_cons.mpr ⟨lw_p22, List.forall_mem_cons.mpr ⟨lw_p23, List.forall_mem_cons.mpr ⟨lw_p24, List.forall_mem_cons.mpr ⟨lw_p25, List.forall_mem_cons.mpr ⟨lw_p26, List.forall_mem_cons.mpr ⟨lw_p27, List.forall_mem_cons.mpr ⟨lw_p28, fun _ h => absurd h List.not_mem_nil⟩⟩⟩⟩⟩⟩⟩⟩⟩⟩⟩⟩⟩
def lw_privs : List (MethodName × Nat) := lw_privs_1 ++ (lw_privs_2)
def lw_tbl : List Cond := k2_sels lw_privs ++ tables_1
theorem lw_privs_ok : ∀ q ∈ lw_privs, lw_okq q := by
  show ∀ q ∈ lw_privs_1 ++ (lw_privs_2), lw_okq q
  exact List.forall_mem_append.mpr ⟨lw_r1, lw_r2⟩
end
section
/-! THE CLAIM OUT OF ONE WALK OF THE LAW'S BODY. Your part is whole_start (and what it stands on); all else here is the same for every law, but numbers. -/
def R_law : String := "DecimalTextLaw"
def lw_P (b : Addr) (xs : List Int32) (args : Array Value) (s : State) : Prop := args = #[.ref b] ∧ s.IntsAt b xs ∧ xs.length ≤ 3584 ∧ (Jvm.Cond.and given_1 narrow_1).before args s = true
def lw_Q (_ : Array Value) (s : State) (o : Outcome) (t : State) : Prop := o = .returned (some (.int 1)) ∧ Framed s o t [] 9 2894
def lw_Z (below : List Frame) (a : Array Value) (s : State) : State → Prop := fun t => ∃ o, t.status = .running ∧ Ended t below o ∧ lw_Q a s o t
/-- the law's own end, with 1 on the stack, nothing written that was there before, its room as the claim has it -/
theorem lw_ret {p : Program} {l : Launch} {e : Env} {s : State} {m : MethodId} {below : List Frame} {meth : Method} {c : Code} {b : Nat} (hx : p.tables.exec = Jvm.exec) (hb : c.code = code) (hr : meth.sig.returnType = ret) (hlocks : meth.locks = false) {pc : Nat} {H : Heap} {ls : Array Slot} (hdg : decode code pc = .ok (.ireturn, 1)) : W p l e room_1 s m #[Value.ref b] below meth c H [] 9 2894 (lw_Z below #[Value.ref b] s) (F0 m pc ls [.int 1]) := by
  intro T hT X
  obtain ⟨fs, hret, hrun, hended, hW, hframe⟩ := X.leave (v := some (.int 1)) (hlocks := hlocks) (fun h => by rw [hr] at h; cases h)
  have hmeth' : T.vm.method? m = some meth := X.method'
  refine ⟨T.setFrames fs, ?_, .returned (some (.int 1)), hrun, hended, rfl, ⟨_, rfl⟩, hW, hframe⟩
  jvm_step X.here [X.here.top, hx, hb, hdg, hmeth', hr, ret, narrow_b1]
  (try refine ⟨rfl, ?_⟩); (try refine ⟨rfl, ?_⟩)
  first | (intro acts; rw [hret _ acts rfl rfl rfl]) | rw [hret _ _ rfl rfl rfl]
  exact Steps.refl _
/-- what holds at the law's entry: the machine, the code, the tables' words (any of lw_tbl by 'hts w (by decide +kernel)'), the script of L ints xs at the cell b, what the Statement gives of the start (any of its parts by flat_of_before) -/
def lw_At (p : Program) (s : State) (m : MethodId) (meth : Method) (c : Code) (b L : Nat) (xs : Nat → Int32) : Prop :=
  p.tables.exec = Jvm.exec ∧ c.code = code ∧ meth.sig.returnType = ret ∧ c.maxLocals = 4 ∧ s.vm.findClass R_law = some m.cls ∧ (∀ w ∈ lw_tbl, w.before #[Value.ref b] s = true) ∧ va_X b L xs s s.heap ∧ b < s.heap.size ∧ meth.locks = false ∧ (Jvm.Cond.and given_1 narrow_1).before #[Value.ref b] s = true
end
section
/-! ===== BEGIN words of one list among another's, by their places ===== -/
theorem goodIn_r {big : List Cond} (ws : List Cond) (ps : List Nat) (hp : ws = ps.filterMap (fun i => big[i]?)) (h : ws.all goodWord = true) : GoodIn big ws := by
  intro w hw
  have h1 := List.all_eq_true.mp h w hw
  rw [hp] at hw
  obtain ⟨i, -, hi⟩ := List.mem_filterMap.mp hw
  have hm : w ∈ big := by first | exact List.mem_of_getElem? hi | exact List.getElem?_mem hi
  exact ⟨hm, good_of_word h1⟩
theorem goodIn_app {big a b : List Cond} (ha : GoodIn big a) (hb : GoodIn big b) : GoodIn big (a ++ b) := fun w h => (List.mem_append.mp h).elim (ha w) (hb w)
theorem goodIn_ca {big a b : List Cond} {c : Cond} (ha : GoodIn big (c :: a)) (hb : GoodIn big b) : GoodIn big (c :: (a ++ b)) := fun w h => (List.mem_cons.mp h).elim (fun e => ha w (List.mem_cons.mpr (Or.inl e))) (fun h => (List.mem_append.mp h).elim (fun h => ha w (List.mem_cons.mpr (Or.inr h))) (hb w))
theorem goodIn_sub {big ws : List Cond} (hm : ∀ w ∈ ws, w ∈ big) (h : ws.all goodWord = true) : GoodIn big ws := fun w hw => ⟨hm w hw, good_of_word (List.all_eq_true.mp h w hw)⟩
/-! ===== END ===== -/

/-! ===== BEGIN printed: names, fields, word lists, decode rows ===== -/
def RX0 : String := "DecimalText$Line"
def TX0 : u_T := fun k => match k with
  | 0 => ("DecimalText$Line", "codes", "[C", true)
  | _ => ("DecimalText$Line", "length", "I", false)
def tyX0 : Nat → FieldType := fun k => match k with
  | 0 => .array .char
  | _ => .int
abbrev wsX00 : List Cond := u_ws RX0 TX0 2
theorem nmX0 : ∀ a, a < 2 → ∀ b, b < 2 → a ≠ b → (TX0 a).2.1 ≠ (TX0 b).2.1 := by decide +kernel
theorem tyX0_ok : ∀ k, k < 2 → parseFieldDescriptor (TX0 k).2.2.1 = some (tyX0 k) := by decide +kernel
abbrev cX0_init : ByteArray := prog_2_method_1_code
def yX0_init : MethodName := ⟨RX0, "<init>", "()V"⟩
abbrev cX0_length : ByteArray := prog_2_method_2_code
def yX0_length : MethodName := ⟨RX0, "length", "()I"⟩
abbrev cX0_codeAt : ByteArray := prog_2_method_3_code
def yX0_codeAt : MethodName := ⟨RX0, "codeAt", "(I)I"⟩
abbrev cX0_clear : ByteArray := prog_2_method_4_code
def yX0_clear : MethodName := ⟨RX0, "clear", "()V"⟩
abbrev cX0_put : ByteArray := prog_2_method_5_code
def yX0_put : MethodName := ⟨RX0, "put", "(C)V"⟩
abbrev cX0_insert : ByteArray := prog_2_method_6_code
def yX0_insert : MethodName := ⟨RX0, "insert", "(IIC)V"⟩
def RX1 : String := "DecimalText$Worth"
def TX1 : u_T := fun k => match k with
  | 0 => ("DecimalText$Worth", "limbs", "[I", true)
  | 1 => ("DecimalText$Worth", "limbCount", "I", false)
  | 2 => ("DecimalText$Worth", "row", "[I", true)
  | 3 => ("DecimalText$Worth", "count", "I", false)
  | _ => ("DecimalText$Worth", "decimals", "I", false)
def tyX1 : Nat → FieldType := fun k => match k with
  | 0 => .array .int
  | 1 => .int
  | 2 => .array .int
  | 3 => .int
  | _ => .int
abbrev wsX10 : List Cond := u_ws RX1 TX1 5
theorem nmX1 : ∀ a, a < 5 → ∀ b, b < 5 → a ≠ b → (TX1 a).2.1 ≠ (TX1 b).2.1 := by decide +kernel
theorem tyX1_ok : ∀ k, k < 5 → parseFieldDescriptor (TX1 k).2.2.1 = some (tyX1 k) := by decide +kernel
abbrev cX1_init : ByteArray := prog_3_method_1_code
def yX1_init : MethodName := ⟨RX1, "<init>", "()V"⟩
abbrev cX1_take : ByteArray := prog_3_method_2_code
def yX1_take : MethodName := ⟨RX1, "take", "(J)V"⟩
abbrev cX1_digitCount : ByteArray := prog_3_method_3_code
def yX1_digitCount : MethodName := ⟨RX1, "digitCount", "()I"⟩
abbrev cX1_highestPower : ByteArray := prog_3_method_4_code
def yX1_highestPower : MethodName := ⟨RX1, "highestPower", "()I"⟩
abbrev cX1_digitOf : ByteArray := prog_3_method_5_code
def yX1_digitOf : MethodName := ⟨RX1, "digitOf", "(I)I"⟩
abbrev cX1_roundTo : ByteArray := prog_3_method_6_code
def yX1_roundTo : MethodName := ⟨RX1, "roundTo", "(I)V"⟩
abbrev cX1_isNearerAbove : ByteArray := prog_3_method_7_code
def yX1_isNearerAbove : MethodName := ⟨RX1, "isNearerAbove", "(I)Z"⟩
abbrev cX1_addOneAt : ByteArray := prog_3_method_8_code
def yX1_addOneAt : MethodName := ⟨RX1, "addOneAt", "(I)V"⟩
abbrev cX1_digitIn : ByteArray := prog_3_method_9_code
def yX1_digitIn : MethodName := ⟨RX1, "digitIn", "(I)I"⟩
abbrev cX1_lowestIndex : ByteArray := prog_3_method_10_code
def yX1_lowestIndex : MethodName := ⟨RX1, "lowestIndex", "()I"⟩
abbrev cX1_setLimbs : ByteArray := prog_3_method_11_code
def yX1_setLimbs : MethodName := ⟨RX1, "setLimbs", "(J)V"⟩
abbrev cX1_addLimb : ByteArray := prog_3_method_12_code
def yX1_addLimb : MethodName := ⟨RX1, "addLimb", "(I)V"⟩
abbrev cX1_multiplyByPower : ByteArray := prog_3_method_13_code
def yX1_multiplyByPower : MethodName := ⟨RX1, "multiplyByPower", "(II)V"⟩
abbrev cX1_multiplyBy : ByteArray := prog_3_method_14_code
def yX1_multiplyBy : MethodName := ⟨RX1, "multiplyBy", "(I)V"⟩
abbrev cX1_spreadLimbs : ByteArray := prog_3_method_15_code
def yX1_spreadLimbs : MethodName := ⟨RX1, "spreadLimbs", "()V"⟩
abbrev cX1_spreadLimb : ByteArray := prog_3_method_16_code
def yX1_spreadLimb : MethodName := ⟨RX1, "spreadLimb", "(II)V"⟩
def RX2 : String := "DecimalText"
def TX2 : u_T := fun k => match k with
  | 0 => ("DecimalText", "worth", "LDecimalText$Worth;", true)
  | _ => ("DecimalText", "line", "LDecimalText$Line;", true)
def tyX2 : Nat → FieldType := fun k => match k with
  | 0 => .object "DecimalText$Worth"
  | _ => .object "DecimalText$Line"
abbrev wsX20 : List Cond := u_ws RX2 TX2 2
theorem nmX2 : ∀ a, a < 2 → ∀ b, b < 2 → a ≠ b → (TX2 a).2.1 ≠ (TX2 b).2.1 := by decide +kernel
theorem tyX2_ok : ∀ k, k < 2 → parseFieldDescriptor (TX2 k).2.2.1 = some (tyX2 k) := by decide +kernel
abbrev cX2_init : ByteArray := prog_1_method_1_code
def yX2_init : MethodName := ⟨RX2, "<init>", "()V"⟩
abbrev cX2_make : ByteArray := prog_1_method_2_code
def yX2_make : MethodName := ⟨RX2, "make", "(JIIII)I"⟩
abbrev cX2_at : ByteArray := prog_1_method_3_code
def yX2_at : MethodName := ⟨RX2, "at", "(I)I"⟩
abbrev cX2_digits : ByteArray := prog_1_method_4_code
def yX2_digits : MethodName := ⟨RX2, "digits", "(J)I"⟩
abbrev cX2_isForm : ByteArray := prog_1_method_5_code
def yX2_isForm : MethodName := ⟨RX2, "isForm", "(IIII)Z"⟩
abbrev cX2_isWithin : ByteArray := prog_1_method_6_code
def yX2_isWithin : MethodName := ⟨RX2, "isWithin", "(II)Z"⟩
abbrev cX2_has : ByteArray := prog_1_method_7_code
def yX2_has : MethodName := ⟨RX2, "has", "(II)Z"⟩
abbrev cX2_exponentField : ByteArray := prog_1_method_8_code
def yX2_exponentField : MethodName := ⟨RX2, "exponentField", "(J)I"⟩
abbrev cX2_isFinite : ByteArray := prog_1_method_9_code
def yX2_isFinite : MethodName := ⟨RX2, "isFinite", "(J)Z"⟩
abbrev cX2_isNoNumber : ByteArray := prog_1_method_10_code
def yX2_isNoNumber : MethodName := ⟨RX2, "isNoNumber", "(J)Z"⟩
abbrev cX2_putSign : ByteArray := prog_1_method_11_code
def yX2_putSign : MethodName := ⟨RX2, "putSign", "(JI)V"⟩
abbrev cX2_putInfinite : ByteArray := prog_1_method_12_code
def yX2_putInfinite : MethodName := ⟨RX2, "putInfinite", "()V"⟩
abbrev cX2_putBody : ByteArray := prog_1_method_13_code
def yX2_putBody : MethodName := ⟨RX2, "putBody", "(IIZ)V"⟩
abbrev cX2_putPlain : ByteArray := prog_1_method_14_code
def yX2_putPlain : MethodName := ⟨RX2, "putPlain", "(IZ)V"⟩
abbrev cX2_putWithExponent : ByteArray := prog_1_method_15_code
def yX2_putWithExponent : MethodName := ⟨RX2, "putWithExponent", "(IZC)V"⟩
abbrev cX2_putDecimals : ByteArray := prog_1_method_16_code
def yX2_putDecimals : MethodName := ⟨RX2, "putDecimals", "(IIZ)V"⟩
abbrev cX2_putDigits : ByteArray := prog_1_method_17_code
def yX2_putDigits : MethodName := ⟨RX2, "putDigits", "(II)V"⟩
abbrev cX2_putExponent : ByteArray := prog_1_method_18_code
def yX2_putExponent : MethodName := ⟨RX2, "putExponent", "(IC)V"⟩
abbrev cX2_putDigit : ByteArray := prog_1_method_19_code
def yX2_putDigit : MethodName := ⟨RX2, "putDigit", "(I)V"⟩
abbrev cX2_pad : ByteArray := prog_1_method_20_code
def yX2_pad : MethodName := ⟨RX2, "pad", "(IIZI)V"⟩
def RX3 : String := "DecimalTextModel"
def TX3 : u_T := fun k => match k with
  | 0 => ("DecimalTextModel", "row", "[B", true)
  | 1 => ("DecimalTextModel", "digits", "I", false)
  | 2 => ("DecimalTextModel", "point", "I", false)
  | 3 => ("DecimalTextModel", "text", "[I", true)
  | _ => ("DecimalTextModel", "length", "I", false)
def tyX3 : Nat → FieldType := fun k => match k with
  | 0 => .array .byte
  | 1 => .int
  | 2 => .int
  | 3 => .array .int
  | _ => .int
abbrev wsX30 : List Cond := u_ws RX3 TX3 5
theorem nmX3 : ∀ a, a < 5 → ∀ b, b < 5 → a ≠ b → (TX3 a).2.1 ≠ (TX3 b).2.1 := by decide +kernel
theorem tyX3_ok : ∀ k, k < 5 → parseFieldDescriptor (TX3 k).2.2.1 = some (tyX3 k) := by decide +kernel
abbrev cX3_init : ByteArray := prog_5_method_1_code
def yX3_init : MethodName := ⟨RX3, "<init>", "()V"⟩
abbrev cX3_infinite : ByteArray := prog_5_method_3_code
def yX3_infinite : MethodName := ⟨RX3, "infinite", "(J)Z"⟩
abbrev cX3_none : ByteArray := prog_5_method_4_code
def yX3_none : MethodName := ⟨RX3, "none", "(J)Z"⟩
abbrev cX3_spread : ByteArray := prog_5_method_5_code
def yX3_spread : MethodName := ⟨RX3, "spread", "(J)V"⟩
abbrev cX3_trim : ByteArray := prog_5_method_6_code
def yX3_trim : MethodName := ⟨RX3, "trim", "()V"⟩
abbrev cX3_twice : ByteArray := prog_5_method_7_code
def yX3_twice : MethodName := ⟨RX3, "twice", "()V"⟩
abbrev cX3_half : ByteArray := prog_5_method_8_code
def yX3_half : MethodName := ⟨RX3, "half", "()V"⟩
abbrev cX3_cut : ByteArray := prog_5_method_9_code
def yX3_cut : MethodName := ⟨RX3, "cut", "(I)V"⟩
abbrev cX3_put : ByteArray := prog_5_method_10_code
def yX3_put : MethodName := ⟨RX3, "put", "(I)V"⟩
abbrev cX3_digit : ByteArray := prog_5_method_11_code
def yX3_digit : MethodName := ⟨RX3, "digit", "(I)I"⟩
abbrev cX3_body : ByteArray := prog_5_method_12_code
def yX3_body : MethodName := ⟨RX3, "body", "(IIZ)V"⟩
abbrev cX3_make : ByteArray := prog_5_method_13_code
def yX3_make : MethodName := ⟨RX3, "make", "(JIIII)I"⟩
abbrev cX3_fill : ByteArray := prog_5_method_14_code
def yX3_fill : MethodName := ⟨RX3, "fill", "(IIIZ)V"⟩
abbrev cX3_at : ByteArray := prog_5_method_15_code
def yX3_at : MethodName := ⟨RX3, "at", "(I)I"⟩
abbrev cX3_digits : ByteArray := prog_5_method_16_code
def yX3_digits : MethodName := ⟨RX3, "digits", "(J)I"⟩
def RJ9 : String := "java/lang/Math"
def TJ9 : u_T := fun k => match k with
  | _ => ("", "", "", false)
def tyJ9 : Nat → FieldType := fun k => match k with
  | _ => .int
abbrev wsJ90 : List Cond := u_ws RJ9 TJ9 0
theorem nmJ9 : ∀ a, a < 0 → ∀ b, b < 0 → a ≠ b → (TJ9 a).2.1 ≠ (TJ9 b).2.1 := by decide +kernel
theorem tyJ9_ok : ∀ k, k < 0 → parseFieldDescriptor (TJ9 k).2.2.1 = some (tyJ9 k) := by decide +kernel
abbrev cJ9_abs_0f7a4 : ByteArray := prog_6_method_59_code
def yJ9_abs_0f7a4 : MethodName := ⟨RJ9, "abs", "(I)I"⟩
abbrev cJ9_max_7cf53 : ByteArray := prog_6_method_65_code
def yJ9_max_7cf53 : MethodName := ⟨RJ9, "max", "(II)I"⟩
def RJ7 : String := "java/util/Arrays"
def TJ7 : u_T := fun k => match k with
  | _ => ("", "", "", false)
def tyJ7 : Nat → FieldType := fun k => match k with
  | _ => .int
abbrev wsJ70 : List Cond := u_ws RJ7 TJ7 0
theorem nmJ7 : ∀ a, a < 0 → ∀ b, b < 0 → a ≠ b → (TJ7 a).2.1 ≠ (TJ7 b).2.1 := by decide +kernel
theorem tyJ7_ok : ∀ k, k < 0 → parseFieldDescriptor (TJ7 k).2.2.1 = some (tyJ7 k) := by decide +kernel
abbrev cJ7_fill_53178 : ByteArray := prog_7_method_103_code
def yJ7_fill_53178 : MethodName := ⟨RJ7, "fill", "([II)V"⟩
def RL : String := "DecimalTextLaw"
abbrev cL_law : ByteArray := code
def yL_law : MethodName := ⟨RL, "law", "([I)Z"⟩
def wsX0_init : List Cond := .code yX0_init cX0_init 1 none :: ([.methodLink RX0 3 objectInit, .instanceMethod objectInit, .code objectInit ⟨#[0xb1]⟩ 1 none, .arrayClass .char, .fieldLink RX0 9 "DecimalText$Line" "codes" "[C", .fieldLink RX0 15 "DecimalText$Line" "length" "I"] ++ wsX00)
def wsX0_length : List Cond := .code yX0_length cX0_length 1 (some .int) :: ([.fieldLink RX0 15 "DecimalText$Line" "length" "I"] ++ wsX00)
def wsX0_codeAt : List Cond := .code yX0_codeAt cX0_codeAt 2 (some .int) :: ([.fieldLink RX0 15 "DecimalText$Line" "length" "I", .fieldLink RX0 9 "DecimalText$Line" "codes" "[C"] ++ wsX00)
def wsX0_clear : List Cond := .code yX0_clear cX0_clear 1 none :: ([.fieldLink RX0 15 "DecimalText$Line" "length" "I"] ++ wsX00)
def wsX0_put : List Cond := .code yX0_put cX0_put 2 none :: ([.fieldLink RX0 15 "DecimalText$Line" "length" "I", .fieldLink RX0 9 "DecimalText$Line" "codes" "[C"] ++ wsX00)
def wsX0_insert : List Cond := .code yX0_insert cX0_insert 5 none :: ([.fieldLink RX0 9 "DecimalText$Line" "codes" "[C", .fieldLink RX0 15 "DecimalText$Line" "length" "I"] ++ wsX00)
def wsX1_init : List Cond := .code yX1_init cX1_init 1 none :: ([.methodLink RX1 5 objectInit, .instanceMethod objectInit, .code objectInit ⟨#[0xb1]⟩ 1 none, .arrayClass .int, .fieldLink RX1 11 "DecimalText$Worth" "limbs" "[I", .fieldLink RX1 15 "DecimalText$Worth" "limbCount" "I", .fieldLink RX1 19 "DecimalText$Worth" "row" "[I", .fieldLink RX1 22 "DecimalText$Worth" "count" "I", .fieldLink RX1 25 "DecimalText$Worth" "decimals" "I"] ++ wsX10)
def wsX2_exponentField : List Cond := .code yX2_exponentField cX2_exponentField 2 (some .int) :: ([])
def wsX1_addLimb : List Cond := .code yX1_addLimb cX1_addLimb 2 none :: ([.fieldLink RX1 15 "DecimalText$Worth" "limbCount" "I", .fieldLink RX1 11 "DecimalText$Worth" "limbs" "[I"] ++ wsX10)
def wsX1_setLimbs : List Cond := .code yX1_setLimbs cX1_setLimbs 3 none :: ([.fieldLink RX1 15 "DecimalText$Worth" "limbCount" "I", .constantLong RX1 72 (1000000000), .methodLink RX1 74 yX1_addLimb, .instanceMethod yX1_addLimb, .selects RX1 yX1_addLimb yX1_addLimb, .initialized RX1, .code yX1_addLimb cX1_addLimb 2 none, .fieldLink RX1 11 "DecimalText$Worth" "limbs" "[I"] ++ wsX10)
def wsX1_multiplyBy : List Cond := .code yX1_multiplyBy cX1_multiplyBy 7 none :: ([.fieldLink RX1 15 "DecimalText$Worth" "limbCount" "I", .fieldLink RX1 11 "DecimalText$Worth" "limbs" "[I", .constantLong RX1 72 (1000000000), .methodLink RX1 74 yX1_addLimb, .instanceMethod yX1_addLimb, .selects RX1 yX1_addLimb yX1_addLimb, .initialized RX1, .code yX1_addLimb cX1_addLimb 2 none] ++ wsX10)
def wsX1_multiplyByPower : List Cond := .code yX1_multiplyByPower cX1_multiplyByPower 5 none :: ([.constant RX1 77 (200000000), .methodLink RX1 78 yX1_multiplyBy, .instanceMethod yX1_multiplyBy, .selects RX1 yX1_multiplyBy yX1_multiplyBy, .initialized RX1, .code yX1_multiplyBy cX1_multiplyBy 7 none, .fieldLink RX1 15 "DecimalText$Worth" "limbCount" "I", .fieldLink RX1 11 "DecimalText$Worth" "limbs" "[I", .constantLong RX1 72 (1000000000), .methodLink RX1 74 yX1_addLimb, .instanceMethod yX1_addLimb, .selects RX1 yX1_addLimb yX1_addLimb, .code yX1_addLimb cX1_addLimb 2 none] ++ wsX10)
def wsJ7_fill_53178 : List Cond := .code yJ7_fill_53178 cJ7_fill_53178 4 none :: ([])
def wsX1_spreadLimb : List Cond := .code yX1_spreadLimb cX1_spreadLimb 5 none :: ([.fieldLink RX1 19 "DecimalText$Worth" "row" "[I", .fieldLink RX1 22 "DecimalText$Worth" "count" "I"] ++ wsX10)
def wsX1_spreadLimbs : List Cond := .code yX1_spreadLimbs cX1_spreadLimbs 2 none :: ([.fieldLink RX1 19 "DecimalText$Worth" "row" "[I", .fieldLink RX1 22 "DecimalText$Worth" "count" "I", .fieldLink RX1 15 "DecimalText$Worth" "limbCount" "I", .fieldLink RX1 11 "DecimalText$Worth" "limbs" "[I", .methodLink RX1 81 yJ7_fill_53178, .static yJ7_fill_53178, .initialized RJ7, .code yJ7_fill_53178 cJ7_fill_53178 4 none, .methodLink RX1 87 yX1_spreadLimb, .instanceMethod yX1_spreadLimb, .selects RX1 yX1_spreadLimb yX1_spreadLimb, .initialized RX1, .code yX1_spreadLimb cX1_spreadLimb 5 none] ++ wsX10)
def wsX1_take_r1 : List Cond := [Cond.constantLong RX1 32 (4503599627370495), Cond.constantLong RX1 34 (4503599627370496), Cond.methodLink RX1 40 Lib.Math.abs.name, Cond.static Lib.Math.abs.name, Cond.initialized "java/lang/Math", Cond.code Lib.Math.abs.name Lib.Math.abs.code 1 (some .int), Cond.methodLink RX1 50 Lib.Math.max.name, Cond.static Lib.Math.max.name, Cond.code Lib.Math.max.name Lib.Math.max.code 2 (some .int), Cond.fieldLink RX1 25 "DecimalText$Worth" "decimals" "I", Cond.static yX2_exponentField, Cond.initialized RX2, Cond.code yX2_exponentField cX2_exponentField 2 (some .int), Cond.methodLink RX1 36 yX1_setLimbs, Cond.instanceMethod yX1_setLimbs, Cond.selects RX1 yX1_setLimbs yX1_setLimbs, Cond.initialized RX1, Cond.code yX1_setLimbs cX1_setLimbs 3 none, Cond.fieldLink RX1 15 "DecimalText$Worth" "limbCount" "I", Cond.constantLong RX1 72 (1000000000), Cond.methodLink RX1 74 yX1_addLimb, Cond.instanceMethod yX1_addLimb, Cond.selects RX1 yX1_addLimb yX1_addLimb, Cond.code yX1_addLimb cX1_addLimb 2 none]
def wsX1_take_r2 : List Cond := [Cond.fieldLink RX1 11 "DecimalText$Worth" "limbs" "[I", Cond.methodLink RX1 46 yX1_multiplyByPower, Cond.instanceMethod yX1_multiplyByPower, Cond.selects RX1 yX1_multiplyByPower yX1_multiplyByPower, Cond.code yX1_multiplyByPower cX1_multiplyByPower 5 none, Cond.constant RX1 77 (200000000), Cond.methodLink RX1 78 yX1_multiplyBy, Cond.instanceMethod yX1_multiplyBy, Cond.selects RX1 yX1_multiplyBy yX1_multiplyBy, Cond.code yX1_multiplyBy cX1_multiplyBy 7 none, Cond.methodLink RX1 54 yX1_spreadLimbs, Cond.instanceMethod yX1_spreadLimbs, Cond.selects RX1 yX1_spreadLimbs yX1_spreadLimbs, Cond.code yX1_spreadLimbs cX1_spreadLimbs 2 none, Cond.fieldLink RX1 19 "DecimalText$Worth" "row" "[I", Cond.fieldLink RX1 22 "DecimalText$Worth" "count" "I", Cond.methodLink RX1 81 yJ7_fill_53178, Cond.static yJ7_fill_53178, Cond.initialized RJ7, Cond.code yJ7_fill_53178 cJ7_fill_53178 4 none, Cond.methodLink RX1 87 yX1_spreadLimb, Cond.instanceMethod yX1_spreadLimb, Cond.selects RX1 yX1_spreadLimb yX1_spreadLimb, Cond.code yX1_spreadLimb cX1_spreadLimb 5 none]
def wsX1_take : List Cond := .code yX1_take cX1_take 7 none :: ((wsX1_take_r1 ++ wsX1_take_r2) ++ wsX10)
def wsX1_digitIn : List Cond := .code yX1_digitIn cX1_digitIn 2 (some .int) :: ([.fieldLink RX1 19 "DecimalText$Worth" "row" "[I"] ++ wsX10)
def wsX1_lowestIndex : List Cond := .code yX1_lowestIndex cX1_lowestIndex 2 (some .int) :: ([.fieldLink RX1 22 "DecimalText$Worth" "count" "I", .methodLink RX1 61 yX1_digitIn, .instanceMethod yX1_digitIn, .selects RX1 yX1_digitIn yX1_digitIn, .initialized RX1, .code yX1_digitIn cX1_digitIn 2 (some .int), .fieldLink RX1 19 "DecimalText$Worth" "row" "[I"] ++ wsX10)
def wsX1_digitCount : List Cond := .code yX1_digitCount cX1_digitCount 1 (some .int) :: ([.fieldLink RX1 22 "DecimalText$Worth" "count" "I", .methodLink RX1 57 yX1_lowestIndex, .instanceMethod yX1_lowestIndex, .selects RX1 yX1_lowestIndex yX1_lowestIndex, .initialized RX1, .code yX1_lowestIndex cX1_lowestIndex 2 (some .int), .methodLink RX1 61 yX1_digitIn, .instanceMethod yX1_digitIn, .selects RX1 yX1_digitIn yX1_digitIn, .code yX1_digitIn cX1_digitIn 2 (some .int), .fieldLink RX1 19 "DecimalText$Worth" "row" "[I"] ++ wsX10)
def wsX1_highestPower : List Cond := .code yX1_highestPower cX1_highestPower 1 (some .int) :: ([.fieldLink RX1 22 "DecimalText$Worth" "count" "I", .fieldLink RX1 25 "DecimalText$Worth" "decimals" "I"] ++ wsX10)
def wsX1_digitOf : List Cond := .code yX1_digitOf cX1_digitOf 2 (some .int) :: ([.fieldLink RX1 25 "DecimalText$Worth" "decimals" "I", .methodLink RX1 61 yX1_digitIn, .instanceMethod yX1_digitIn, .selects RX1 yX1_digitIn yX1_digitIn, .initialized RX1, .code yX1_digitIn cX1_digitIn 2 (some .int), .fieldLink RX1 19 "DecimalText$Worth" "row" "[I"] ++ wsX10)
def wsX1_isNearerAbove : List Cond := .code yX1_isNearerAbove cX1_isNearerAbove 4 (some .boolean) :: ([.methodLink RX1 61 yX1_digitIn, .instanceMethod yX1_digitIn, .selects RX1 yX1_digitIn yX1_digitIn, .initialized RX1, .code yX1_digitIn cX1_digitIn 2 (some .int), .fieldLink RX1 19 "DecimalText$Worth" "row" "[I", .methodLink RX1 57 yX1_lowestIndex, .instanceMethod yX1_lowestIndex, .selects RX1 yX1_lowestIndex yX1_lowestIndex, .code yX1_lowestIndex cX1_lowestIndex 2 (some .int), .fieldLink RX1 22 "DecimalText$Worth" "count" "I"] ++ wsX10)
def wsX1_addOneAt : List Cond := .code yX1_addOneAt cX1_addOneAt 3 none :: ([.fieldLink RX1 19 "DecimalText$Worth" "row" "[I", .fieldLink RX1 22 "DecimalText$Worth" "count" "I", .methodLink RX1 50 Lib.Math.max.name, .static Lib.Math.max.name, .initialized "java/lang/Math", .code Lib.Math.max.name Lib.Math.max.code 2 (some .int), .methodLink RX1 61 yX1_digitIn, .instanceMethod yX1_digitIn, .selects RX1 yX1_digitIn yX1_digitIn, .initialized RX1, .code yX1_digitIn cX1_digitIn 2 (some .int)] ++ wsX10)
def wsX1_roundTo : List Cond := .code yX1_roundTo cX1_roundTo 3 none :: ([.fieldLink RX1 25 "DecimalText$Worth" "decimals" "I", .methodLink RX1 64 yX1_isNearerAbove, .instanceMethod yX1_isNearerAbove, .selects RX1 yX1_isNearerAbove yX1_isNearerAbove, .initialized RX1, .code yX1_isNearerAbove cX1_isNearerAbove 4 (some .boolean), .methodLink RX1 61 yX1_digitIn, .instanceMethod yX1_digitIn, .selects RX1 yX1_digitIn yX1_digitIn, .code yX1_digitIn cX1_digitIn 2 (some .int), .fieldLink RX1 19 "DecimalText$Worth" "row" "[I", .methodLink RX1 57 yX1_lowestIndex, .instanceMethod yX1_lowestIndex, .selects RX1 yX1_lowestIndex yX1_lowestIndex, .code yX1_lowestIndex cX1_lowestIndex 2 (some .int), .fieldLink RX1 22 "DecimalText$Worth" "count" "I", .methodLink RX1 68 yX1_addOneAt, .instanceMethod yX1_addOneAt, .selects RX1 yX1_addOneAt yX1_addOneAt, .code yX1_addOneAt cX1_addOneAt 3 none, .methodLink RX1 50 Lib.Math.max.name, .static Lib.Math.max.name, .initialized "java/lang/Math", .code Lib.Math.max.name Lib.Math.max.code 2 (some .int)] ++ wsX10)
def wsX2_init_r1 : List Cond := [Cond.methodLink RX2 3 objectInit, Cond.instanceMethod objectInit, Cond.code objectInit ⟨#[0xb1]⟩ 1 none, Cond.classLink RX2 9 RX1, Cond.instantiable RX1 5, Cond.initialized RX1, Cond.fieldLink RX2 12 "DecimalText" "worth" "LDecimalText$Worth;", Cond.classLink RX2 16 RX0, Cond.instantiable RX0 2, Cond.initialized RX0, Cond.fieldLink RX2 19 "DecimalText" "line" "LDecimalText$Line;", Cond.methodLink RX2 11 yX1_init, Cond.instanceMethod yX1_init, Cond.code yX1_init cX1_init 1 none, Cond.methodLink RX1 5 objectInit, Cond.arrayClass .int, Cond.fieldLink RX1 11 "DecimalText$Worth" "limbs" "[I", Cond.fieldLink RX1 15 "DecimalText$Worth" "limbCount" "I", Cond.fieldLink RX1 19 "DecimalText$Worth" "row" "[I", Cond.fieldLink RX1 22 "DecimalText$Worth" "count" "I", Cond.fieldLink RX1 25 "DecimalText$Worth" "decimals" "I", Cond.methodLink RX2 18 yX0_init, Cond.instanceMethod yX0_init, Cond.code yX0_init cX0_init 1 none]
def wsX2_init_r2 : List Cond := [Cond.methodLink RX0 3 objectInit, Cond.arrayClass .char, Cond.fieldLink RX0 9 "DecimalText$Line" "codes" "[C", Cond.fieldLink RX0 15 "DecimalText$Line" "length" "I"]
def wsX2_init : List Cond := .code yX2_init cX2_init 1 none :: ((wsX2_init_r1 ++ wsX2_init_r2) ++ wsX10 ++ wsX20 ++ wsX00)
def wsX2_isWithin : List Cond := .code yX2_isWithin cX2_isWithin 2 (some .boolean) :: ([])
def wsX2_isForm : List Cond := .code yX2_isForm cX2_isForm 4 (some .boolean) :: ([.methodLink RX2 71 yX2_isWithin, .static yX2_isWithin, .initialized RX2, .code yX2_isWithin cX2_isWithin 2 (some .boolean)])
def wsX2_isFinite : List Cond := .code yX2_isFinite cX2_isFinite 2 (some .boolean) :: ([.methodLink RX2 74 yX2_exponentField, .static yX2_exponentField, .initialized RX2, .code yX2_exponentField cX2_exponentField 2 (some .int)])
def wsX2_isNoNumber : List Cond := .code yX2_isNoNumber cX2_isNoNumber 2 (some .boolean) :: ([.constantLong RX2 78 (4503599627370495), .methodLink RX2 42 yX2_isFinite, .static yX2_isFinite, .initialized RX2, .code yX2_isFinite cX2_isFinite 2 (some .boolean), .methodLink RX2 74 yX2_exponentField, .static yX2_exponentField, .code yX2_exponentField cX2_exponentField 2 (some .int)])
def wsX2_has : List Cond := .code yX2_has cX2_has 2 (some .boolean) :: ([])
def wsX2_putSign : List Cond := .code yX2_putSign cX2_putSign 4 none :: ([.fieldLink RX2 19 "DecimalText" "line" "LDecimalText$Line;", .methodLink RX2 80 yX0_put, .instanceMethod yX0_put, .selects RX0 yX0_put yX0_put, .initialized RX0, .code yX0_put cX0_put 2 none, .fieldLink RX0 15 "DecimalText$Line" "length" "I", .fieldLink RX0 9 "DecimalText$Line" "codes" "[C", .methodLink RX2 49 yX2_has, .static yX2_has, .initialized RX2, .code yX2_has cX2_has 2 (some .boolean)] ++ wsX20 ++ wsX00)
def wsX2_putDigit : List Cond := .code yX2_putDigit cX2_putDigit 2 none :: ([.fieldLink RX2 19 "DecimalText" "line" "LDecimalText$Line;", .methodLink RX2 80 yX0_put, .instanceMethod yX0_put, .selects RX0 yX0_put yX0_put, .initialized RX0, .code yX0_put cX0_put 2 none, .fieldLink RX0 15 "DecimalText$Line" "length" "I", .fieldLink RX0 9 "DecimalText$Line" "codes" "[C"] ++ wsX20 ++ wsX00)
def wsX2_putDigits_r1 : List Cond := [Cond.fieldLink RX2 12 "DecimalText" "worth" "LDecimalText$Worth;", Cond.methodLink RX2 116 yX1_digitOf, Cond.instanceMethod yX1_digitOf, Cond.selects RX1 yX1_digitOf yX1_digitOf, Cond.initialized RX1, Cond.code yX1_digitOf cX1_digitOf 2 (some .int), Cond.fieldLink RX1 25 "DecimalText$Worth" "decimals" "I", Cond.methodLink RX1 61 yX1_digitIn, Cond.instanceMethod yX1_digitIn, Cond.selects RX1 yX1_digitIn yX1_digitIn, Cond.code yX1_digitIn cX1_digitIn 2 (some .int), Cond.fieldLink RX1 19 "DecimalText$Worth" "row" "[I", Cond.methodLink RX2 119 yX2_putDigit, Cond.instanceMethod yX2_putDigit, Cond.selects RX2 yX2_putDigit yX2_putDigit, Cond.initialized RX2, Cond.code yX2_putDigit cX2_putDigit 2 none, Cond.fieldLink RX2 19 "DecimalText" "line" "LDecimalText$Line;", Cond.methodLink RX2 80 yX0_put, Cond.instanceMethod yX0_put, Cond.selects RX0 yX0_put yX0_put, Cond.initialized RX0, Cond.code yX0_put cX0_put 2 none, Cond.fieldLink RX0 15 "DecimalText$Line" "length" "I"]
def wsX2_putDigits_r2 : List Cond := [Cond.fieldLink RX0 9 "DecimalText$Line" "codes" "[C"]
def wsX2_putDigits : List Cond := .code yX2_putDigits cX2_putDigits 4 none :: ((wsX2_putDigits_r1 ++ wsX2_putDigits_r2) ++ wsX20 ++ wsX10 ++ wsX00)
def wsX2_putDecimals_r1 : List Cond := [Cond.fieldLink RX2 19 "DecimalText" "line" "LDecimalText$Line;", Cond.methodLink RX2 80 yX0_put, Cond.instanceMethod yX0_put, Cond.selects RX0 yX0_put yX0_put, Cond.initialized RX0, Cond.code yX0_put cX0_put 2 none, Cond.fieldLink RX0 15 "DecimalText$Line" "length" "I", Cond.fieldLink RX0 9 "DecimalText$Line" "codes" "[C", Cond.methodLink RX2 105 yX2_putDigits, Cond.instanceMethod yX2_putDigits, Cond.selects RX2 yX2_putDigits yX2_putDigits, Cond.initialized RX2, Cond.code yX2_putDigits cX2_putDigits 4 none, Cond.fieldLink RX2 12 "DecimalText" "worth" "LDecimalText$Worth;", Cond.methodLink RX2 116 yX1_digitOf, Cond.instanceMethod yX1_digitOf, Cond.selects RX1 yX1_digitOf yX1_digitOf, Cond.initialized RX1, Cond.code yX1_digitOf cX1_digitOf 2 (some .int), Cond.fieldLink RX1 25 "DecimalText$Worth" "decimals" "I", Cond.methodLink RX1 61 yX1_digitIn, Cond.instanceMethod yX1_digitIn, Cond.selects RX1 yX1_digitIn yX1_digitIn, Cond.code yX1_digitIn cX1_digitIn 2 (some .int)]
def wsX2_putDecimals_r2 : List Cond := [Cond.fieldLink RX1 19 "DecimalText$Worth" "row" "[I", Cond.methodLink RX2 119 yX2_putDigit, Cond.instanceMethod yX2_putDigit, Cond.selects RX2 yX2_putDigit yX2_putDigit, Cond.code yX2_putDigit cX2_putDigit 2 none]
def wsX2_putDecimals : List Cond := .code yX2_putDecimals cX2_putDecimals 4 none :: ((wsX2_putDecimals_r1 ++ wsX2_putDecimals_r2) ++ wsX20 ++ wsX00 ++ wsX10)
def wsX2_putPlain_r1 : List Cond := [Cond.fieldLink RX2 12 "DecimalText" "worth" "LDecimalText$Worth;", Cond.methodLink RX2 99 Lib.Math.max.name, Cond.static Lib.Math.max.name, Cond.initialized "java/lang/Math", Cond.code Lib.Math.max.name Lib.Math.max.code 2 (some .int), Cond.methodLink RX2 92 yX1_roundTo, Cond.instanceMethod yX1_roundTo, Cond.selects RX1 yX1_roundTo yX1_roundTo, Cond.initialized RX1, Cond.code yX1_roundTo cX1_roundTo 3 none, Cond.fieldLink RX1 25 "DecimalText$Worth" "decimals" "I", Cond.methodLink RX1 64 yX1_isNearerAbove, Cond.instanceMethod yX1_isNearerAbove, Cond.selects RX1 yX1_isNearerAbove yX1_isNearerAbove, Cond.code yX1_isNearerAbove cX1_isNearerAbove 4 (some .boolean), Cond.methodLink RX1 61 yX1_digitIn, Cond.instanceMethod yX1_digitIn, Cond.selects RX1 yX1_digitIn yX1_digitIn, Cond.code yX1_digitIn cX1_digitIn 2 (some .int), Cond.fieldLink RX1 19 "DecimalText$Worth" "row" "[I", Cond.methodLink RX1 57 yX1_lowestIndex, Cond.instanceMethod yX1_lowestIndex, Cond.selects RX1 yX1_lowestIndex yX1_lowestIndex, Cond.code yX1_lowestIndex cX1_lowestIndex 2 (some .int)]
def wsX2_putPlain_r2 : List Cond := [Cond.fieldLink RX1 22 "DecimalText$Worth" "count" "I", Cond.methodLink RX1 68 yX1_addOneAt, Cond.instanceMethod yX1_addOneAt, Cond.selects RX1 yX1_addOneAt yX1_addOneAt, Cond.code yX1_addOneAt cX1_addOneAt 3 none, Cond.methodLink RX1 50 Lib.Math.max.name, Cond.methodLink RX2 96 yX1_highestPower, Cond.instanceMethod yX1_highestPower, Cond.selects RX1 yX1_highestPower yX1_highestPower, Cond.code yX1_highestPower cX1_highestPower 1 (some .int), Cond.methodLink RX2 105 yX2_putDigits, Cond.instanceMethod yX2_putDigits, Cond.selects RX2 yX2_putDigits yX2_putDigits, Cond.initialized RX2, Cond.code yX2_putDigits cX2_putDigits 4 none, Cond.methodLink RX2 116 yX1_digitOf, Cond.instanceMethod yX1_digitOf, Cond.selects RX1 yX1_digitOf yX1_digitOf, Cond.code yX1_digitOf cX1_digitOf 2 (some .int), Cond.methodLink RX2 119 yX2_putDigit, Cond.instanceMethod yX2_putDigit, Cond.selects RX2 yX2_putDigit yX2_putDigit, Cond.code yX2_putDigit cX2_putDigit 2 none, Cond.fieldLink RX2 19 "DecimalText" "line" "LDecimalText$Line;"]
def wsX2_putPlain_r3 : List Cond := [Cond.methodLink RX2 80 yX0_put, Cond.instanceMethod yX0_put, Cond.selects RX0 yX0_put yX0_put, Cond.initialized RX0, Cond.code yX0_put cX0_put 2 none, Cond.fieldLink RX0 15 "DecimalText$Line" "length" "I", Cond.fieldLink RX0 9 "DecimalText$Line" "codes" "[C", Cond.methodLink RX2 109 yX2_putDecimals, Cond.instanceMethod yX2_putDecimals, Cond.selects RX2 yX2_putDecimals yX2_putDecimals, Cond.code yX2_putDecimals cX2_putDecimals 4 none]
def wsX2_putPlain : List Cond := .code yX2_putPlain cX2_putPlain 3 none :: ((wsX2_putPlain_r1 ++ (wsX2_putPlain_r2 ++ wsX2_putPlain_r3)) ++ wsX20 ++ wsX10 ++ wsX00)
def wsX2_putExponent : List Cond := .code yX2_putExponent cX2_putExponent 4 none :: ([.methodLink RX2 122 Lib.Math.abs.name, .static Lib.Math.abs.name, .initialized "java/lang/Math", .code Lib.Math.abs.name Lib.Math.abs.code 1 (some .int), .fieldLink RX2 19 "DecimalText" "line" "LDecimalText$Line;", .methodLink RX2 80 yX0_put, .instanceMethod yX0_put, .selects RX0 yX0_put yX0_put, .initialized RX0, .code yX0_put cX0_put 2 none, .fieldLink RX0 15 "DecimalText$Line" "length" "I", .fieldLink RX0 9 "DecimalText$Line" "codes" "[C", .methodLink RX2 119 yX2_putDigit, .instanceMethod yX2_putDigit, .selects RX2 yX2_putDigit yX2_putDigit, .initialized RX2, .code yX2_putDigit cX2_putDigit 2 none] ++ wsX20 ++ wsX00)
def wsX2_putWithExponent_r1 : List Cond := [Cond.fieldLink RX2 12 "DecimalText" "worth" "LDecimalText$Worth;", Cond.methodLink RX2 96 yX1_highestPower, Cond.instanceMethod yX1_highestPower, Cond.selects RX1 yX1_highestPower yX1_highestPower, Cond.initialized RX1, Cond.code yX1_highestPower cX1_highestPower 1 (some .int), Cond.fieldLink RX1 22 "DecimalText$Worth" "count" "I", Cond.fieldLink RX1 25 "DecimalText$Worth" "decimals" "I", Cond.methodLink RX2 92 yX1_roundTo, Cond.instanceMethod yX1_roundTo, Cond.selects RX1 yX1_roundTo yX1_roundTo, Cond.code yX1_roundTo cX1_roundTo 3 none, Cond.methodLink RX1 64 yX1_isNearerAbove, Cond.instanceMethod yX1_isNearerAbove, Cond.selects RX1 yX1_isNearerAbove yX1_isNearerAbove, Cond.code yX1_isNearerAbove cX1_isNearerAbove 4 (some .boolean), Cond.methodLink RX1 61 yX1_digitIn, Cond.instanceMethod yX1_digitIn, Cond.selects RX1 yX1_digitIn yX1_digitIn, Cond.code yX1_digitIn cX1_digitIn 2 (some .int), Cond.fieldLink RX1 19 "DecimalText$Worth" "row" "[I", Cond.methodLink RX1 57 yX1_lowestIndex, Cond.instanceMethod yX1_lowestIndex, Cond.selects RX1 yX1_lowestIndex yX1_lowestIndex]
def wsX2_putWithExponent_r2 : List Cond := [Cond.code yX1_lowestIndex cX1_lowestIndex 2 (some .int), Cond.methodLink RX1 68 yX1_addOneAt, Cond.instanceMethod yX1_addOneAt, Cond.selects RX1 yX1_addOneAt yX1_addOneAt, Cond.code yX1_addOneAt cX1_addOneAt 3 none, Cond.methodLink RX1 50 Lib.Math.max.name, Cond.static Lib.Math.max.name, Cond.initialized "java/lang/Math", Cond.code Lib.Math.max.name Lib.Math.max.code 2 (some .int), Cond.methodLink RX2 105 yX2_putDigits, Cond.instanceMethod yX2_putDigits, Cond.selects RX2 yX2_putDigits yX2_putDigits, Cond.initialized RX2, Cond.code yX2_putDigits cX2_putDigits 4 none, Cond.methodLink RX2 116 yX1_digitOf, Cond.instanceMethod yX1_digitOf, Cond.selects RX1 yX1_digitOf yX1_digitOf, Cond.code yX1_digitOf cX1_digitOf 2 (some .int), Cond.methodLink RX2 119 yX2_putDigit, Cond.instanceMethod yX2_putDigit, Cond.selects RX2 yX2_putDigit yX2_putDigit, Cond.code yX2_putDigit cX2_putDigit 2 none, Cond.fieldLink RX2 19 "DecimalText" "line" "LDecimalText$Line;", Cond.methodLink RX2 80 yX0_put]
def wsX2_putWithExponent_r3 : List Cond := [Cond.instanceMethod yX0_put, Cond.selects RX0 yX0_put yX0_put, Cond.initialized RX0, Cond.code yX0_put cX0_put 2 none, Cond.fieldLink RX0 15 "DecimalText$Line" "length" "I", Cond.fieldLink RX0 9 "DecimalText$Line" "codes" "[C", Cond.methodLink RX2 109 yX2_putDecimals, Cond.instanceMethod yX2_putDecimals, Cond.selects RX2 yX2_putDecimals yX2_putDecimals, Cond.code yX2_putDecimals cX2_putDecimals 4 none, Cond.methodLink RX2 112 yX2_putExponent, Cond.instanceMethod yX2_putExponent, Cond.selects RX2 yX2_putExponent yX2_putExponent, Cond.code yX2_putExponent cX2_putExponent 4 none, Cond.methodLink RX2 122 Lib.Math.abs.name, Cond.static Lib.Math.abs.name, Cond.code Lib.Math.abs.name Lib.Math.abs.code 1 (some .int)]
def wsX2_putWithExponent : List Cond := .code yX2_putWithExponent cX2_putWithExponent 5 none :: ((wsX2_putWithExponent_r1 ++ (wsX2_putWithExponent_r2 ++ wsX2_putWithExponent_r3)) ++ wsX20 ++ wsX10 ++ wsX00)
def wsX2_putBody_r1 : List Cond := [Cond.methodLink RX2 84 yX2_putPlain, Cond.instanceMethod yX2_putPlain, Cond.selects RX2 yX2_putPlain yX2_putPlain, Cond.initialized RX2, Cond.code yX2_putPlain cX2_putPlain 3 none, Cond.fieldLink RX2 12 "DecimalText" "worth" "LDecimalText$Worth;", Cond.methodLink RX2 99 Lib.Math.max.name, Cond.static Lib.Math.max.name, Cond.initialized "java/lang/Math", Cond.code Lib.Math.max.name Lib.Math.max.code 2 (some .int), Cond.methodLink RX2 92 yX1_roundTo, Cond.instanceMethod yX1_roundTo, Cond.selects RX1 yX1_roundTo yX1_roundTo, Cond.initialized RX1, Cond.code yX1_roundTo cX1_roundTo 3 none, Cond.fieldLink RX1 25 "DecimalText$Worth" "decimals" "I", Cond.methodLink RX1 64 yX1_isNearerAbove, Cond.instanceMethod yX1_isNearerAbove, Cond.selects RX1 yX1_isNearerAbove yX1_isNearerAbove, Cond.code yX1_isNearerAbove cX1_isNearerAbove 4 (some .boolean), Cond.methodLink RX1 61 yX1_digitIn, Cond.instanceMethod yX1_digitIn, Cond.selects RX1 yX1_digitIn yX1_digitIn, Cond.code yX1_digitIn cX1_digitIn 2 (some .int)]
def wsX2_putBody_r2 : List Cond := [Cond.fieldLink RX1 19 "DecimalText$Worth" "row" "[I", Cond.methodLink RX1 57 yX1_lowestIndex, Cond.instanceMethod yX1_lowestIndex, Cond.selects RX1 yX1_lowestIndex yX1_lowestIndex, Cond.code yX1_lowestIndex cX1_lowestIndex 2 (some .int), Cond.fieldLink RX1 22 "DecimalText$Worth" "count" "I", Cond.methodLink RX1 68 yX1_addOneAt, Cond.instanceMethod yX1_addOneAt, Cond.selects RX1 yX1_addOneAt yX1_addOneAt, Cond.code yX1_addOneAt cX1_addOneAt 3 none, Cond.methodLink RX1 50 Lib.Math.max.name, Cond.methodLink RX2 96 yX1_highestPower, Cond.instanceMethod yX1_highestPower, Cond.selects RX1 yX1_highestPower yX1_highestPower, Cond.code yX1_highestPower cX1_highestPower 1 (some .int), Cond.methodLink RX2 105 yX2_putDigits, Cond.instanceMethod yX2_putDigits, Cond.selects RX2 yX2_putDigits yX2_putDigits, Cond.code yX2_putDigits cX2_putDigits 4 none, Cond.methodLink RX2 116 yX1_digitOf, Cond.instanceMethod yX1_digitOf, Cond.selects RX1 yX1_digitOf yX1_digitOf, Cond.code yX1_digitOf cX1_digitOf 2 (some .int), Cond.methodLink RX2 119 yX2_putDigit]
def wsX2_putBody_r3 : List Cond := [Cond.instanceMethod yX2_putDigit, Cond.selects RX2 yX2_putDigit yX2_putDigit, Cond.code yX2_putDigit cX2_putDigit 2 none, Cond.fieldLink RX2 19 "DecimalText" "line" "LDecimalText$Line;", Cond.methodLink RX2 80 yX0_put, Cond.instanceMethod yX0_put, Cond.selects RX0 yX0_put yX0_put, Cond.initialized RX0, Cond.code yX0_put cX0_put 2 none, Cond.fieldLink RX0 15 "DecimalText$Line" "length" "I", Cond.fieldLink RX0 9 "DecimalText$Line" "codes" "[C", Cond.methodLink RX2 109 yX2_putDecimals, Cond.instanceMethod yX2_putDecimals, Cond.selects RX2 yX2_putDecimals yX2_putDecimals, Cond.code yX2_putDecimals cX2_putDecimals 4 none, Cond.methodLink RX2 88 yX2_putWithExponent, Cond.instanceMethod yX2_putWithExponent, Cond.selects RX2 yX2_putWithExponent yX2_putWithExponent, Cond.code yX2_putWithExponent cX2_putWithExponent 5 none, Cond.methodLink RX2 112 yX2_putExponent, Cond.instanceMethod yX2_putExponent, Cond.selects RX2 yX2_putExponent yX2_putExponent, Cond.code yX2_putExponent cX2_putExponent 4 none, Cond.methodLink RX2 122 Lib.Math.abs.name]
def wsX2_putBody_r4 : List Cond := [Cond.static Lib.Math.abs.name, Cond.code Lib.Math.abs.name Lib.Math.abs.code 1 (some .int)]
def wsX2_putBody : List Cond := .code yX2_putBody cX2_putBody 4 none :: ((wsX2_putBody_r1 ++ (wsX2_putBody_r2 ++ (wsX2_putBody_r3 ++ wsX2_putBody_r4))) ++ wsX20 ++ wsX10 ++ wsX00)
def wsX2_putInfinite : List Cond := .code yX2_putInfinite cX2_putInfinite 1 none :: ([.fieldLink RX2 19 "DecimalText" "line" "LDecimalText$Line;", .methodLink RX2 80 yX0_put, .instanceMethod yX0_put, .selects RX0 yX0_put yX0_put, .initialized RX0, .code yX0_put cX0_put 2 none, .fieldLink RX0 15 "DecimalText$Line" "length" "I", .fieldLink RX0 9 "DecimalText$Line" "codes" "[C"] ++ wsX20 ++ wsX00)
def wsX2_pad : List Cond := .code yX2_pad cX2_pad 5 none :: ([.fieldLink RX2 19 "DecimalText" "line" "LDecimalText$Line;", .methodLink RX2 49 yX2_has, .static yX2_has, .initialized RX2, .code yX2_has cX2_has 2 (some .boolean), .methodLink RX2 38 yX0_length, .instanceMethod yX0_length, .selects RX0 yX0_length yX0_length, .initialized RX0, .code yX0_length cX0_length 1 (some .int), .fieldLink RX0 15 "DecimalText$Line" "length" "I", .methodLink RX2 125 yX0_insert, .instanceMethod yX0_insert, .selects RX0 yX0_insert yX0_insert, .code yX0_insert cX0_insert 5 none, .fieldLink RX0 9 "DecimalText$Line" "codes" "[C"] ++ wsX20 ++ wsX00)
def wsX2_make_r1 : List Cond := [Cond.fieldLink RX2 19 "DecimalText" "line" "LDecimalText$Line;", Cond.fieldLink RX2 12 "DecimalText" "worth" "LDecimalText$Worth;", Cond.methodLink RX2 23 yX2_isForm, Cond.static yX2_isForm, Cond.initialized RX2, Cond.code yX2_isForm cX2_isForm 4 (some .boolean), Cond.methodLink RX2 71 yX2_isWithin, Cond.static yX2_isWithin, Cond.code yX2_isWithin cX2_isWithin 2 (some .boolean), Cond.methodLink RX2 27 yX2_isNoNumber, Cond.static yX2_isNoNumber, Cond.code yX2_isNoNumber cX2_isNoNumber 2 (some .boolean), Cond.constantLong RX2 78 (4503599627370495), Cond.methodLink RX2 42 yX2_isFinite, Cond.static yX2_isFinite, Cond.code yX2_isFinite cX2_isFinite 2 (some .boolean), Cond.methodLink RX2 74 yX2_exponentField, Cond.static yX2_exponentField, Cond.code yX2_exponentField cX2_exponentField 2 (some .int), Cond.methodLink RX2 31 yX0_clear, Cond.instanceMethod yX0_clear, Cond.selects RX0 yX0_clear yX0_clear, Cond.initialized RX0, Cond.code yX0_clear cX0_clear 1 none]
def wsX2_make_r2 : List Cond := [Cond.fieldLink RX0 15 "DecimalText$Line" "length" "I", Cond.methodLink RX2 34 yX2_putSign, Cond.instanceMethod yX2_putSign, Cond.selects RX2 yX2_putSign yX2_putSign, Cond.code yX2_putSign cX2_putSign 4 none, Cond.methodLink RX2 80 yX0_put, Cond.instanceMethod yX0_put, Cond.selects RX0 yX0_put yX0_put, Cond.code yX0_put cX0_put 2 none, Cond.fieldLink RX0 9 "DecimalText$Line" "codes" "[C", Cond.methodLink RX2 49 yX2_has, Cond.static yX2_has, Cond.code yX2_has cX2_has 2 (some .boolean), Cond.methodLink RX2 38 yX0_length, Cond.instanceMethod yX0_length, Cond.selects RX0 yX0_length yX0_length, Cond.code yX0_length cX0_length 1 (some .int), Cond.methodLink RX2 45 yX1_take, Cond.instanceMethod yX1_take, Cond.selects RX1 yX1_take yX1_take, Cond.initialized RX1, Cond.code yX1_take cX1_take 7 none, Cond.constantLong RX1 32 (4503599627370495), Cond.constantLong RX1 34 (4503599627370496)]
def wsX2_make_r3 : List Cond := [Cond.methodLink RX1 40 Lib.Math.abs.name, Cond.static Lib.Math.abs.name, Cond.initialized "java/lang/Math", Cond.code Lib.Math.abs.name Lib.Math.abs.code 1 (some .int), Cond.methodLink RX1 50 Lib.Math.max.name, Cond.static Lib.Math.max.name, Cond.code Lib.Math.max.name Lib.Math.max.code 2 (some .int), Cond.fieldLink RX1 25 "DecimalText$Worth" "decimals" "I", Cond.methodLink RX1 36 yX1_setLimbs, Cond.instanceMethod yX1_setLimbs, Cond.selects RX1 yX1_setLimbs yX1_setLimbs, Cond.code yX1_setLimbs cX1_setLimbs 3 none, Cond.fieldLink RX1 15 "DecimalText$Worth" "limbCount" "I", Cond.constantLong RX1 72 (1000000000), Cond.methodLink RX1 74 yX1_addLimb, Cond.instanceMethod yX1_addLimb, Cond.selects RX1 yX1_addLimb yX1_addLimb, Cond.code yX1_addLimb cX1_addLimb 2 none, Cond.fieldLink RX1 11 "DecimalText$Worth" "limbs" "[I", Cond.methodLink RX1 46 yX1_multiplyByPower, Cond.instanceMethod yX1_multiplyByPower, Cond.selects RX1 yX1_multiplyByPower yX1_multiplyByPower, Cond.code yX1_multiplyByPower cX1_multiplyByPower 5 none, Cond.constant RX1 77 (200000000)]
def wsX2_make_r4 : List Cond := [Cond.methodLink RX1 78 yX1_multiplyBy, Cond.instanceMethod yX1_multiplyBy, Cond.selects RX1 yX1_multiplyBy yX1_multiplyBy, Cond.code yX1_multiplyBy cX1_multiplyBy 7 none, Cond.methodLink RX1 54 yX1_spreadLimbs, Cond.instanceMethod yX1_spreadLimbs, Cond.selects RX1 yX1_spreadLimbs yX1_spreadLimbs, Cond.code yX1_spreadLimbs cX1_spreadLimbs 2 none, Cond.fieldLink RX1 19 "DecimalText$Worth" "row" "[I", Cond.fieldLink RX1 22 "DecimalText$Worth" "count" "I", Cond.methodLink RX1 81 yJ7_fill_53178, Cond.static yJ7_fill_53178, Cond.initialized RJ7, Cond.code yJ7_fill_53178 cJ7_fill_53178 4 none, Cond.methodLink RX1 87 yX1_spreadLimb, Cond.instanceMethod yX1_spreadLimb, Cond.selects RX1 yX1_spreadLimb yX1_spreadLimb, Cond.code yX1_spreadLimb cX1_spreadLimb 5 none, Cond.methodLink RX2 53 yX2_putBody, Cond.instanceMethod yX2_putBody, Cond.selects RX2 yX2_putBody yX2_putBody, Cond.code yX2_putBody cX2_putBody 4 none, Cond.methodLink RX2 84 yX2_putPlain, Cond.instanceMethod yX2_putPlain]
def wsX2_make_r5 : List Cond := [Cond.selects RX2 yX2_putPlain yX2_putPlain, Cond.code yX2_putPlain cX2_putPlain 3 none, Cond.methodLink RX2 99 Lib.Math.max.name, Cond.methodLink RX2 92 yX1_roundTo, Cond.instanceMethod yX1_roundTo, Cond.selects RX1 yX1_roundTo yX1_roundTo, Cond.code yX1_roundTo cX1_roundTo 3 none, Cond.methodLink RX1 64 yX1_isNearerAbove, Cond.instanceMethod yX1_isNearerAbove, Cond.selects RX1 yX1_isNearerAbove yX1_isNearerAbove, Cond.code yX1_isNearerAbove cX1_isNearerAbove 4 (some .boolean), Cond.methodLink RX1 61 yX1_digitIn, Cond.instanceMethod yX1_digitIn, Cond.selects RX1 yX1_digitIn yX1_digitIn, Cond.code yX1_digitIn cX1_digitIn 2 (some .int), Cond.methodLink RX1 57 yX1_lowestIndex, Cond.instanceMethod yX1_lowestIndex, Cond.selects RX1 yX1_lowestIndex yX1_lowestIndex, Cond.code yX1_lowestIndex cX1_lowestIndex 2 (some .int), Cond.methodLink RX1 68 yX1_addOneAt, Cond.instanceMethod yX1_addOneAt, Cond.selects RX1 yX1_addOneAt yX1_addOneAt, Cond.code yX1_addOneAt cX1_addOneAt 3 none, Cond.methodLink RX2 96 yX1_highestPower]
def wsX2_make_r6 : List Cond := [Cond.instanceMethod yX1_highestPower, Cond.selects RX1 yX1_highestPower yX1_highestPower, Cond.code yX1_highestPower cX1_highestPower 1 (some .int), Cond.methodLink RX2 105 yX2_putDigits, Cond.instanceMethod yX2_putDigits, Cond.selects RX2 yX2_putDigits yX2_putDigits, Cond.code yX2_putDigits cX2_putDigits 4 none, Cond.methodLink RX2 116 yX1_digitOf, Cond.instanceMethod yX1_digitOf, Cond.selects RX1 yX1_digitOf yX1_digitOf, Cond.code yX1_digitOf cX1_digitOf 2 (some .int), Cond.methodLink RX2 119 yX2_putDigit, Cond.instanceMethod yX2_putDigit, Cond.selects RX2 yX2_putDigit yX2_putDigit, Cond.code yX2_putDigit cX2_putDigit 2 none, Cond.methodLink RX2 109 yX2_putDecimals, Cond.instanceMethod yX2_putDecimals, Cond.selects RX2 yX2_putDecimals yX2_putDecimals, Cond.code yX2_putDecimals cX2_putDecimals 4 none, Cond.methodLink RX2 88 yX2_putWithExponent, Cond.instanceMethod yX2_putWithExponent, Cond.selects RX2 yX2_putWithExponent yX2_putWithExponent, Cond.code yX2_putWithExponent cX2_putWithExponent 5 none, Cond.methodLink RX2 112 yX2_putExponent]
def wsX2_make_r7 : List Cond := [Cond.instanceMethod yX2_putExponent, Cond.selects RX2 yX2_putExponent yX2_putExponent, Cond.code yX2_putExponent cX2_putExponent 4 none, Cond.methodLink RX2 122 Lib.Math.abs.name, Cond.methodLink RX2 57 yX2_putInfinite, Cond.instanceMethod yX2_putInfinite, Cond.selects RX2 yX2_putInfinite yX2_putInfinite, Cond.code yX2_putInfinite cX2_putInfinite 1 none, Cond.methodLink RX2 60 yX2_pad, Cond.instanceMethod yX2_pad, Cond.selects RX2 yX2_pad yX2_pad, Cond.code yX2_pad cX2_pad 5 none, Cond.methodLink RX2 125 yX0_insert, Cond.instanceMethod yX0_insert, Cond.selects RX0 yX0_insert yX0_insert, Cond.code yX0_insert cX0_insert 5 none]
def wsX2_make : List Cond := .code yX2_make cX2_make 9 (some .int) :: ((wsX2_make_r1 ++ (wsX2_make_r2 ++ (wsX2_make_r3 ++ (wsX2_make_r4 ++ (wsX2_make_r5 ++ (wsX2_make_r6 ++ wsX2_make_r7)))))) ++ wsX20 ++ wsX00 ++ wsX10)
def wsX2_at : List Cond := .code yX2_at cX2_at 2 (some .int) :: ([.fieldLink RX2 19 "DecimalText" "line" "LDecimalText$Line;", .methodLink RX2 64 yX0_codeAt, .instanceMethod yX0_codeAt, .selects RX0 yX0_codeAt yX0_codeAt, .initialized RX0, .code yX0_codeAt cX0_codeAt 2 (some .int), .fieldLink RX0 15 "DecimalText$Line" "length" "I", .fieldLink RX0 9 "DecimalText$Line" "codes" "[C"] ++ wsX20 ++ wsX00)
def wsX2_digits_r1 : List Cond := [Cond.fieldLink RX2 12 "DecimalText" "worth" "LDecimalText$Worth;", Cond.methodLink RX2 42 yX2_isFinite, Cond.static yX2_isFinite, Cond.initialized RX2, Cond.code yX2_isFinite cX2_isFinite 2 (some .boolean), Cond.methodLink RX2 74 yX2_exponentField, Cond.static yX2_exponentField, Cond.code yX2_exponentField cX2_exponentField 2 (some .int), Cond.methodLink RX2 45 yX1_take, Cond.instanceMethod yX1_take, Cond.selects RX1 yX1_take yX1_take, Cond.initialized RX1, Cond.code yX1_take cX1_take 7 none, Cond.constantLong RX1 32 (4503599627370495), Cond.constantLong RX1 34 (4503599627370496), Cond.methodLink RX1 40 Lib.Math.abs.name, Cond.static Lib.Math.abs.name, Cond.initialized "java/lang/Math", Cond.code Lib.Math.abs.name Lib.Math.abs.code 1 (some .int), Cond.methodLink RX1 50 Lib.Math.max.name, Cond.static Lib.Math.max.name, Cond.code Lib.Math.max.name Lib.Math.max.code 2 (some .int), Cond.fieldLink RX1 25 "DecimalText$Worth" "decimals" "I", Cond.methodLink RX1 36 yX1_setLimbs]
def wsX2_digits_r2 : List Cond := [Cond.instanceMethod yX1_setLimbs, Cond.selects RX1 yX1_setLimbs yX1_setLimbs, Cond.code yX1_setLimbs cX1_setLimbs 3 none, Cond.fieldLink RX1 15 "DecimalText$Worth" "limbCount" "I", Cond.constantLong RX1 72 (1000000000), Cond.methodLink RX1 74 yX1_addLimb, Cond.instanceMethod yX1_addLimb, Cond.selects RX1 yX1_addLimb yX1_addLimb, Cond.code yX1_addLimb cX1_addLimb 2 none, Cond.fieldLink RX1 11 "DecimalText$Worth" "limbs" "[I", Cond.methodLink RX1 46 yX1_multiplyByPower, Cond.instanceMethod yX1_multiplyByPower, Cond.selects RX1 yX1_multiplyByPower yX1_multiplyByPower, Cond.code yX1_multiplyByPower cX1_multiplyByPower 5 none, Cond.constant RX1 77 (200000000), Cond.methodLink RX1 78 yX1_multiplyBy, Cond.instanceMethod yX1_multiplyBy, Cond.selects RX1 yX1_multiplyBy yX1_multiplyBy, Cond.code yX1_multiplyBy cX1_multiplyBy 7 none, Cond.methodLink RX1 54 yX1_spreadLimbs, Cond.instanceMethod yX1_spreadLimbs, Cond.selects RX1 yX1_spreadLimbs yX1_spreadLimbs, Cond.code yX1_spreadLimbs cX1_spreadLimbs 2 none, Cond.fieldLink RX1 19 "DecimalText$Worth" "row" "[I"]
def wsX2_digits_r3 : List Cond := [Cond.fieldLink RX1 22 "DecimalText$Worth" "count" "I", Cond.methodLink RX1 81 yJ7_fill_53178, Cond.static yJ7_fill_53178, Cond.initialized RJ7, Cond.code yJ7_fill_53178 cJ7_fill_53178 4 none, Cond.methodLink RX1 87 yX1_spreadLimb, Cond.instanceMethod yX1_spreadLimb, Cond.selects RX1 yX1_spreadLimb yX1_spreadLimb, Cond.code yX1_spreadLimb cX1_spreadLimb 5 none, Cond.methodLink RX2 68 yX1_digitCount, Cond.instanceMethod yX1_digitCount, Cond.selects RX1 yX1_digitCount yX1_digitCount, Cond.code yX1_digitCount cX1_digitCount 1 (some .int), Cond.methodLink RX1 57 yX1_lowestIndex, Cond.instanceMethod yX1_lowestIndex, Cond.selects RX1 yX1_lowestIndex yX1_lowestIndex, Cond.code yX1_lowestIndex cX1_lowestIndex 2 (some .int), Cond.methodLink RX1 61 yX1_digitIn, Cond.instanceMethod yX1_digitIn, Cond.selects RX1 yX1_digitIn yX1_digitIn, Cond.code yX1_digitIn cX1_digitIn 2 (some .int)]
def wsX2_digits : List Cond := .code yX2_digits cX2_digits 3 (some .int) :: ((wsX2_digits_r1 ++ (wsX2_digits_r2 ++ wsX2_digits_r3)) ++ wsX20 ++ wsX10)
def wsX3_init : List Cond := .code yX3_init cX3_init 1 none :: ([.methodLink RX3 1 objectInit, .instanceMethod objectInit, .code objectInit ⟨#[0xb1]⟩ 1 none, .arrayClass .byte, .fieldLink RX3 7 "DecimalTextModel" "row" "[B", .arrayClass .int, .fieldLink RX3 13 "DecimalTextModel" "text" "[I"] ++ wsX30)
def wsX3_infinite : List Cond := .code yX3_infinite cX3_infinite 2 (some .boolean) :: ([.constantLong RX3 17 (2047), .constantLong RX3 19 (4503599627370495)])
def wsX3_none : List Cond := .code yX3_none cX3_none 2 (some .boolean) :: ([.constantLong RX3 17 (2047), .constantLong RX3 19 (4503599627370495)])
def wsX3_trim : List Cond := .code yX3_trim cX3_trim 3 none :: ([.fieldLink RX3 23 "DecimalTextModel" "digits" "I", .fieldLink RX3 7 "DecimalTextModel" "row" "[B", .fieldLink RX3 31 "DecimalTextModel" "point" "I"] ++ wsX30)
def wsX3_twice : List Cond := .code yX3_twice cX3_twice 4 none :: ([.fieldLink RX3 23 "DecimalTextModel" "digits" "I", .fieldLink RX3 7 "DecimalTextModel" "row" "[B", .fieldLink RX3 31 "DecimalTextModel" "point" "I", .methodLink RX3 34 yX3_trim, .instanceMethod yX3_trim, .selects RX3 yX3_trim yX3_trim, .initialized RX3, .code yX3_trim cX3_trim 3 none] ++ wsX30)
def wsX3_half : List Cond := .code yX3_half cX3_half 4 none :: ([.fieldLink RX3 23 "DecimalTextModel" "digits" "I", .fieldLink RX3 7 "DecimalTextModel" "row" "[B", .methodLink RX3 34 yX3_trim, .instanceMethod yX3_trim, .selects RX3 yX3_trim yX3_trim, .initialized RX3, .code yX3_trim cX3_trim 3 none, .fieldLink RX3 31 "DecimalTextModel" "point" "I"] ++ wsX30)
def wsX3_spread : List Cond := .code yX3_spread cX3_spread 8 none :: ([.constantLong RX3 17 (2047), .constantLong RX3 19 (4503599627370495), .constantLong RX3 21 (4503599627370496), .fieldLink RX3 23 "DecimalTextModel" "digits" "I", .constantLong RX3 27 (1000000000000000000), .fieldLink RX3 7 "DecimalTextModel" "row" "[B", .constantLong RX3 29 (10), .fieldLink RX3 31 "DecimalTextModel" "point" "I", .methodLink RX3 34 yX3_trim, .instanceMethod yX3_trim, .selects RX3 yX3_trim yX3_trim, .initialized RX3, .code yX3_trim cX3_trim 3 none, .methodLink RX3 37 yX3_twice, .instanceMethod yX3_twice, .selects RX3 yX3_twice yX3_twice, .code yX3_twice cX3_twice 4 none, .methodLink RX3 40 yX3_half, .instanceMethod yX3_half, .selects RX3 yX3_half yX3_half, .code yX3_half cX3_half 4 none] ++ wsX30)
def wsX3_cut : List Cond := .code yX3_cut cX3_cut 6 none :: ([.fieldLink RX3 23 "DecimalTextModel" "digits" "I", .fieldLink RX3 31 "DecimalTextModel" "point" "I", .fieldLink RX3 7 "DecimalTextModel" "row" "[B", .methodLink RX3 34 yX3_trim, .instanceMethod yX3_trim, .selects RX3 yX3_trim yX3_trim, .initialized RX3, .code yX3_trim cX3_trim 3 none] ++ wsX30)
def wsX3_put : List Cond := .code yX3_put cX3_put 2 none :: ([.fieldLink RX3 13 "DecimalTextModel" "text" "[I", .fieldLink RX3 43 "DecimalTextModel" "length" "I"] ++ wsX30)
def wsX3_digit : List Cond := .code yX3_digit cX3_digit 2 (some .int) :: ([.fieldLink RX3 23 "DecimalTextModel" "digits" "I", .fieldLink RX3 7 "DecimalTextModel" "row" "[B"] ++ wsX30)
def wsX3_body : List Cond := .code yX3_body cX3_body 6 none :: ([.fieldLink RX3 31 "DecimalTextModel" "point" "I", .fieldLink RX3 23 "DecimalTextModel" "digits" "I", .methodLink RX3 46 yX3_cut, .instanceMethod yX3_cut, .selects RX3 yX3_cut yX3_cut, .initialized RX3, .code yX3_cut cX3_cut 6 none, .fieldLink RX3 7 "DecimalTextModel" "row" "[B", .methodLink RX3 34 yX3_trim, .instanceMethod yX3_trim, .selects RX3 yX3_trim yX3_trim, .code yX3_trim cX3_trim 3 none, .methodLink RX3 50 yX3_digit, .instanceMethod yX3_digit, .selects RX3 yX3_digit yX3_digit, .code yX3_digit cX3_digit 2 (some .int), .methodLink RX3 54 yX3_put, .instanceMethod yX3_put, .selects RX3 yX3_put yX3_put, .code yX3_put cX3_put 2 none, .fieldLink RX3 13 "DecimalTextModel" "text" "[I", .fieldLink RX3 43 "DecimalTextModel" "length" "I"] ++ wsX30)
def wsX3_fill : List Cond := .code yX3_fill cX3_fill 9 none :: ([.fieldLink RX3 43 "DecimalTextModel" "length" "I", .fieldLink RX3 13 "DecimalTextModel" "text" "[I"] ++ wsX30)
def wsX3_make_r1 : List Cond := [Cond.fieldLink RX3 43 "DecimalTextModel" "length" "I", Cond.methodLink RX3 57 yX3_none, Cond.static yX3_none, Cond.initialized RX3, Cond.code yX3_none cX3_none 2 (some .boolean), Cond.constantLong RX3 17 (2047), Cond.constantLong RX3 19 (4503599627370495), Cond.methodLink RX3 54 yX3_put, Cond.instanceMethod yX3_put, Cond.selects RX3 yX3_put yX3_put, Cond.code yX3_put cX3_put 2 none, Cond.fieldLink RX3 13 "DecimalTextModel" "text" "[I", Cond.methodLink RX3 61 yX3_infinite, Cond.static yX3_infinite, Cond.code yX3_infinite cX3_infinite 2 (some .boolean), Cond.methodLink RX3 64 yX3_spread, Cond.instanceMethod yX3_spread, Cond.selects RX3 yX3_spread yX3_spread, Cond.code yX3_spread cX3_spread 8 none, Cond.constantLong RX3 21 (4503599627370496), Cond.fieldLink RX3 23 "DecimalTextModel" "digits" "I", Cond.constantLong RX3 27 (1000000000000000000), Cond.fieldLink RX3 7 "DecimalTextModel" "row" "[B", Cond.constantLong RX3 29 (10)]
def wsX3_make_r2 : List Cond := [Cond.fieldLink RX3 31 "DecimalTextModel" "point" "I", Cond.methodLink RX3 34 yX3_trim, Cond.instanceMethod yX3_trim, Cond.selects RX3 yX3_trim yX3_trim, Cond.code yX3_trim cX3_trim 3 none, Cond.methodLink RX3 37 yX3_twice, Cond.instanceMethod yX3_twice, Cond.selects RX3 yX3_twice yX3_twice, Cond.code yX3_twice cX3_twice 4 none, Cond.methodLink RX3 40 yX3_half, Cond.instanceMethod yX3_half, Cond.selects RX3 yX3_half yX3_half, Cond.code yX3_half cX3_half 4 none, Cond.methodLink RX3 68 yX3_body, Cond.instanceMethod yX3_body, Cond.selects RX3 yX3_body yX3_body, Cond.code yX3_body cX3_body 6 none, Cond.methodLink RX3 46 yX3_cut, Cond.instanceMethod yX3_cut, Cond.selects RX3 yX3_cut yX3_cut, Cond.code yX3_cut cX3_cut 6 none, Cond.methodLink RX3 50 yX3_digit, Cond.instanceMethod yX3_digit, Cond.selects RX3 yX3_digit yX3_digit]
def wsX3_make_r3 : List Cond := [Cond.code yX3_digit cX3_digit 2 (some .int), Cond.methodLink RX3 72 yX3_fill, Cond.instanceMethod yX3_fill, Cond.selects RX3 yX3_fill yX3_fill, Cond.code yX3_fill cX3_fill 9 none]
def wsX3_make : List Cond := .code yX3_make cX3_make 10 (some .int) :: ((wsX3_make_r1 ++ (wsX3_make_r2 ++ wsX3_make_r3)) ++ wsX30)
def wsX3_at : List Cond := .code yX3_at cX3_at 2 (some .int) :: ([.fieldLink RX3 43 "DecimalTextModel" "length" "I", .fieldLink RX3 13 "DecimalTextModel" "text" "[I"] ++ wsX30)
def wsX3_digits_r1 : List Cond := [Cond.fieldLink RX3 23 "DecimalTextModel" "digits" "I", Cond.methodLink RX3 61 yX3_infinite, Cond.static yX3_infinite, Cond.initialized RX3, Cond.code yX3_infinite cX3_infinite 2 (some .boolean), Cond.constantLong RX3 17 (2047), Cond.constantLong RX3 19 (4503599627370495), Cond.methodLink RX3 57 yX3_none, Cond.static yX3_none, Cond.code yX3_none cX3_none 2 (some .boolean), Cond.methodLink RX3 64 yX3_spread, Cond.instanceMethod yX3_spread, Cond.selects RX3 yX3_spread yX3_spread, Cond.code yX3_spread cX3_spread 8 none, Cond.constantLong RX3 21 (4503599627370496), Cond.constantLong RX3 27 (1000000000000000000), Cond.fieldLink RX3 7 "DecimalTextModel" "row" "[B", Cond.constantLong RX3 29 (10), Cond.fieldLink RX3 31 "DecimalTextModel" "point" "I", Cond.methodLink RX3 34 yX3_trim, Cond.instanceMethod yX3_trim, Cond.selects RX3 yX3_trim yX3_trim, Cond.code yX3_trim cX3_trim 3 none, Cond.methodLink RX3 37 yX3_twice]
def wsX3_digits_r2 : List Cond := [Cond.instanceMethod yX3_twice, Cond.selects RX3 yX3_twice yX3_twice, Cond.code yX3_twice cX3_twice 4 none, Cond.methodLink RX3 40 yX3_half, Cond.instanceMethod yX3_half, Cond.selects RX3 yX3_half yX3_half, Cond.code yX3_half cX3_half 4 none]
def wsX3_digits : List Cond := .code yX3_digits cX3_digits 3 (some .int) :: ((wsX3_digits_r1 ++ wsX3_digits_r2) ++ wsX30)
def wsJ9_abs_0f7a4 : List Cond := .code yJ9_abs_0f7a4 cJ9_abs_0f7a4 1 (some .int) :: ([])
def wsJ9_max_7cf53 : List Cond := .code yJ9_max_7cf53 cJ9_max_7cf53 2 (some .int) :: ([])
def wsL_law_r1 : List Cond := [Cond.classLink RL 7 RX2, Cond.instantiable RX2 2, Cond.initialized RX2, Cond.classLink RL 10 RX3, Cond.instantiable RX3 5, Cond.initialized RX3, Cond.constantLong RL 13 (4294967295), Cond.methodLink RL 9 yX2_init, Cond.instanceMethod yX2_init, Cond.code yX2_init cX2_init 1 none, Cond.methodLink RX2 3 objectInit, Cond.instanceMethod objectInit, Cond.code objectInit ⟨#[0xb1]⟩ 1 none, Cond.classLink RX2 9 RX1, Cond.instantiable RX1 5, Cond.initialized RX1, Cond.fieldLink RX2 12 "DecimalText" "worth" "LDecimalText$Worth;", Cond.classLink RX2 16 RX0, Cond.instantiable RX0 2, Cond.initialized RX0, Cond.fieldLink RX2 19 "DecimalText" "line" "LDecimalText$Line;", Cond.methodLink RX2 11 yX1_init, Cond.instanceMethod yX1_init, Cond.code yX1_init cX1_init 1 none]
def wsL_law_r2 : List Cond := [Cond.methodLink RX1 5 objectInit, Cond.arrayClass .int, Cond.fieldLink RX1 11 "DecimalText$Worth" "limbs" "[I", Cond.fieldLink RX1 15 "DecimalText$Worth" "limbCount" "I", Cond.fieldLink RX1 19 "DecimalText$Worth" "row" "[I", Cond.fieldLink RX1 22 "DecimalText$Worth" "count" "I", Cond.fieldLink RX1 25 "DecimalText$Worth" "decimals" "I", Cond.methodLink RX2 18 yX0_init, Cond.instanceMethod yX0_init, Cond.code yX0_init cX0_init 1 none, Cond.methodLink RX0 3 objectInit, Cond.arrayClass .char, Cond.fieldLink RX0 9 "DecimalText$Line" "codes" "[C", Cond.fieldLink RX0 15 "DecimalText$Line" "length" "I", Cond.methodLink RL 12 yX3_init, Cond.instanceMethod yX3_init, Cond.code yX3_init cX3_init 1 none, Cond.methodLink RX3 1 objectInit, Cond.arrayClass .byte, Cond.fieldLink RX3 7 "DecimalTextModel" "row" "[B", Cond.fieldLink RX3 13 "DecimalTextModel" "text" "[I", Cond.methodLink RL 15 yX2_make, Cond.instanceMethod yX2_make, Cond.selects RX2 yX2_make yX2_make]
def wsL_law_r3 : List Cond := [Cond.code yX2_make cX2_make 9 (some .int), Cond.methodLink RX2 23 yX2_isForm, Cond.static yX2_isForm, Cond.code yX2_isForm cX2_isForm 4 (some .boolean), Cond.methodLink RX2 71 yX2_isWithin, Cond.static yX2_isWithin, Cond.code yX2_isWithin cX2_isWithin 2 (some .boolean), Cond.methodLink RX2 27 yX2_isNoNumber, Cond.static yX2_isNoNumber, Cond.code yX2_isNoNumber cX2_isNoNumber 2 (some .boolean), Cond.constantLong RX2 78 (4503599627370495), Cond.methodLink RX2 42 yX2_isFinite, Cond.static yX2_isFinite, Cond.code yX2_isFinite cX2_isFinite 2 (some .boolean), Cond.methodLink RX2 74 yX2_exponentField, Cond.static yX2_exponentField, Cond.code yX2_exponentField cX2_exponentField 2 (some .int), Cond.methodLink RX2 31 yX0_clear, Cond.instanceMethod yX0_clear, Cond.selects RX0 yX0_clear yX0_clear, Cond.code yX0_clear cX0_clear 1 none, Cond.methodLink RX2 34 yX2_putSign, Cond.instanceMethod yX2_putSign, Cond.selects RX2 yX2_putSign yX2_putSign]
def wsL_law_r4 : List Cond := [Cond.code yX2_putSign cX2_putSign 4 none, Cond.methodLink RX2 80 yX0_put, Cond.instanceMethod yX0_put, Cond.selects RX0 yX0_put yX0_put, Cond.code yX0_put cX0_put 2 none, Cond.methodLink RX2 49 yX2_has, Cond.static yX2_has, Cond.code yX2_has cX2_has 2 (some .boolean), Cond.methodLink RX2 38 yX0_length, Cond.instanceMethod yX0_length, Cond.selects RX0 yX0_length yX0_length, Cond.code yX0_length cX0_length 1 (some .int), Cond.methodLink RX2 45 yX1_take, Cond.instanceMethod yX1_take, Cond.selects RX1 yX1_take yX1_take, Cond.code yX1_take cX1_take 7 none, Cond.constantLong RX1 32 (4503599627370495), Cond.constantLong RX1 34 (4503599627370496), Cond.methodLink RX1 40 Lib.Math.abs.name, Cond.static Lib.Math.abs.name, Cond.initialized "java/lang/Math", Cond.code Lib.Math.abs.name Lib.Math.abs.code 1 (some .int), Cond.methodLink RX1 50 Lib.Math.max.name, Cond.static Lib.Math.max.name]
def wsL_law_r5 : List Cond := [Cond.code Lib.Math.max.name Lib.Math.max.code 2 (some .int), Cond.methodLink RX1 36 yX1_setLimbs, Cond.instanceMethod yX1_setLimbs, Cond.selects RX1 yX1_setLimbs yX1_setLimbs, Cond.code yX1_setLimbs cX1_setLimbs 3 none, Cond.constantLong RX1 72 (1000000000), Cond.methodLink RX1 74 yX1_addLimb, Cond.instanceMethod yX1_addLimb, Cond.selects RX1 yX1_addLimb yX1_addLimb, Cond.code yX1_addLimb cX1_addLimb 2 none, Cond.methodLink RX1 46 yX1_multiplyByPower, Cond.instanceMethod yX1_multiplyByPower, Cond.selects RX1 yX1_multiplyByPower yX1_multiplyByPower, Cond.code yX1_multiplyByPower cX1_multiplyByPower 5 none, Cond.constant RX1 77 (200000000), Cond.methodLink RX1 78 yX1_multiplyBy, Cond.instanceMethod yX1_multiplyBy, Cond.selects RX1 yX1_multiplyBy yX1_multiplyBy, Cond.code yX1_multiplyBy cX1_multiplyBy 7 none, Cond.methodLink RX1 54 yX1_spreadLimbs, Cond.instanceMethod yX1_spreadLimbs, Cond.selects RX1 yX1_spreadLimbs yX1_spreadLimbs, Cond.code yX1_spreadLimbs cX1_spreadLimbs 2 none, Cond.methodLink RX1 81 yJ7_fill_53178]
def wsL_law_r6 : List Cond := [Cond.static yJ7_fill_53178, Cond.initialized RJ7, Cond.code yJ7_fill_53178 cJ7_fill_53178 4 none, Cond.methodLink RX1 87 yX1_spreadLimb, Cond.instanceMethod yX1_spreadLimb, Cond.selects RX1 yX1_spreadLimb yX1_spreadLimb, Cond.code yX1_spreadLimb cX1_spreadLimb 5 none, Cond.methodLink RX2 53 yX2_putBody, Cond.instanceMethod yX2_putBody, Cond.selects RX2 yX2_putBody yX2_putBody, Cond.code yX2_putBody cX2_putBody 4 none, Cond.methodLink RX2 84 yX2_putPlain, Cond.instanceMethod yX2_putPlain, Cond.selects RX2 yX2_putPlain yX2_putPlain, Cond.code yX2_putPlain cX2_putPlain 3 none, Cond.methodLink RX2 99 Lib.Math.max.name, Cond.methodLink RX2 92 yX1_roundTo, Cond.instanceMethod yX1_roundTo, Cond.selects RX1 yX1_roundTo yX1_roundTo, Cond.code yX1_roundTo cX1_roundTo 3 none, Cond.methodLink RX1 64 yX1_isNearerAbove, Cond.instanceMethod yX1_isNearerAbove, Cond.selects RX1 yX1_isNearerAbove yX1_isNearerAbove, Cond.code yX1_isNearerAbove cX1_isNearerAbove 4 (some .boolean)]
def wsL_law_r7 : List Cond := [Cond.methodLink RX1 61 yX1_digitIn, Cond.instanceMethod yX1_digitIn, Cond.selects RX1 yX1_digitIn yX1_digitIn, Cond.code yX1_digitIn cX1_digitIn 2 (some .int), Cond.methodLink RX1 57 yX1_lowestIndex, Cond.instanceMethod yX1_lowestIndex, Cond.selects RX1 yX1_lowestIndex yX1_lowestIndex, Cond.code yX1_lowestIndex cX1_lowestIndex 2 (some .int), Cond.methodLink RX1 68 yX1_addOneAt, Cond.instanceMethod yX1_addOneAt, Cond.selects RX1 yX1_addOneAt yX1_addOneAt, Cond.code yX1_addOneAt cX1_addOneAt 3 none, Cond.methodLink RX2 96 yX1_highestPower, Cond.instanceMethod yX1_highestPower, Cond.selects RX1 yX1_highestPower yX1_highestPower, Cond.code yX1_highestPower cX1_highestPower 1 (some .int), Cond.methodLink RX2 105 yX2_putDigits, Cond.instanceMethod yX2_putDigits, Cond.selects RX2 yX2_putDigits yX2_putDigits, Cond.code yX2_putDigits cX2_putDigits 4 none, Cond.methodLink RX2 116 yX1_digitOf, Cond.instanceMethod yX1_digitOf, Cond.selects RX1 yX1_digitOf yX1_digitOf, Cond.code yX1_digitOf cX1_digitOf 2 (some .int)]
def wsL_law_r8 : List Cond := [Cond.methodLink RX2 119 yX2_putDigit, Cond.instanceMethod yX2_putDigit, Cond.selects RX2 yX2_putDigit yX2_putDigit, Cond.code yX2_putDigit cX2_putDigit 2 none, Cond.methodLink RX2 109 yX2_putDecimals, Cond.instanceMethod yX2_putDecimals, Cond.selects RX2 yX2_putDecimals yX2_putDecimals, Cond.code yX2_putDecimals cX2_putDecimals 4 none, Cond.methodLink RX2 88 yX2_putWithExponent, Cond.instanceMethod yX2_putWithExponent, Cond.selects RX2 yX2_putWithExponent yX2_putWithExponent, Cond.code yX2_putWithExponent cX2_putWithExponent 5 none, Cond.methodLink RX2 112 yX2_putExponent, Cond.instanceMethod yX2_putExponent, Cond.selects RX2 yX2_putExponent yX2_putExponent, Cond.code yX2_putExponent cX2_putExponent 4 none, Cond.methodLink RX2 122 Lib.Math.abs.name, Cond.methodLink RX2 57 yX2_putInfinite, Cond.instanceMethod yX2_putInfinite, Cond.selects RX2 yX2_putInfinite yX2_putInfinite, Cond.code yX2_putInfinite cX2_putInfinite 1 none, Cond.methodLink RX2 60 yX2_pad, Cond.instanceMethod yX2_pad, Cond.selects RX2 yX2_pad yX2_pad]
def wsL_law_r9 : List Cond := [Cond.code yX2_pad cX2_pad 5 none, Cond.methodLink RX2 125 yX0_insert, Cond.instanceMethod yX0_insert, Cond.selects RX0 yX0_insert yX0_insert, Cond.code yX0_insert cX0_insert 5 none, Cond.methodLink RL 19 yX3_make, Cond.instanceMethod yX3_make, Cond.selects RX3 yX3_make yX3_make, Cond.code yX3_make cX3_make 10 (some .int), Cond.fieldLink RX3 43 "DecimalTextModel" "length" "I", Cond.methodLink RX3 57 yX3_none, Cond.static yX3_none, Cond.code yX3_none cX3_none 2 (some .boolean), Cond.constantLong RX3 17 (2047), Cond.constantLong RX3 19 (4503599627370495), Cond.methodLink RX3 54 yX3_put, Cond.instanceMethod yX3_put, Cond.selects RX3 yX3_put yX3_put, Cond.code yX3_put cX3_put 2 none, Cond.methodLink RX3 61 yX3_infinite, Cond.static yX3_infinite, Cond.code yX3_infinite cX3_infinite 2 (some .boolean), Cond.methodLink RX3 64 yX3_spread, Cond.instanceMethod yX3_spread]
def wsL_law_r10 : List Cond := [Cond.selects RX3 yX3_spread yX3_spread, Cond.code yX3_spread cX3_spread 8 none, Cond.constantLong RX3 21 (4503599627370496), Cond.fieldLink RX3 23 "DecimalTextModel" "digits" "I", Cond.constantLong RX3 27 (1000000000000000000), Cond.constantLong RX3 29 (10), Cond.fieldLink RX3 31 "DecimalTextModel" "point" "I", Cond.methodLink RX3 34 yX3_trim, Cond.instanceMethod yX3_trim, Cond.selects RX3 yX3_trim yX3_trim, Cond.code yX3_trim cX3_trim 3 none, Cond.methodLink RX3 37 yX3_twice, Cond.instanceMethod yX3_twice, Cond.selects RX3 yX3_twice yX3_twice, Cond.code yX3_twice cX3_twice 4 none, Cond.methodLink RX3 40 yX3_half, Cond.instanceMethod yX3_half, Cond.selects RX3 yX3_half yX3_half, Cond.code yX3_half cX3_half 4 none, Cond.methodLink RX3 68 yX3_body, Cond.instanceMethod yX3_body, Cond.selects RX3 yX3_body yX3_body, Cond.code yX3_body cX3_body 6 none, Cond.methodLink RX3 46 yX3_cut]
def wsL_law_r11 : List Cond := [Cond.instanceMethod yX3_cut, Cond.selects RX3 yX3_cut yX3_cut, Cond.code yX3_cut cX3_cut 6 none, Cond.methodLink RX3 50 yX3_digit, Cond.instanceMethod yX3_digit, Cond.selects RX3 yX3_digit yX3_digit, Cond.code yX3_digit cX3_digit 2 (some .int), Cond.methodLink RX3 72 yX3_fill, Cond.instanceMethod yX3_fill, Cond.selects RX3 yX3_fill yX3_fill, Cond.code yX3_fill cX3_fill 9 none, Cond.methodLink RL 20 yX2_at, Cond.instanceMethod yX2_at, Cond.selects RX2 yX2_at yX2_at, Cond.code yX2_at cX2_at 2 (some .int), Cond.methodLink RX2 64 yX0_codeAt, Cond.instanceMethod yX0_codeAt, Cond.selects RX0 yX0_codeAt yX0_codeAt, Cond.code yX0_codeAt cX0_codeAt 2 (some .int), Cond.methodLink RL 24 yX3_at, Cond.instanceMethod yX3_at, Cond.selects RX3 yX3_at yX3_at, Cond.code yX3_at cX3_at 2 (some .int), Cond.methodLink RL 25 yX2_digits]
def wsL_law_r12 : List Cond := [Cond.instanceMethod yX2_digits, Cond.selects RX2 yX2_digits yX2_digits, Cond.code yX2_digits cX2_digits 3 (some .int), Cond.methodLink RX2 68 yX1_digitCount, Cond.instanceMethod yX1_digitCount, Cond.selects RX1 yX1_digitCount yX1_digitCount, Cond.code yX1_digitCount cX1_digitCount 1 (some .int), Cond.methodLink RL 29 yX3_digits, Cond.instanceMethod yX3_digits, Cond.selects RX3 yX3_digits yX3_digits, Cond.code yX3_digits cX3_digits 3 (some .int)]
def wsL_law : List Cond := (wsL_law_r1 ++ (wsL_law_r2 ++ (wsL_law_r3 ++ (wsL_law_r4 ++ (wsL_law_r5 ++ (wsL_law_r6 ++ (wsL_law_r7 ++ (wsL_law_r8 ++ (wsL_law_r9 ++ (wsL_law_r10 ++ (wsL_law_r11 ++ wsL_law_r12))))))))))) ++ wsX20 ++ wsX30 ++ wsX10 ++ wsX00 ++ ([] : List Cond)
set_option maxRecDepth 20000 in
theorem wsL_in_r1 : ∀ w ∈ wsL_law_r1, w ∈ lw_tbl := by decide +kernel
set_option maxRecDepth 20000 in
theorem wsL_in_r2 : ∀ w ∈ wsL_law_r2, w ∈ lw_tbl := by decide +kernel
set_option maxRecDepth 20000 in
theorem wsL_in_r3 : ∀ w ∈ wsL_law_r3, w ∈ lw_tbl := by decide +kernel
set_option maxRecDepth 20000 in
theorem wsL_in_r4 : ∀ w ∈ wsL_law_r4, w ∈ lw_tbl := by decide +kernel
set_option maxRecDepth 20000 in
theorem wsL_in_r5 : ∀ w ∈ wsL_law_r5, w ∈ lw_tbl := by decide +kernel
set_option maxRecDepth 20000 in
theorem wsL_in_r6 : ∀ w ∈ wsL_law_r6, w ∈ lw_tbl := by decide +kernel
set_option maxRecDepth 20000 in
theorem wsL_in_r7 : ∀ w ∈ wsL_law_r7, w ∈ lw_tbl := by decide +kernel
set_option maxRecDepth 20000 in
theorem wsL_in_r8 : ∀ w ∈ wsL_law_r8, w ∈ lw_tbl := by decide +kernel
set_option maxRecDepth 20000 in
theorem wsL_in_r9 : ∀ w ∈ wsL_law_r9, w ∈ lw_tbl := by decide +kernel
set_option maxRecDepth 20000 in
theorem wsL_in_r10 : ∀ w ∈ wsL_law_r10, w ∈ lw_tbl := by decide +kernel
set_option maxRecDepth 20000 in
theorem wsL_in_r11 : ∀ w ∈ wsL_law_r11, w ∈ lw_tbl := by decide +kernel
set_option maxRecDepth 20000 in
theorem wsL_in_r12 : ∀ w ∈ wsL_law_r12, w ∈ lw_tbl := by decide +kernel
set_option maxRecDepth 20000 in
theorem wsL_in_x20 : ∀ w ∈ wsX20, w ∈ lw_tbl := by decide +kernel
set_option maxRecDepth 20000 in
theorem wsL_in_x30 : ∀ w ∈ wsX30, w ∈ lw_tbl := by decide +kernel
set_option maxRecDepth 20000 in
theorem wsL_in_x10 : ∀ w ∈ wsX10, w ∈ lw_tbl := by decide +kernel
set_option maxRecDepth 20000 in
theorem wsL_in_x00 : ∀ w ∈ wsX00, w ∈ lw_tbl := by decide +kernel
theorem wsL_law_in : ∀ w ∈ wsL_law, w ∈ lw_tbl := (List.forall_mem_append.mpr ⟨(List.forall_mem_append.mpr ⟨(List.forall_mem_append.mpr ⟨(List.forall_mem_append.mpr ⟨(List.forall_mem_append.mpr ⟨(List.forall_mem_append.mpr ⟨wsL_in_r1, (List.forall_mem_append.mpr ⟨wsL_in_r2, (List.forall_mem_append.mpr ⟨wsL_in_r3, (List.forall_mem_append.mpr ⟨wsL_in_r4, (List.forall_mem_append.mpr ⟨wsL_in_r5, (List.forall_mem_append.mpr ⟨wsL_in_r6, (List.forall_mem_append.mpr ⟨wsL_in_r7, (List.forall_mem_append.mpr ⟨wsL_in_r8, (List.forall_mem_append.mpr ⟨wsL_in_r9, (List.forall_mem_append.mpr ⟨wsL_in_r10, (List.forall_mem_append.mpr ⟨wsL_in_r11, wsL_in_r12⟩)⟩)⟩)⟩)⟩)⟩)⟩)⟩)⟩)⟩)⟩), wsL_in_x20⟩), wsL_in_x30⟩), wsL_in_x10⟩), wsL_in_x00⟩), fun _ h => absurd h List.not_mem_nil⟩)
theorem inlX0 : ∀ w ∈ wsX00, w ∈ wsL_law := fun _ h => List.mem_append_left _ (List.mem_append_right _ h)
theorem inX0 : ∀ w ∈ wsX00, w ∈ lw_tbl := fun w h => wsL_law_in w (inlX0 w h)
theorem inlX1 : ∀ w ∈ wsX10, w ∈ wsL_law := fun _ h => List.mem_append_left _ (List.mem_append_left _ (List.mem_append_right _ h))
theorem inX1 : ∀ w ∈ wsX10, w ∈ lw_tbl := fun w h => wsL_law_in w (inlX1 w h)
theorem inlX2 : ∀ w ∈ wsX20, w ∈ wsL_law := fun _ h => List.mem_append_left _ (List.mem_append_left _ (List.mem_append_left _ (List.mem_append_left _ (List.mem_append_right _ h))))
theorem inX2 : ∀ w ∈ wsX20, w ∈ lw_tbl := fun w h => wsL_law_in w (inlX2 w h)
theorem inlX3 : ∀ w ∈ wsX30, w ∈ wsL_law := fun _ h => List.mem_append_left _ (List.mem_append_left _ (List.mem_append_left _ (List.mem_append_right _ h)))
theorem inX3 : ∀ w ∈ wsX30, w ∈ lw_tbl := fun w h => wsL_law_in w (inlX3 w h)
theorem inJ9 : ∀ w ∈ wsJ90, w ∈ lw_tbl := by decide +kernel
theorem inJ7 : ∀ w ∈ wsJ70, w ∈ lw_tbl := by decide +kernel
abbrev vwCl : List vw_C := [(RX0, TX0, 2), (RX1, TX1, 5), (RX2, TX2, 2), (RX3, TX3, 5)]
end
section
theorem dX0_init_0 : decode cX0_init 0 = .ok (.aload_n 0, 1) := by decide +kernel
theorem dX0_init_1 : decode cX0_init 1 = .ok (.invokespecial 3, 3) := by decide +kernel
theorem dX0_init_4 : decode cX0_init 4 = .ok (.aload_n 0, 1) := by decide +kernel
theorem dX0_init_5 : decode cX0_init 5 = .ok (.sipush 400, 3) := by decide +kernel
theorem dX0_init_8 : decode cX0_init 8 = .ok (.newarray .char, 2) := by decide +kernel
theorem dX0_init_10 : decode cX0_init 10 = .ok (.putfield 9, 3) := by decide +kernel
theorem dX0_init_13 : decode cX0_init 13 = .ok (.aload_n 0, 1) := by decide +kernel
theorem dX0_init_14 : decode cX0_init 14 = .ok (.iconst 0, 1) := by decide +kernel
theorem dX0_init_15 : decode cX0_init 15 = .ok (.putfield 15, 3) := by decide +kernel
theorem dX0_init_18 : decode cX0_init 18 = .ok (.return_, 1) := by decide +kernel
theorem dX0_length_0 : decode cX0_length 0 = .ok (.aload_n 0, 1) := by decide +kernel
theorem dX0_length_1 : decode cX0_length 1 = .ok (.getfield 15, 3) := by decide +kernel
theorem dX0_length_4 : decode cX0_length 4 = .ok (.ireturn, 1) := by decide +kernel
theorem dX0_codeAt_0 : decode cX0_codeAt 0 = .ok (.iload_n 1, 1) := by decide +kernel
theorem dX0_codeAt_1 : decode cX0_codeAt 1 = .ok (.ifCond .lt 20, 3) := by decide +kernel
theorem dX0_codeAt_4 : decode cX0_codeAt 4 = .ok (.iload_n 1, 1) := by decide +kernel
theorem dX0_codeAt_5 : decode cX0_codeAt 5 = .ok (.aload_n 0, 1) := by decide +kernel
theorem dX0_codeAt_6 : decode cX0_codeAt 6 = .ok (.getfield 15, 3) := by decide +kernel
theorem dX0_codeAt_9 : decode cX0_codeAt 9 = .ok (.if_icmp .ge 12, 3) := by decide +kernel
theorem dX0_codeAt_12 : decode cX0_codeAt 12 = .ok (.iload_n 1, 1) := by decide +kernel
theorem dX0_codeAt_13 : decode cX0_codeAt 13 = .ok (.aload_n 0, 1) := by decide +kernel
theorem dX0_codeAt_14 : decode cX0_codeAt 14 = .ok (.getfield 9, 3) := by decide +kernel
theorem dX0_codeAt_17 : decode cX0_codeAt 17 = .ok (.arraylength, 1) := by decide +kernel
theorem dX0_codeAt_18 : decode cX0_codeAt 18 = .ok (.if_icmp .lt 5, 3) := by decide +kernel
theorem dX0_codeAt_21 : decode cX0_codeAt 21 = .ok (.iconst (-1), 1) := by decide +kernel
theorem dX0_codeAt_22 : decode cX0_codeAt 22 = .ok (.ireturn, 1) := by decide +kernel
theorem dX0_codeAt_23 : decode cX0_codeAt 23 = .ok (.aload_n 0, 1) := by decide +kernel
theorem dX0_codeAt_24 : decode cX0_codeAt 24 = .ok (.getfield 9, 3) := by decide +kernel
theorem dX0_codeAt_27 : decode cX0_codeAt 27 = .ok (.iload_n 1, 1) := by decide +kernel
theorem dX0_codeAt_28 : decode cX0_codeAt 28 = .ok (.caload, 1) := by decide +kernel
theorem dX0_codeAt_29 : decode cX0_codeAt 29 = .ok (.ireturn, 1) := by decide +kernel
theorem dX0_clear_0 : decode cX0_clear 0 = .ok (.aload_n 0, 1) := by decide +kernel
theorem dX0_clear_1 : decode cX0_clear 1 = .ok (.iconst 0, 1) := by decide +kernel
theorem dX0_clear_2 : decode cX0_clear 2 = .ok (.putfield 15, 3) := by decide +kernel
theorem dX0_clear_5 : decode cX0_clear 5 = .ok (.return_, 1) := by decide +kernel
theorem dX0_put_0 : decode cX0_put 0 = .ok (.aload_n 0, 1) := by decide +kernel
theorem dX0_put_1 : decode cX0_put 1 = .ok (.getfield 15, 3) := by decide +kernel
theorem dX0_put_4 : decode cX0_put 4 = .ok (.ifCond .lt 35, 3) := by decide +kernel
theorem dX0_put_7 : decode cX0_put 7 = .ok (.aload_n 0, 1) := by decide +kernel
theorem dX0_put_8 : decode cX0_put 8 = .ok (.getfield 15, 3) := by decide +kernel
theorem dX0_put_11 : decode cX0_put 11 = .ok (.aload_n 0, 1) := by decide +kernel
theorem dX0_put_12 : decode cX0_put 12 = .ok (.getfield 9, 3) := by decide +kernel
theorem dX0_put_15 : decode cX0_put 15 = .ok (.arraylength, 1) := by decide +kernel
theorem dX0_put_16 : decode cX0_put 16 = .ok (.if_icmp .ge 23, 3) := by decide +kernel
theorem dX0_put_19 : decode cX0_put 19 = .ok (.aload_n 0, 1) := by decide +kernel
theorem dX0_put_20 : decode cX0_put 20 = .ok (.getfield 9, 3) := by decide +kernel
theorem dX0_put_23 : decode cX0_put 23 = .ok (.aload_n 0, 1) := by decide +kernel
theorem dX0_put_24 : decode cX0_put 24 = .ok (.getfield 15, 3) := by decide +kernel
theorem dX0_put_27 : decode cX0_put 27 = .ok (.iload_n 1, 1) := by decide +kernel
theorem dX0_put_28 : decode cX0_put 28 = .ok (.castore, 1) := by decide +kernel
theorem dX0_put_29 : decode cX0_put 29 = .ok (.aload_n 0, 1) := by decide +kernel
theorem dX0_put_30 : decode cX0_put 30 = .ok (.dup, 1) := by decide +kernel
theorem dX0_put_31 : decode cX0_put 31 = .ok (.getfield 15, 3) := by decide +kernel
theorem dX0_put_34 : decode cX0_put 34 = .ok (.iconst 1, 1) := by decide +kernel
theorem dX0_put_35 : decode cX0_put 35 = .ok (.iadd, 1) := by decide +kernel
theorem dX0_put_36 : decode cX0_put 36 = .ok (.putfield 15, 3) := by decide +kernel
theorem dX0_put_39 : decode cX0_put 39 = .ok (.return_, 1) := by decide +kernel
theorem dX0_insert_0 : decode cX0_insert 0 = .ok (.iload_n 2, 1) := by decide +kernel
theorem dX0_insert_1 : decode cX0_insert 1 = .ok (.ifCond .le 29, 3) := by decide +kernel
theorem dX0_insert_4 : decode cX0_insert 4 = .ok (.iload_n 2, 1) := by decide +kernel
theorem dX0_insert_5 : decode cX0_insert 5 = .ok (.aload_n 0, 1) := by decide +kernel
theorem dX0_insert_6 : decode cX0_insert 6 = .ok (.getfield 9, 3) := by decide +kernel
theorem dX0_insert_9 : decode cX0_insert 9 = .ok (.arraylength, 1) := by decide +kernel
theorem dX0_insert_10 : decode cX0_insert 10 = .ok (.aload_n 0, 1) := by decide +kernel
theorem dX0_insert_11 : decode cX0_insert 11 = .ok (.getfield 15, 3) := by decide +kernel
theorem dX0_insert_14 : decode cX0_insert 14 = .ok (.isub, 1) := by decide +kernel
theorem dX0_insert_15 : decode cX0_insert 15 = .ok (.if_icmp .gt 15, 3) := by decide +kernel
theorem dX0_insert_18 : decode cX0_insert 18 = .ok (.iload_n 1, 1) := by decide +kernel
theorem dX0_insert_19 : decode cX0_insert 19 = .ok (.ifCond .lt 11, 3) := by decide +kernel
theorem dX0_insert_22 : decode cX0_insert 22 = .ok (.iload_n 1, 1) := by decide +kernel
theorem dX0_insert_23 : decode cX0_insert 23 = .ok (.aload_n 0, 1) := by decide +kernel
theorem dX0_insert_24 : decode cX0_insert 24 = .ok (.getfield 15, 3) := by decide +kernel
theorem dX0_insert_27 : decode cX0_insert 27 = .ok (.if_icmp .le 4, 3) := by decide +kernel
theorem dX0_insert_30 : decode cX0_insert 30 = .ok (.return_, 1) := by decide +kernel
theorem dX0_insert_31 : decode cX0_insert 31 = .ok (.aload_n 0, 1) := by decide +kernel
theorem dX0_insert_32 : decode cX0_insert 32 = .ok (.getfield 15, 3) := by decide +kernel
theorem dX0_insert_35 : decode cX0_insert 35 = .ok (.iconst 1, 1) := by decide +kernel
theorem dX0_insert_36 : decode cX0_insert 36 = .ok (.isub, 1) := by decide +kernel
theorem dX0_insert_37 : decode cX0_insert 37 = .ok (.istore 4, 2) := by decide +kernel
theorem dX0_insert_39 : decode cX0_insert 39 = .ok (.iload 4, 2) := by decide +kernel
theorem dX0_insert_41 : decode cX0_insert 41 = .ok (.iload_n 1, 1) := by decide +kernel
theorem dX0_insert_42 : decode cX0_insert 42 = .ok (.if_icmp .lt 25, 3) := by decide +kernel
theorem dX0_insert_45 : decode cX0_insert 45 = .ok (.aload_n 0, 1) := by decide +kernel
theorem dX0_insert_46 : decode cX0_insert 46 = .ok (.getfield 9, 3) := by decide +kernel
theorem dX0_insert_49 : decode cX0_insert 49 = .ok (.iload 4, 2) := by decide +kernel
theorem dX0_insert_51 : decode cX0_insert 51 = .ok (.iload_n 2, 1) := by decide +kernel
theorem dX0_insert_52 : decode cX0_insert 52 = .ok (.iadd, 1) := by decide +kernel
theorem dX0_insert_53 : decode cX0_insert 53 = .ok (.aload_n 0, 1) := by decide +kernel
theorem dX0_insert_54 : decode cX0_insert 54 = .ok (.getfield 9, 3) := by decide +kernel
theorem dX0_insert_57 : decode cX0_insert 57 = .ok (.iload 4, 2) := by decide +kernel
theorem dX0_insert_59 : decode cX0_insert 59 = .ok (.caload, 1) := by decide +kernel
theorem dX0_insert_60 : decode cX0_insert 60 = .ok (.castore, 1) := by decide +kernel
theorem dX0_insert_61 : decode cX0_insert 61 = .ok (.iinc 4 (-1), 3) := by decide +kernel
theorem dX0_insert_64 : decode cX0_insert 64 = .ok (.goto (-25), 3) := by decide +kernel
theorem dX0_insert_67 : decode cX0_insert 67 = .ok (.iload_n 1, 1) := by decide +kernel
theorem dX0_insert_68 : decode cX0_insert 68 = .ok (.istore 4, 2) := by decide +kernel
theorem dX0_insert_70 : decode cX0_insert 70 = .ok (.iload 4, 2) := by decide +kernel
theorem dX0_insert_72 : decode cX0_insert 72 = .ok (.iload_n 1, 1) := by decide +kernel
theorem dX0_insert_73 : decode cX0_insert 73 = .ok (.iload_n 2, 1) := by decide +kernel
theorem dX0_insert_74 : decode cX0_insert 74 = .ok (.iadd, 1) := by decide +kernel
theorem dX0_insert_75 : decode cX0_insert 75 = .ok (.if_icmp .ge 17, 3) := by decide +kernel
theorem dX0_insert_78 : decode cX0_insert 78 = .ok (.aload_n 0, 1) := by decide +kernel
theorem dX0_insert_79 : decode cX0_insert 79 = .ok (.getfield 9, 3) := by decide +kernel
theorem dX0_insert_82 : decode cX0_insert 82 = .ok (.iload 4, 2) := by decide +kernel
theorem dX0_insert_84 : decode cX0_insert 84 = .ok (.iload_n 3, 1) := by decide +kernel
theorem dX0_insert_85 : decode cX0_insert 85 = .ok (.castore, 1) := by decide +kernel
theorem dX0_insert_86 : decode cX0_insert 86 = .ok (.iinc 4 1, 3) := by decide +kernel
theorem dX0_insert_89 : decode cX0_insert 89 = .ok (.goto (-19), 3) := by decide +kernel
theorem dX0_insert_92 : decode cX0_insert 92 = .ok (.aload_n 0, 1) := by decide +kernel
theorem dX0_insert_93 : decode cX0_insert 93 = .ok (.dup, 1) := by decide +kernel
theorem dX0_insert_94 : decode cX0_insert 94 = .ok (.getfield 15, 3) := by decide +kernel
theorem dX0_insert_97 : decode cX0_insert 97 = .ok (.iload_n 2, 1) := by decide +kernel
theorem dX0_insert_98 : decode cX0_insert 98 = .ok (.iadd, 1) := by decide +kernel
theorem dX0_insert_99 : decode cX0_insert 99 = .ok (.putfield 15, 3) := by decide +kernel
theorem dX0_insert_102 : decode cX0_insert 102 = .ok (.return_, 1) := by decide +kernel
theorem dX1_init_0 : decode cX1_init 0 = .ok (.aload_n 0, 1) := by decide +kernel
theorem dX1_init_1 : decode cX1_init 1 = .ok (.invokespecial 5, 3) := by decide +kernel
theorem dX1_init_4 : decode cX1_init 4 = .ok (.aload_n 0, 1) := by decide +kernel
theorem dX1_init_5 : decode cX1_init 5 = .ok (.bipush 86, 2) := by decide +kernel
theorem dX1_init_7 : decode cX1_init 7 = .ok (.newarray .int, 2) := by decide +kernel
theorem dX1_init_9 : decode cX1_init 9 = .ok (.putfield 11, 3) := by decide +kernel
theorem dX1_init_12 : decode cX1_init 12 = .ok (.aload_n 0, 1) := by decide +kernel
theorem dX1_init_13 : decode cX1_init 13 = .ok (.iconst 0, 1) := by decide +kernel
theorem dX1_init_14 : decode cX1_init 14 = .ok (.putfield 15, 3) := by decide +kernel
theorem dX1_init_17 : decode cX1_init 17 = .ok (.aload_n 0, 1) := by decide +kernel
theorem dX1_init_18 : decode cX1_init 18 = .ok (.sipush 774, 3) := by decide +kernel
theorem dX1_init_21 : decode cX1_init 21 = .ok (.newarray .int, 2) := by decide +kernel
theorem dX1_init_23 : decode cX1_init 23 = .ok (.putfield 19, 3) := by decide +kernel
theorem dX1_init_26 : decode cX1_init 26 = .ok (.aload_n 0, 1) := by decide +kernel
theorem dX1_init_27 : decode cX1_init 27 = .ok (.iconst 0, 1) := by decide +kernel
theorem dX1_init_28 : decode cX1_init 28 = .ok (.putfield 22, 3) := by decide +kernel
theorem dX1_init_31 : decode cX1_init 31 = .ok (.aload_n 0, 1) := by decide +kernel
theorem dX1_init_32 : decode cX1_init 32 = .ok (.iconst 0, 1) := by decide +kernel
theorem dX1_init_33 : decode cX1_init 33 = .ok (.putfield 25, 3) := by decide +kernel
theorem dX1_init_36 : decode cX1_init 36 = .ok (.return_, 1) := by decide +kernel
set_option maxRecDepth 20000 in
theorem ggX1_take_X2_exponentField : GoodIn wsX1_take wsX2_exponentField := goodIn_r _ [13] (by decide +kernel) (by decide +kernel)
set_option maxRecDepth 20000 in
theorem gX1_take_X2_exponentField_n28 : GoodIn wsX1_take (wsX2_exponentField) := ggX1_take_X2_exponentField
set_option maxRecDepth 20000 in
theorem ggX1_take_X1_setLimbs : GoodIn wsX1_take wsX1_setLimbs := goodIn_r _ [18, 19, 20, 21, 22, 23, 17, 24, 25, 49, 50, 51, 52, 53] (by decide +kernel) (by decide +kernel)
set_option maxRecDepth 20000 in
theorem gX1_take_X1_setLimbs : GoodIn wsX1_take (wsV RX1 36 RX1 yX1_setLimbs wsX1_setLimbs) := goodIn_app (goodIn_of _ (by decide +kernel)) ggX1_take_X1_setLimbs
set_option maxRecDepth 20000 in
theorem ggX1_take_X1_multiplyByPower : GoodIn wsX1_take wsX1_multiplyByPower := goodIn_r _ [29, 30, 31, 32, 33, 17, 34, 19, 25, 20, 21, 22, 23, 24, 49, 50, 51, 52, 53] (by decide +kernel) (by decide +kernel)
set_option maxRecDepth 20000 in
theorem gX1_take_X1_multiplyByPower : GoodIn wsX1_take (wsV RX1 46 RX1 yX1_multiplyByPower wsX1_multiplyByPower) := goodIn_app (goodIn_of _ (by decide +kernel)) ggX1_take_X1_multiplyByPower
set_option maxRecDepth 20000 in
theorem ggX1_take_X1_spreadLimbs : GoodIn wsX1_take wsX1_spreadLimbs := goodIn_r _ [38, 39, 40, 19, 25, 41, 42, 43, 44, 45, 46, 47, 17, 48, 49, 50, 51, 52, 53] (by decide +kernel) (by decide +kernel)
set_option maxRecDepth 20000 in
theorem gX1_take_X1_spreadLimbs : GoodIn wsX1_take (wsV RX1 54 RX1 yX1_spreadLimbs wsX1_spreadLimbs) := goodIn_app (goodIn_of _ (by decide +kernel)) ggX1_take_X1_spreadLimbs
theorem dX1_take_0 : decode cX1_take 0 = .ok (.lload_n 1, 1) := by decide +kernel
theorem dX1_take_1 : decode cX1_take 1 = .ok (.invokestatic 28, 3) := by decide +kernel
theorem dX1_take_4 : decode cX1_take 4 = .ok (.istore_n 3, 1) := by decide +kernel
theorem dX1_take_5 : decode cX1_take 5 = .ok (.lload_n 1, 1) := by decide +kernel
theorem dX1_take_6 : decode cX1_take 6 = .ok (.ldc2_w 32, 3) := by decide +kernel
theorem dX1_take_9 : decode cX1_take 9 = .ok (.land, 1) := by decide +kernel
theorem dX1_take_10 : decode cX1_take 10 = .ok (.lstore 4, 2) := by decide +kernel
theorem dX1_take_12 : decode cX1_take 12 = .ok (.sipush (-1074), 3) := by decide +kernel
theorem dX1_take_15 : decode cX1_take 15 = .ok (.istore 6, 2) := by decide +kernel
theorem dX1_take_17 : decode cX1_take 17 = .ok (.iload_n 3, 1) := by decide +kernel
theorem dX1_take_18 : decode cX1_take 18 = .ok (.ifCond .le 19, 3) := by decide +kernel
theorem dX1_take_21 : decode cX1_take 21 = .ok (.lload 4, 2) := by decide +kernel
theorem dX1_take_23 : decode cX1_take 23 = .ok (.ldc2_w 34, 3) := by decide +kernel
theorem dX1_take_26 : decode cX1_take 26 = .ok (.ladd, 1) := by decide +kernel
theorem dX1_take_27 : decode cX1_take 27 = .ok (.lstore 4, 2) := by decide +kernel
theorem dX1_take_29 : decode cX1_take 29 = .ok (.iload 6, 2) := by decide +kernel
theorem dX1_take_31 : decode cX1_take 31 = .ok (.iload_n 3, 1) := by decide +kernel
theorem dX1_take_32 : decode cX1_take 32 = .ok (.iconst 1, 1) := by decide +kernel
theorem dX1_take_33 : decode cX1_take 33 = .ok (.isub, 1) := by decide +kernel
theorem dX1_take_34 : decode cX1_take 34 = .ok (.iadd, 1) := by decide +kernel
theorem dX1_take_35 : decode cX1_take 35 = .ok (.istore 6, 2) := by decide +kernel
theorem dX1_take_37 : decode cX1_take 37 = .ok (.iload 6, 2) := by decide +kernel
theorem dX1_take_39 : decode cX1_take 39 = .ok (.ifCond .ge 24, 3) := by decide +kernel
theorem dX1_take_42 : decode cX1_take 42 = .ok (.lload 4, 2) := by decide +kernel
theorem dX1_take_44 : decode cX1_take 44 = .ok (.lconst 1, 1) := by decide +kernel
theorem dX1_take_45 : decode cX1_take 45 = .ok (.land, 1) := by decide +kernel
theorem dX1_take_46 : decode cX1_take 46 = .ok (.lconst 0, 1) := by decide +kernel
theorem dX1_take_47 : decode cX1_take 47 = .ok (.lcmp, 1) := by decide +kernel
theorem dX1_take_48 : decode cX1_take 48 = .ok (.ifCond .ne 15, 3) := by decide +kernel
theorem dX1_take_51 : decode cX1_take 51 = .ok (.lload 4, 2) := by decide +kernel
theorem dX1_take_53 : decode cX1_take 53 = .ok (.iconst 1, 1) := by decide +kernel
theorem dX1_take_54 : decode cX1_take 54 = .ok (.lshr, 1) := by decide +kernel
theorem dX1_take_55 : decode cX1_take 55 = .ok (.lstore 4, 2) := by decide +kernel
theorem dX1_take_57 : decode cX1_take 57 = .ok (.iinc 6 1, 3) := by decide +kernel
theorem dX1_take_60 : decode cX1_take 60 = .ok (.goto (-23), 3) := by decide +kernel
theorem dX1_take_63 : decode cX1_take 63 = .ok (.aload_n 0, 1) := by decide +kernel
theorem dX1_take_64 : decode cX1_take 64 = .ok (.lload 4, 2) := by decide +kernel
theorem dX1_take_66 : decode cX1_take 66 = .ok (.invokevirtual 36, 3) := by decide +kernel
theorem dX1_take_69 : decode cX1_take 69 = .ok (.aload_n 0, 1) := by decide +kernel
theorem dX1_take_70 : decode cX1_take 70 = .ok (.iload 6, 2) := by decide +kernel
theorem dX1_take_72 : decode cX1_take 72 = .ok (.ifCond .ge 7, 3) := by decide +kernel
theorem dX1_take_75 : decode cX1_take 75 = .ok (.iconst 5, 1) := by decide +kernel
theorem dX1_take_76 : decode cX1_take 76 = .ok (.goto 4, 3) := by decide +kernel
theorem dX1_take_79 : decode cX1_take 79 = .ok (.iconst 2, 1) := by decide +kernel
theorem dX1_take_80 : decode cX1_take 80 = .ok (.iload 6, 2) := by decide +kernel
theorem dX1_take_82 : decode cX1_take 82 = .ok (.invokestatic 40, 3) := by decide +kernel
theorem dX1_take_85 : decode cX1_take 85 = .ok (.invokevirtual 46, 3) := by decide +kernel
theorem dX1_take_88 : decode cX1_take 88 = .ok (.aload_n 0, 1) := by decide +kernel
theorem dX1_take_89 : decode cX1_take 89 = .ok (.iload 6, 2) := by decide +kernel
theorem dX1_take_91 : decode cX1_take 91 = .ok (.ineg, 1) := by decide +kernel
theorem dX1_take_92 : decode cX1_take 92 = .ok (.iconst 0, 1) := by decide +kernel
theorem dX1_take_93 : decode cX1_take 93 = .ok (.invokestatic 50, 3) := by decide +kernel
theorem dX1_take_96 : decode cX1_take 96 = .ok (.putfield 25, 3) := by decide +kernel
theorem dX1_take_99 : decode cX1_take 99 = .ok (.aload_n 0, 1) := by decide +kernel
theorem dX1_take_100 : decode cX1_take 100 = .ok (.invokevirtual 54, 3) := by decide +kernel
theorem dX1_take_103 : decode cX1_take 103 = .ok (.return_, 1) := by decide +kernel
set_option maxRecDepth 20000 in
theorem ggX1_digitCount_X1_lowestIndex : GoodIn wsX1_digitCount wsX1_lowestIndex := goodIn_r _ [6, 1, 7, 8, 9, 5, 10, 11, 12, 13, 14, 15, 16] (by decide +kernel) (by decide +kernel)
set_option maxRecDepth 20000 in
theorem gX1_digitCount_X1_lowestIndex : GoodIn wsX1_digitCount (wsV RX1 57 RX1 yX1_lowestIndex wsX1_lowestIndex) := goodIn_app (goodIn_of _ (by decide +kernel)) ggX1_digitCount_X1_lowestIndex
theorem dX1_digitCount_0 : decode cX1_digitCount 0 = .ok (.aload_n 0, 1) := by decide +kernel
theorem dX1_digitCount_1 : decode cX1_digitCount 1 = .ok (.getfield 22, 3) := by decide +kernel
theorem dX1_digitCount_4 : decode cX1_digitCount 4 = .ok (.aload_n 0, 1) := by decide +kernel
theorem dX1_digitCount_5 : decode cX1_digitCount 5 = .ok (.invokevirtual 57, 3) := by decide +kernel
theorem dX1_digitCount_8 : decode cX1_digitCount 8 = .ok (.isub, 1) := by decide +kernel
theorem dX1_digitCount_9 : decode cX1_digitCount 9 = .ok (.ireturn, 1) := by decide +kernel
theorem dX1_highestPower_0 : decode cX1_highestPower 0 = .ok (.aload_n 0, 1) := by decide +kernel
theorem dX1_highestPower_1 : decode cX1_highestPower 1 = .ok (.getfield 22, 3) := by decide +kernel
theorem dX1_highestPower_4 : decode cX1_highestPower 4 = .ok (.ifCond .ne 7, 3) := by decide +kernel
theorem dX1_highestPower_7 : decode cX1_highestPower 7 = .ok (.iconst 0, 1) := by decide +kernel
theorem dX1_highestPower_8 : decode cX1_highestPower 8 = .ok (.goto 14, 3) := by decide +kernel
theorem dX1_highestPower_11 : decode cX1_highestPower 11 = .ok (.aload_n 0, 1) := by decide +kernel
theorem dX1_highestPower_12 : decode cX1_highestPower 12 = .ok (.getfield 22, 3) := by decide +kernel
theorem dX1_highestPower_15 : decode cX1_highestPower 15 = .ok (.iconst 1, 1) := by decide +kernel
theorem dX1_highestPower_16 : decode cX1_highestPower 16 = .ok (.isub, 1) := by decide +kernel
theorem dX1_highestPower_17 : decode cX1_highestPower 17 = .ok (.aload_n 0, 1) := by decide +kernel
theorem dX1_highestPower_18 : decode cX1_highestPower 18 = .ok (.getfield 25, 3) := by decide +kernel
theorem dX1_highestPower_21 : decode cX1_highestPower 21 = .ok (.isub, 1) := by decide +kernel
theorem dX1_highestPower_22 : decode cX1_highestPower 22 = .ok (.ireturn, 1) := by decide +kernel
set_option maxRecDepth 20000 in
theorem ggX1_digitOf_X1_digitIn : GoodIn wsX1_digitOf wsX1_digitIn := goodIn_r _ [6, 7, 8, 9, 10, 11, 12] (by decide +kernel) (by decide +kernel)
set_option maxRecDepth 20000 in
theorem gX1_digitOf_X1_digitIn : GoodIn wsX1_digitOf (wsV RX1 61 RX1 yX1_digitIn wsX1_digitIn) := goodIn_app (goodIn_of _ (by decide +kernel)) ggX1_digitOf_X1_digitIn
theorem dX1_digitOf_0 : decode cX1_digitOf 0 = .ok (.aload_n 0, 1) := by decide +kernel
theorem dX1_digitOf_1 : decode cX1_digitOf 1 = .ok (.iload_n 1, 1) := by decide +kernel
theorem dX1_digitOf_2 : decode cX1_digitOf 2 = .ok (.aload_n 0, 1) := by decide +kernel
theorem dX1_digitOf_3 : decode cX1_digitOf 3 = .ok (.getfield 25, 3) := by decide +kernel
theorem dX1_digitOf_6 : decode cX1_digitOf 6 = .ok (.iadd, 1) := by decide +kernel
theorem dX1_digitOf_7 : decode cX1_digitOf 7 = .ok (.invokevirtual 61, 3) := by decide +kernel
theorem dX1_digitOf_10 : decode cX1_digitOf 10 = .ok (.ireturn, 1) := by decide +kernel
set_option maxRecDepth 20000 in
theorem ggX1_roundTo_X1_isNearerAbove : GoodIn wsX1_roundTo wsX1_isNearerAbove := goodIn_r _ [6, 7, 8, 9, 5, 10, 11, 12, 13, 14, 15, 16, 25, 26, 27, 28, 29] (by decide +kernel) (by decide +kernel)
set_option maxRecDepth 20000 in
theorem gX1_roundTo_X1_isNearerAbove : GoodIn wsX1_roundTo (wsV RX1 64 RX1 yX1_isNearerAbove wsX1_isNearerAbove) := goodIn_app (goodIn_of _ (by decide +kernel)) ggX1_roundTo_X1_isNearerAbove
set_option maxRecDepth 20000 in
theorem ggX1_roundTo_X1_addOneAt : GoodIn wsX1_roundTo wsX1_addOneAt := goodIn_r _ [20, 11, 16, 21, 22, 23, 24, 7, 8, 9, 5, 10, 25, 26, 27, 28, 29] (by decide +kernel) (by decide +kernel)
set_option maxRecDepth 20000 in
theorem gX1_roundTo_X1_addOneAt : GoodIn wsX1_roundTo (wsV RX1 68 RX1 yX1_addOneAt wsX1_addOneAt) := goodIn_app (goodIn_of _ (by decide +kernel)) ggX1_roundTo_X1_addOneAt
theorem dX1_roundTo_0 : decode cX1_roundTo 0 = .ok (.iload_n 1, 1) := by decide +kernel
theorem dX1_roundTo_1 : decode cX1_roundTo 1 = .ok (.aload_n 0, 1) := by decide +kernel
theorem dX1_roundTo_2 : decode cX1_roundTo 2 = .ok (.getfield 25, 3) := by decide +kernel
theorem dX1_roundTo_5 : decode cX1_roundTo 5 = .ok (.iadd, 1) := by decide +kernel
theorem dX1_roundTo_6 : decode cX1_roundTo 6 = .ok (.istore_n 2, 1) := by decide +kernel
theorem dX1_roundTo_7 : decode cX1_roundTo 7 = .ok (.iload_n 2, 1) := by decide +kernel
theorem dX1_roundTo_8 : decode cX1_roundTo 8 = .ok (.ifCond .le 16, 3) := by decide +kernel
theorem dX1_roundTo_11 : decode cX1_roundTo 11 = .ok (.aload_n 0, 1) := by decide +kernel
theorem dX1_roundTo_12 : decode cX1_roundTo 12 = .ok (.iload_n 2, 1) := by decide +kernel
theorem dX1_roundTo_13 : decode cX1_roundTo 13 = .ok (.invokevirtual 64, 3) := by decide +kernel
theorem dX1_roundTo_16 : decode cX1_roundTo 16 = .ok (.ifCond .eq 8, 3) := by decide +kernel
theorem dX1_roundTo_19 : decode cX1_roundTo 19 = .ok (.aload_n 0, 1) := by decide +kernel
theorem dX1_roundTo_20 : decode cX1_roundTo 20 = .ok (.iload_n 2, 1) := by decide +kernel
theorem dX1_roundTo_21 : decode cX1_roundTo 21 = .ok (.invokevirtual 68, 3) := by decide +kernel
theorem dX1_roundTo_24 : decode cX1_roundTo 24 = .ok (.return_, 1) := by decide +kernel
set_option maxRecDepth 20000 in
theorem ggX1_isNearerAbove_X1_digitIn : GoodIn wsX1_isNearerAbove wsX1_digitIn := goodIn_r _ [5, 6, 12, 13, 14, 15, 16] (by decide +kernel) (by decide +kernel)
set_option maxRecDepth 20000 in
theorem gX1_isNearerAbove_X1_digitIn : GoodIn wsX1_isNearerAbove (wsV RX1 61 RX1 yX1_digitIn wsX1_digitIn) := goodIn_app (goodIn_of _ (by decide +kernel)) ggX1_isNearerAbove_X1_digitIn
set_option maxRecDepth 20000 in
theorem ggX1_isNearerAbove_X1_lowestIndex : GoodIn wsX1_isNearerAbove wsX1_lowestIndex := goodIn_r _ [10, 11, 1, 2, 3, 4, 5, 6, 12, 13, 14, 15, 16] (by decide +kernel) (by decide +kernel)
set_option maxRecDepth 20000 in
theorem gX1_isNearerAbove_X1_lowestIndex : GoodIn wsX1_isNearerAbove (wsV RX1 57 RX1 yX1_lowestIndex wsX1_lowestIndex) := goodIn_app (goodIn_of _ (by decide +kernel)) ggX1_isNearerAbove_X1_lowestIndex
theorem dX1_isNearerAbove_0 : decode cX1_isNearerAbove 0 = .ok (.aload_n 0, 1) := by decide +kernel
theorem dX1_isNearerAbove_1 : decode cX1_isNearerAbove 1 = .ok (.iload_n 1, 1) := by decide +kernel
theorem dX1_isNearerAbove_2 : decode cX1_isNearerAbove 2 = .ok (.iconst 1, 1) := by decide +kernel
theorem dX1_isNearerAbove_3 : decode cX1_isNearerAbove 3 = .ok (.isub, 1) := by decide +kernel
theorem dX1_isNearerAbove_4 : decode cX1_isNearerAbove 4 = .ok (.invokevirtual 61, 3) := by decide +kernel
theorem dX1_isNearerAbove_7 : decode cX1_isNearerAbove 7 = .ok (.istore_n 2, 1) := by decide +kernel
theorem dX1_isNearerAbove_8 : decode cX1_isNearerAbove 8 = .ok (.iload_n 2, 1) := by decide +kernel
theorem dX1_isNearerAbove_9 : decode cX1_isNearerAbove 9 = .ok (.iconst 5, 1) := by decide +kernel
theorem dX1_isNearerAbove_10 : decode cX1_isNearerAbove 10 = .ok (.if_icmp .eq 14, 3) := by decide +kernel
theorem dX1_isNearerAbove_13 : decode cX1_isNearerAbove 13 = .ok (.iload_n 2, 1) := by decide +kernel
theorem dX1_isNearerAbove_14 : decode cX1_isNearerAbove 14 = .ok (.iconst 5, 1) := by decide +kernel
theorem dX1_isNearerAbove_15 : decode cX1_isNearerAbove 15 = .ok (.if_icmp .le 7, 3) := by decide +kernel
theorem dX1_isNearerAbove_18 : decode cX1_isNearerAbove 18 = .ok (.iconst 1, 1) := by decide +kernel
theorem dX1_isNearerAbove_19 : decode cX1_isNearerAbove 19 = .ok (.goto 4, 3) := by decide +kernel
theorem dX1_isNearerAbove_22 : decode cX1_isNearerAbove 22 = .ok (.iconst 0, 1) := by decide +kernel
theorem dX1_isNearerAbove_23 : decode cX1_isNearerAbove 23 = .ok (.ireturn, 1) := by decide +kernel
theorem dX1_isNearerAbove_24 : decode cX1_isNearerAbove 24 = .ok (.aload_n 0, 1) := by decide +kernel
theorem dX1_isNearerAbove_25 : decode cX1_isNearerAbove 25 = .ok (.invokevirtual 57, 3) := by decide +kernel
theorem dX1_isNearerAbove_28 : decode cX1_isNearerAbove 28 = .ok (.iload_n 1, 1) := by decide +kernel
theorem dX1_isNearerAbove_29 : decode cX1_isNearerAbove 29 = .ok (.iconst 1, 1) := by decide +kernel
theorem dX1_isNearerAbove_30 : decode cX1_isNearerAbove 30 = .ok (.isub, 1) := by decide +kernel
theorem dX1_isNearerAbove_31 : decode cX1_isNearerAbove 31 = .ok (.if_icmp .ne 7, 3) := by decide +kernel
theorem dX1_isNearerAbove_34 : decode cX1_isNearerAbove 34 = .ok (.iconst 1, 1) := by decide +kernel
theorem dX1_isNearerAbove_35 : decode cX1_isNearerAbove 35 = .ok (.goto 4, 3) := by decide +kernel
theorem dX1_isNearerAbove_38 : decode cX1_isNearerAbove 38 = .ok (.iconst 0, 1) := by decide +kernel
theorem dX1_isNearerAbove_39 : decode cX1_isNearerAbove 39 = .ok (.istore_n 3, 1) := by decide +kernel
theorem dX1_isNearerAbove_40 : decode cX1_isNearerAbove 40 = .ok (.iload_n 3, 1) := by decide +kernel
theorem dX1_isNearerAbove_41 : decode cX1_isNearerAbove 41 = .ok (.ifCond .eq 14, 3) := by decide +kernel
theorem dX1_isNearerAbove_44 : decode cX1_isNearerAbove 44 = .ok (.aload_n 0, 1) := by decide +kernel
theorem dX1_isNearerAbove_45 : decode cX1_isNearerAbove 45 = .ok (.iload_n 1, 1) := by decide +kernel
theorem dX1_isNearerAbove_46 : decode cX1_isNearerAbove 46 = .ok (.invokevirtual 61, 3) := by decide +kernel
theorem dX1_isNearerAbove_49 : decode cX1_isNearerAbove 49 = .ok (.iconst 2, 1) := by decide +kernel
theorem dX1_isNearerAbove_50 : decode cX1_isNearerAbove 50 = .ok (.irem, 1) := by decide +kernel
theorem dX1_isNearerAbove_51 : decode cX1_isNearerAbove 51 = .ok (.iconst 1, 1) := by decide +kernel
theorem dX1_isNearerAbove_52 : decode cX1_isNearerAbove 52 = .ok (.if_icmp .ne 7, 3) := by decide +kernel
theorem dX1_isNearerAbove_55 : decode cX1_isNearerAbove 55 = .ok (.iconst 1, 1) := by decide +kernel
theorem dX1_isNearerAbove_56 : decode cX1_isNearerAbove 56 = .ok (.goto 4, 3) := by decide +kernel
theorem dX1_isNearerAbove_59 : decode cX1_isNearerAbove 59 = .ok (.iconst 0, 1) := by decide +kernel
theorem dX1_isNearerAbove_60 : decode cX1_isNearerAbove 60 = .ok (.ireturn, 1) := by decide +kernel
set_option maxRecDepth 20000 in
theorem ggX1_addOneAt_X1_digitIn : GoodIn wsX1_addOneAt wsX1_digitIn := goodIn_r _ [11, 1, 12, 13, 14, 15, 16] (by decide +kernel) (by decide +kernel)
set_option maxRecDepth 20000 in
theorem gX1_addOneAt_X1_digitIn : GoodIn wsX1_addOneAt (wsV RX1 61 RX1 yX1_digitIn wsX1_digitIn) := goodIn_app (goodIn_of _ (by decide +kernel)) ggX1_addOneAt_X1_digitIn
theorem dX1_addOneAt_0 : decode cX1_addOneAt 0 = .ok (.iload_n 1, 1) := by decide +kernel
theorem dX1_addOneAt_1 : decode cX1_addOneAt 1 = .ok (.istore_n 2, 1) := by decide +kernel
theorem dX1_addOneAt_2 : decode cX1_addOneAt 2 = .ok (.iload_n 2, 1) := by decide +kernel
theorem dX1_addOneAt_3 : decode cX1_addOneAt 3 = .ok (.aload_n 0, 1) := by decide +kernel
theorem dX1_addOneAt_4 : decode cX1_addOneAt 4 = .ok (.getfield 19, 3) := by decide +kernel
theorem dX1_addOneAt_7 : decode cX1_addOneAt 7 = .ok (.arraylength, 1) := by decide +kernel
theorem dX1_addOneAt_8 : decode cX1_addOneAt 8 = .ok (.if_icmp .ge 26, 3) := by decide +kernel
theorem dX1_addOneAt_11 : decode cX1_addOneAt 11 = .ok (.aload_n 0, 1) := by decide +kernel
theorem dX1_addOneAt_12 : decode cX1_addOneAt 12 = .ok (.iload_n 2, 1) := by decide +kernel
theorem dX1_addOneAt_13 : decode cX1_addOneAt 13 = .ok (.invokevirtual 61, 3) := by decide +kernel
theorem dX1_addOneAt_16 : decode cX1_addOneAt 16 = .ok (.bipush 9, 2) := by decide +kernel
theorem dX1_addOneAt_18 : decode cX1_addOneAt 18 = .ok (.if_icmp .ne 16, 3) := by decide +kernel
theorem dX1_addOneAt_21 : decode cX1_addOneAt 21 = .ok (.aload_n 0, 1) := by decide +kernel
theorem dX1_addOneAt_22 : decode cX1_addOneAt 22 = .ok (.getfield 19, 3) := by decide +kernel
theorem dX1_addOneAt_25 : decode cX1_addOneAt 25 = .ok (.iload_n 2, 1) := by decide +kernel
theorem dX1_addOneAt_26 : decode cX1_addOneAt 26 = .ok (.iconst 0, 1) := by decide +kernel
theorem dX1_addOneAt_27 : decode cX1_addOneAt 27 = .ok (.iastore, 1) := by decide +kernel
theorem dX1_addOneAt_28 : decode cX1_addOneAt 28 = .ok (.iinc 2 1, 3) := by decide +kernel
theorem dX1_addOneAt_31 : decode cX1_addOneAt 31 = .ok (.goto (-29), 3) := by decide +kernel
theorem dX1_addOneAt_34 : decode cX1_addOneAt 34 = .ok (.iload_n 2, 1) := by decide +kernel
theorem dX1_addOneAt_35 : decode cX1_addOneAt 35 = .ok (.ifCond .lt 36, 3) := by decide +kernel
theorem dX1_addOneAt_38 : decode cX1_addOneAt 38 = .ok (.iload_n 2, 1) := by decide +kernel
theorem dX1_addOneAt_39 : decode cX1_addOneAt 39 = .ok (.aload_n 0, 1) := by decide +kernel
theorem dX1_addOneAt_40 : decode cX1_addOneAt 40 = .ok (.getfield 19, 3) := by decide +kernel
theorem dX1_addOneAt_43 : decode cX1_addOneAt 43 = .ok (.arraylength, 1) := by decide +kernel
theorem dX1_addOneAt_44 : decode cX1_addOneAt 44 = .ok (.if_icmp .ge 27, 3) := by decide +kernel
theorem dX1_addOneAt_47 : decode cX1_addOneAt 47 = .ok (.aload_n 0, 1) := by decide +kernel
theorem dX1_addOneAt_48 : decode cX1_addOneAt 48 = .ok (.getfield 19, 3) := by decide +kernel
theorem dX1_addOneAt_51 : decode cX1_addOneAt 51 = .ok (.iload_n 2, 1) := by decide +kernel
theorem dX1_addOneAt_52 : decode cX1_addOneAt 52 = .ok (.dup2, 1) := by decide +kernel
theorem dX1_addOneAt_53 : decode cX1_addOneAt 53 = .ok (.iaload, 1) := by decide +kernel
theorem dX1_addOneAt_54 : decode cX1_addOneAt 54 = .ok (.iconst 1, 1) := by decide +kernel
theorem dX1_addOneAt_55 : decode cX1_addOneAt 55 = .ok (.iadd, 1) := by decide +kernel
theorem dX1_addOneAt_56 : decode cX1_addOneAt 56 = .ok (.iastore, 1) := by decide +kernel
theorem dX1_addOneAt_57 : decode cX1_addOneAt 57 = .ok (.aload_n 0, 1) := by decide +kernel
theorem dX1_addOneAt_58 : decode cX1_addOneAt 58 = .ok (.aload_n 0, 1) := by decide +kernel
theorem dX1_addOneAt_59 : decode cX1_addOneAt 59 = .ok (.getfield 22, 3) := by decide +kernel
theorem dX1_addOneAt_62 : decode cX1_addOneAt 62 = .ok (.iload_n 2, 1) := by decide +kernel
theorem dX1_addOneAt_63 : decode cX1_addOneAt 63 = .ok (.iconst 1, 1) := by decide +kernel
theorem dX1_addOneAt_64 : decode cX1_addOneAt 64 = .ok (.iadd, 1) := by decide +kernel
theorem dX1_addOneAt_65 : decode cX1_addOneAt 65 = .ok (.invokestatic 50, 3) := by decide +kernel
theorem dX1_addOneAt_68 : decode cX1_addOneAt 68 = .ok (.putfield 22, 3) := by decide +kernel
theorem dX1_addOneAt_71 : decode cX1_addOneAt 71 = .ok (.return_, 1) := by decide +kernel
theorem dX1_digitIn_0 : decode cX1_digitIn 0 = .ok (.iload_n 1, 1) := by decide +kernel
theorem dX1_digitIn_1 : decode cX1_digitIn 1 = .ok (.ifCond .lt 12, 3) := by decide +kernel
theorem dX1_digitIn_4 : decode cX1_digitIn 4 = .ok (.iload_n 1, 1) := by decide +kernel
theorem dX1_digitIn_5 : decode cX1_digitIn 5 = .ok (.aload_n 0, 1) := by decide +kernel
theorem dX1_digitIn_6 : decode cX1_digitIn 6 = .ok (.getfield 19, 3) := by decide +kernel
theorem dX1_digitIn_9 : decode cX1_digitIn 9 = .ok (.arraylength, 1) := by decide +kernel
theorem dX1_digitIn_10 : decode cX1_digitIn 10 = .ok (.if_icmp .lt 5, 3) := by decide +kernel
theorem dX1_digitIn_13 : decode cX1_digitIn 13 = .ok (.iconst 0, 1) := by decide +kernel
theorem dX1_digitIn_14 : decode cX1_digitIn 14 = .ok (.ireturn, 1) := by decide +kernel
theorem dX1_digitIn_15 : decode cX1_digitIn 15 = .ok (.aload_n 0, 1) := by decide +kernel
theorem dX1_digitIn_16 : decode cX1_digitIn 16 = .ok (.getfield 19, 3) := by decide +kernel
theorem dX1_digitIn_19 : decode cX1_digitIn 19 = .ok (.iload_n 1, 1) := by decide +kernel
theorem dX1_digitIn_20 : decode cX1_digitIn 20 = .ok (.iaload, 1) := by decide +kernel
theorem dX1_digitIn_21 : decode cX1_digitIn 21 = .ok (.ireturn, 1) := by decide +kernel
set_option maxRecDepth 20000 in
theorem ggX1_lowestIndex_X1_digitIn : GoodIn wsX1_lowestIndex wsX1_digitIn := goodIn_r _ [6, 7, 8, 9, 10, 11, 12] (by decide +kernel) (by decide +kernel)
set_option maxRecDepth 20000 in
theorem gX1_lowestIndex_X1_digitIn : GoodIn wsX1_lowestIndex (wsV RX1 61 RX1 yX1_digitIn wsX1_digitIn) := goodIn_app (goodIn_of _ (by decide +kernel)) ggX1_lowestIndex_X1_digitIn
theorem dX1_lowestIndex_0 : decode cX1_lowestIndex 0 = .ok (.iconst 0, 1) := by decide +kernel
theorem dX1_lowestIndex_1 : decode cX1_lowestIndex 1 = .ok (.istore_n 1, 1) := by decide +kernel
theorem dX1_lowestIndex_2 : decode cX1_lowestIndex 2 = .ok (.iload_n 1, 1) := by decide +kernel
theorem dX1_lowestIndex_3 : decode cX1_lowestIndex 3 = .ok (.aload_n 0, 1) := by decide +kernel
theorem dX1_lowestIndex_4 : decode cX1_lowestIndex 4 = .ok (.getfield 22, 3) := by decide +kernel
theorem dX1_lowestIndex_7 : decode cX1_lowestIndex 7 = .ok (.if_icmp .ge 17, 3) := by decide +kernel
theorem dX1_lowestIndex_10 : decode cX1_lowestIndex 10 = .ok (.aload_n 0, 1) := by decide +kernel
theorem dX1_lowestIndex_11 : decode cX1_lowestIndex 11 = .ok (.iload_n 1, 1) := by decide +kernel
theorem dX1_lowestIndex_12 : decode cX1_lowestIndex 12 = .ok (.invokevirtual 61, 3) := by decide +kernel
theorem dX1_lowestIndex_15 : decode cX1_lowestIndex 15 = .ok (.ifCond .ne 9, 3) := by decide +kernel
theorem dX1_lowestIndex_18 : decode cX1_lowestIndex 18 = .ok (.iinc 1 1, 3) := by decide +kernel
theorem dX1_lowestIndex_21 : decode cX1_lowestIndex 21 = .ok (.goto (-19), 3) := by decide +kernel
theorem dX1_lowestIndex_24 : decode cX1_lowestIndex 24 = .ok (.iload_n 1, 1) := by decide +kernel
theorem dX1_lowestIndex_25 : decode cX1_lowestIndex 25 = .ok (.ireturn, 1) := by decide +kernel
set_option maxRecDepth 20000 in
theorem ggX1_setLimbs_X1_addLimb : GoodIn wsX1_setLimbs wsX1_addLimb := goodIn_r _ [7, 1, 8, 9, 10, 11, 12, 13] (by decide +kernel) (by decide +kernel)
set_option maxRecDepth 20000 in
theorem gX1_setLimbs_X1_addLimb : GoodIn wsX1_setLimbs (wsV RX1 74 RX1 yX1_addLimb wsX1_addLimb) := goodIn_app (goodIn_of _ (by decide +kernel)) ggX1_setLimbs_X1_addLimb
theorem dX1_setLimbs_0 : decode cX1_setLimbs 0 = .ok (.aload_n 0, 1) := by decide +kernel
theorem dX1_setLimbs_1 : decode cX1_setLimbs 1 = .ok (.iconst 0, 1) := by decide +kernel
theorem dX1_setLimbs_2 : decode cX1_setLimbs 2 = .ok (.putfield 15, 3) := by decide +kernel
theorem dX1_setLimbs_5 : decode cX1_setLimbs 5 = .ok (.aload_n 0, 1) := by decide +kernel
theorem dX1_setLimbs_6 : decode cX1_setLimbs 6 = .ok (.lload_n 1, 1) := by decide +kernel
theorem dX1_setLimbs_7 : decode cX1_setLimbs 7 = .ok (.ldc2_w 72, 3) := by decide +kernel
theorem dX1_setLimbs_10 : decode cX1_setLimbs 10 = .ok (.lrem, 1) := by decide +kernel
theorem dX1_setLimbs_11 : decode cX1_setLimbs 11 = .ok (.l2i, 1) := by decide +kernel
theorem dX1_setLimbs_12 : decode cX1_setLimbs 12 = .ok (.invokevirtual 74, 3) := by decide +kernel
theorem dX1_setLimbs_15 : decode cX1_setLimbs 15 = .ok (.aload_n 0, 1) := by decide +kernel
theorem dX1_setLimbs_16 : decode cX1_setLimbs 16 = .ok (.lload_n 1, 1) := by decide +kernel
theorem dX1_setLimbs_17 : decode cX1_setLimbs 17 = .ok (.ldc2_w 72, 3) := by decide +kernel
theorem dX1_setLimbs_20 : decode cX1_setLimbs 20 = .ok (.ldiv, 1) := by decide +kernel
theorem dX1_setLimbs_21 : decode cX1_setLimbs 21 = .ok (.l2i, 1) := by decide +kernel
theorem dX1_setLimbs_22 : decode cX1_setLimbs 22 = .ok (.invokevirtual 74, 3) := by decide +kernel
theorem dX1_setLimbs_25 : decode cX1_setLimbs 25 = .ok (.return_, 1) := by decide +kernel
theorem dX1_addLimb_0 : decode cX1_addLimb 0 = .ok (.aload_n 0, 1) := by decide +kernel
theorem dX1_addLimb_1 : decode cX1_addLimb 1 = .ok (.getfield 15, 3) := by decide +kernel
theorem dX1_addLimb_4 : decode cX1_addLimb 4 = .ok (.ifCond .lt 35, 3) := by decide +kernel
theorem dX1_addLimb_7 : decode cX1_addLimb 7 = .ok (.aload_n 0, 1) := by decide +kernel
theorem dX1_addLimb_8 : decode cX1_addLimb 8 = .ok (.getfield 15, 3) := by decide +kernel
theorem dX1_addLimb_11 : decode cX1_addLimb 11 = .ok (.aload_n 0, 1) := by decide +kernel
theorem dX1_addLimb_12 : decode cX1_addLimb 12 = .ok (.getfield 11, 3) := by decide +kernel
theorem dX1_addLimb_15 : decode cX1_addLimb 15 = .ok (.arraylength, 1) := by decide +kernel
theorem dX1_addLimb_16 : decode cX1_addLimb 16 = .ok (.if_icmp .ge 23, 3) := by decide +kernel
theorem dX1_addLimb_19 : decode cX1_addLimb 19 = .ok (.aload_n 0, 1) := by decide +kernel
theorem dX1_addLimb_20 : decode cX1_addLimb 20 = .ok (.getfield 11, 3) := by decide +kernel
theorem dX1_addLimb_23 : decode cX1_addLimb 23 = .ok (.aload_n 0, 1) := by decide +kernel
theorem dX1_addLimb_24 : decode cX1_addLimb 24 = .ok (.getfield 15, 3) := by decide +kernel
theorem dX1_addLimb_27 : decode cX1_addLimb 27 = .ok (.iload_n 1, 1) := by decide +kernel
theorem dX1_addLimb_28 : decode cX1_addLimb 28 = .ok (.iastore, 1) := by decide +kernel
theorem dX1_addLimb_29 : decode cX1_addLimb 29 = .ok (.aload_n 0, 1) := by decide +kernel
theorem dX1_addLimb_30 : decode cX1_addLimb 30 = .ok (.dup, 1) := by decide +kernel
theorem dX1_addLimb_31 : decode cX1_addLimb 31 = .ok (.getfield 15, 3) := by decide +kernel
theorem dX1_addLimb_34 : decode cX1_addLimb 34 = .ok (.iconst 1, 1) := by decide +kernel
theorem dX1_addLimb_35 : decode cX1_addLimb 35 = .ok (.iadd, 1) := by decide +kernel
theorem dX1_addLimb_36 : decode cX1_addLimb 36 = .ok (.putfield 15, 3) := by decide +kernel
theorem dX1_addLimb_39 : decode cX1_addLimb 39 = .ok (.return_, 1) := by decide +kernel
set_option maxRecDepth 20000 in
theorem ggX1_multiplyByPower_X1_multiplyBy : GoodIn wsX1_multiplyByPower wsX1_multiplyBy := goodIn_r _ [6, 7, 8, 9, 10, 11, 12, 5, 13, 14, 15, 16, 17, 18] (by decide +kernel) (by decide +kernel)
set_option maxRecDepth 20000 in
theorem gX1_multiplyByPower_X1_multiplyBy : GoodIn wsX1_multiplyByPower (wsV RX1 78 RX1 yX1_multiplyBy wsX1_multiplyBy) := goodIn_app (goodIn_of _ (by decide +kernel)) ggX1_multiplyByPower_X1_multiplyBy
theorem dX1_multiplyByPower_0 : decode cX1_multiplyByPower 0 = .ok (.iconst 1, 1) := by decide +kernel
theorem dX1_multiplyByPower_1 : decode cX1_multiplyByPower 1 = .ok (.istore_n 3, 1) := by decide +kernel
theorem dX1_multiplyByPower_2 : decode cX1_multiplyByPower 2 = .ok (.iconst 0, 1) := by decide +kernel
theorem dX1_multiplyByPower_3 : decode cX1_multiplyByPower 3 = .ok (.istore 4, 2) := by decide +kernel
theorem dX1_multiplyByPower_5 : decode cX1_multiplyByPower 5 = .ok (.iload 4, 2) := by decide +kernel
theorem dX1_multiplyByPower_7 : decode cX1_multiplyByPower 7 = .ok (.iload_n 2, 1) := by decide +kernel
theorem dX1_multiplyByPower_8 : decode cX1_multiplyByPower 8 = .ok (.if_icmp .ge 26, 3) := by decide +kernel
theorem dX1_multiplyByPower_11 : decode cX1_multiplyByPower 11 = .ok (.iload_n 3, 1) := by decide +kernel
theorem dX1_multiplyByPower_12 : decode cX1_multiplyByPower 12 = .ok (.ldc 77, 2) := by decide +kernel
theorem dX1_multiplyByPower_14 : decode cX1_multiplyByPower 14 = .ok (.if_icmp .le 10, 3) := by decide +kernel
theorem dX1_multiplyByPower_17 : decode cX1_multiplyByPower 17 = .ok (.aload_n 0, 1) := by decide +kernel
theorem dX1_multiplyByPower_18 : decode cX1_multiplyByPower 18 = .ok (.iload_n 3, 1) := by decide +kernel
theorem dX1_multiplyByPower_19 : decode cX1_multiplyByPower 19 = .ok (.invokevirtual 78, 3) := by decide +kernel
theorem dX1_multiplyByPower_22 : decode cX1_multiplyByPower 22 = .ok (.iconst 1, 1) := by decide +kernel
theorem dX1_multiplyByPower_23 : decode cX1_multiplyByPower 23 = .ok (.istore_n 3, 1) := by decide +kernel
theorem dX1_multiplyByPower_24 : decode cX1_multiplyByPower 24 = .ok (.iload_n 3, 1) := by decide +kernel
theorem dX1_multiplyByPower_25 : decode cX1_multiplyByPower 25 = .ok (.iload_n 1, 1) := by decide +kernel
theorem dX1_multiplyByPower_26 : decode cX1_multiplyByPower 26 = .ok (.imul, 1) := by decide +kernel
theorem dX1_multiplyByPower_27 : decode cX1_multiplyByPower 27 = .ok (.istore_n 3, 1) := by decide +kernel
theorem dX1_multiplyByPower_28 : decode cX1_multiplyByPower 28 = .ok (.iinc 4 1, 3) := by decide +kernel
theorem dX1_multiplyByPower_31 : decode cX1_multiplyByPower 31 = .ok (.goto (-26), 3) := by decide +kernel
theorem dX1_multiplyByPower_34 : decode cX1_multiplyByPower 34 = .ok (.aload_n 0, 1) := by decide +kernel
theorem dX1_multiplyByPower_35 : decode cX1_multiplyByPower 35 = .ok (.iload_n 3, 1) := by decide +kernel
theorem dX1_multiplyByPower_36 : decode cX1_multiplyByPower 36 = .ok (.invokevirtual 78, 3) := by decide +kernel
theorem dX1_multiplyByPower_39 : decode cX1_multiplyByPower 39 = .ok (.return_, 1) := by decide +kernel
set_option maxRecDepth 20000 in
theorem ggX1_multiplyBy_X1_addLimb : GoodIn wsX1_multiplyBy wsX1_addLimb := goodIn_r _ [8, 1, 2, 9, 10, 11, 12, 13] (by decide +kernel) (by decide +kernel)
set_option maxRecDepth 20000 in
theorem gX1_multiplyBy_X1_addLimb : GoodIn wsX1_multiplyBy (wsV RX1 74 RX1 yX1_addLimb wsX1_addLimb) := goodIn_app (goodIn_of _ (by decide +kernel)) ggX1_multiplyBy_X1_addLimb
theorem dX1_multiplyBy_0 : decode cX1_multiplyBy 0 = .ok (.lconst 0, 1) := by decide +kernel
theorem dX1_multiplyBy_1 : decode cX1_multiplyBy 1 = .ok (.lstore_n 2, 1) := by decide +kernel
theorem dX1_multiplyBy_2 : decode cX1_multiplyBy 2 = .ok (.iconst 0, 1) := by decide +kernel
theorem dX1_multiplyBy_3 : decode cX1_multiplyBy 3 = .ok (.istore 4, 2) := by decide +kernel
theorem dX1_multiplyBy_5 : decode cX1_multiplyBy 5 = .ok (.iload 4, 2) := by decide +kernel
theorem dX1_multiplyBy_7 : decode cX1_multiplyBy 7 = .ok (.aload_n 0, 1) := by decide +kernel
theorem dX1_multiplyBy_8 : decode cX1_multiplyBy 8 = .ok (.getfield 15, 3) := by decide +kernel
theorem dX1_multiplyBy_11 : decode cX1_multiplyBy 11 = .ok (.if_icmp .ge 57, 3) := by decide +kernel
theorem dX1_multiplyBy_14 : decode cX1_multiplyBy 14 = .ok (.iload 4, 2) := by decide +kernel
theorem dX1_multiplyBy_16 : decode cX1_multiplyBy 16 = .ok (.aload_n 0, 1) := by decide +kernel
theorem dX1_multiplyBy_17 : decode cX1_multiplyBy 17 = .ok (.getfield 11, 3) := by decide +kernel
theorem dX1_multiplyBy_20 : decode cX1_multiplyBy 20 = .ok (.arraylength, 1) := by decide +kernel
theorem dX1_multiplyBy_21 : decode cX1_multiplyBy 21 = .ok (.if_icmp .ge 47, 3) := by decide +kernel
theorem dX1_multiplyBy_24 : decode cX1_multiplyBy 24 = .ok (.aload_n 0, 1) := by decide +kernel
theorem dX1_multiplyBy_25 : decode cX1_multiplyBy 25 = .ok (.getfield 11, 3) := by decide +kernel
theorem dX1_multiplyBy_28 : decode cX1_multiplyBy 28 = .ok (.iload 4, 2) := by decide +kernel
theorem dX1_multiplyBy_30 : decode cX1_multiplyBy 30 = .ok (.iaload, 1) := by decide +kernel
theorem dX1_multiplyBy_31 : decode cX1_multiplyBy 31 = .ok (.i2l, 1) := by decide +kernel
theorem dX1_multiplyBy_32 : decode cX1_multiplyBy 32 = .ok (.iload_n 1, 1) := by decide +kernel
theorem dX1_multiplyBy_33 : decode cX1_multiplyBy 33 = .ok (.i2l, 1) := by decide +kernel
theorem dX1_multiplyBy_34 : decode cX1_multiplyBy 34 = .ok (.lmul, 1) := by decide +kernel
theorem dX1_multiplyBy_35 : decode cX1_multiplyBy 35 = .ok (.lload_n 2, 1) := by decide +kernel
theorem dX1_multiplyBy_36 : decode cX1_multiplyBy 36 = .ok (.ladd, 1) := by decide +kernel
theorem dX1_multiplyBy_37 : decode cX1_multiplyBy 37 = .ok (.lstore 5, 2) := by decide +kernel
theorem dX1_multiplyBy_39 : decode cX1_multiplyBy 39 = .ok (.lload 5, 2) := by decide +kernel
theorem dX1_multiplyBy_41 : decode cX1_multiplyBy 41 = .ok (.ldc2_w 72, 3) := by decide +kernel
theorem dX1_multiplyBy_44 : decode cX1_multiplyBy 44 = .ok (.ldiv, 1) := by decide +kernel
theorem dX1_multiplyBy_45 : decode cX1_multiplyBy 45 = .ok (.lstore_n 2, 1) := by decide +kernel
theorem dX1_multiplyBy_46 : decode cX1_multiplyBy 46 = .ok (.aload_n 0, 1) := by decide +kernel
theorem dX1_multiplyBy_47 : decode cX1_multiplyBy 47 = .ok (.getfield 11, 3) := by decide +kernel
theorem dX1_multiplyBy_50 : decode cX1_multiplyBy 50 = .ok (.iload 4, 2) := by decide +kernel
theorem dX1_multiplyBy_52 : decode cX1_multiplyBy 52 = .ok (.lload 5, 2) := by decide +kernel
theorem dX1_multiplyBy_54 : decode cX1_multiplyBy 54 = .ok (.lload_n 2, 1) := by decide +kernel
theorem dX1_multiplyBy_55 : decode cX1_multiplyBy 55 = .ok (.ldc2_w 72, 3) := by decide +kernel
theorem dX1_multiplyBy_58 : decode cX1_multiplyBy 58 = .ok (.lmul, 1) := by decide +kernel
theorem dX1_multiplyBy_59 : decode cX1_multiplyBy 59 = .ok (.lsub, 1) := by decide +kernel
theorem dX1_multiplyBy_60 : decode cX1_multiplyBy 60 = .ok (.l2i, 1) := by decide +kernel
theorem dX1_multiplyBy_61 : decode cX1_multiplyBy 61 = .ok (.iastore, 1) := by decide +kernel
theorem dX1_multiplyBy_62 : decode cX1_multiplyBy 62 = .ok (.iinc 4 1, 3) := by decide +kernel
theorem dX1_multiplyBy_65 : decode cX1_multiplyBy 65 = .ok (.goto (-60), 3) := by decide +kernel
theorem dX1_multiplyBy_68 : decode cX1_multiplyBy 68 = .ok (.lload_n 2, 1) := by decide +kernel
theorem dX1_multiplyBy_69 : decode cX1_multiplyBy 69 = .ok (.lconst 0, 1) := by decide +kernel
theorem dX1_multiplyBy_70 : decode cX1_multiplyBy 70 = .ok (.lcmp, 1) := by decide +kernel
theorem dX1_multiplyBy_71 : decode cX1_multiplyBy 71 = .ok (.ifCond .le 9, 3) := by decide +kernel
theorem dX1_multiplyBy_74 : decode cX1_multiplyBy 74 = .ok (.aload_n 0, 1) := by decide +kernel
theorem dX1_multiplyBy_75 : decode cX1_multiplyBy 75 = .ok (.lload_n 2, 1) := by decide +kernel
theorem dX1_multiplyBy_76 : decode cX1_multiplyBy 76 = .ok (.l2i, 1) := by decide +kernel
theorem dX1_multiplyBy_77 : decode cX1_multiplyBy 77 = .ok (.invokevirtual 74, 3) := by decide +kernel
theorem dX1_multiplyBy_80 : decode cX1_multiplyBy 80 = .ok (.return_, 1) := by decide +kernel
set_option maxRecDepth 20000 in
theorem ggX1_spreadLimbs_J7_fill_53178 : GoodIn wsX1_spreadLimbs wsJ7_fill_53178 := goodIn_r _ [8] (by decide +kernel) (by decide +kernel)
set_option maxRecDepth 20000 in
theorem gX1_spreadLimbs_J7_fill_53178 : GoodIn wsX1_spreadLimbs (va_wsS RX1 81 yJ7_fill_53178 wsJ7_fill_53178) := goodIn_app (goodIn_of _ (by decide +kernel)) ggX1_spreadLimbs_J7_fill_53178
set_option maxRecDepth 20000 in
theorem ggX1_spreadLimbs_X1_spreadLimb : GoodIn wsX1_spreadLimbs wsX1_spreadLimb := goodIn_r _ [13, 1, 2, 14, 15, 16, 17, 18] (by decide +kernel) (by decide +kernel)
set_option maxRecDepth 20000 in
theorem gX1_spreadLimbs_X1_spreadLimb : GoodIn wsX1_spreadLimbs (wsV RX1 87 RX1 yX1_spreadLimb wsX1_spreadLimb) := goodIn_app (goodIn_of _ (by decide +kernel)) ggX1_spreadLimbs_X1_spreadLimb
theorem dX1_spreadLimbs_0 : decode cX1_spreadLimbs 0 = .ok (.aload_n 0, 1) := by decide +kernel
theorem dX1_spreadLimbs_1 : decode cX1_spreadLimbs 1 = .ok (.getfield 19, 3) := by decide +kernel
theorem dX1_spreadLimbs_4 : decode cX1_spreadLimbs 4 = .ok (.iconst 0, 1) := by decide +kernel
theorem dX1_spreadLimbs_5 : decode cX1_spreadLimbs 5 = .ok (.invokestatic 81, 3) := by decide +kernel
theorem dX1_spreadLimbs_8 : decode cX1_spreadLimbs 8 = .ok (.aload_n 0, 1) := by decide +kernel
theorem dX1_spreadLimbs_9 : decode cX1_spreadLimbs 9 = .ok (.iconst 0, 1) := by decide +kernel
theorem dX1_spreadLimbs_10 : decode cX1_spreadLimbs 10 = .ok (.putfield 22, 3) := by decide +kernel
theorem dX1_spreadLimbs_13 : decode cX1_spreadLimbs 13 = .ok (.iconst 0, 1) := by decide +kernel
theorem dX1_spreadLimbs_14 : decode cX1_spreadLimbs 14 = .ok (.istore_n 1, 1) := by decide +kernel
theorem dX1_spreadLimbs_15 : decode cX1_spreadLimbs 15 = .ok (.iload_n 1, 1) := by decide +kernel
theorem dX1_spreadLimbs_16 : decode cX1_spreadLimbs 16 = .ok (.aload_n 0, 1) := by decide +kernel
theorem dX1_spreadLimbs_17 : decode cX1_spreadLimbs 17 = .ok (.getfield 15, 3) := by decide +kernel
theorem dX1_spreadLimbs_20 : decode cX1_spreadLimbs 20 = .ok (.if_icmp .ge 32, 3) := by decide +kernel
theorem dX1_spreadLimbs_23 : decode cX1_spreadLimbs 23 = .ok (.iload_n 1, 1) := by decide +kernel
theorem dX1_spreadLimbs_24 : decode cX1_spreadLimbs 24 = .ok (.aload_n 0, 1) := by decide +kernel
theorem dX1_spreadLimbs_25 : decode cX1_spreadLimbs 25 = .ok (.getfield 11, 3) := by decide +kernel
theorem dX1_spreadLimbs_28 : decode cX1_spreadLimbs 28 = .ok (.arraylength, 1) := by decide +kernel
theorem dX1_spreadLimbs_29 : decode cX1_spreadLimbs 29 = .ok (.if_icmp .ge 23, 3) := by decide +kernel
theorem dX1_spreadLimbs_32 : decode cX1_spreadLimbs 32 = .ok (.aload_n 0, 1) := by decide +kernel
theorem dX1_spreadLimbs_33 : decode cX1_spreadLimbs 33 = .ok (.aload_n 0, 1) := by decide +kernel
theorem dX1_spreadLimbs_34 : decode cX1_spreadLimbs 34 = .ok (.getfield 11, 3) := by decide +kernel
theorem dX1_spreadLimbs_37 : decode cX1_spreadLimbs 37 = .ok (.iload_n 1, 1) := by decide +kernel
theorem dX1_spreadLimbs_38 : decode cX1_spreadLimbs 38 = .ok (.iaload, 1) := by decide +kernel
theorem dX1_spreadLimbs_39 : decode cX1_spreadLimbs 39 = .ok (.iload_n 1, 1) := by decide +kernel
theorem dX1_spreadLimbs_40 : decode cX1_spreadLimbs 40 = .ok (.bipush 9, 2) := by decide +kernel
theorem dX1_spreadLimbs_42 : decode cX1_spreadLimbs 42 = .ok (.imul, 1) := by decide +kernel
theorem dX1_spreadLimbs_43 : decode cX1_spreadLimbs 43 = .ok (.invokevirtual 87, 3) := by decide +kernel
theorem dX1_spreadLimbs_46 : decode cX1_spreadLimbs 46 = .ok (.iinc 1 1, 3) := by decide +kernel
theorem dX1_spreadLimbs_49 : decode cX1_spreadLimbs 49 = .ok (.goto (-34), 3) := by decide +kernel
theorem dX1_spreadLimbs_52 : decode cX1_spreadLimbs 52 = .ok (.return_, 1) := by decide +kernel
theorem dX1_spreadLimb_0 : decode cX1_spreadLimb 0 = .ok (.iload_n 1, 1) := by decide +kernel
theorem dX1_spreadLimb_1 : decode cX1_spreadLimb 1 = .ok (.istore_n 3, 1) := by decide +kernel
theorem dX1_spreadLimb_2 : decode cX1_spreadLimb 2 = .ok (.iload_n 2, 1) := by decide +kernel
theorem dX1_spreadLimb_3 : decode cX1_spreadLimb 3 = .ok (.istore 4, 2) := by decide +kernel
theorem dX1_spreadLimb_5 : decode cX1_spreadLimb 5 = .ok (.iload_n 3, 1) := by decide +kernel
theorem dX1_spreadLimb_6 : decode cX1_spreadLimb 6 = .ok (.ifCond .le 48, 3) := by decide +kernel
theorem dX1_spreadLimb_9 : decode cX1_spreadLimb 9 = .ok (.iload 4, 2) := by decide +kernel
theorem dX1_spreadLimb_11 : decode cX1_spreadLimb 11 = .ok (.ifCond .lt 43, 3) := by decide +kernel
theorem dX1_spreadLimb_14 : decode cX1_spreadLimb 14 = .ok (.iload 4, 2) := by decide +kernel
theorem dX1_spreadLimb_16 : decode cX1_spreadLimb 16 = .ok (.aload_n 0, 1) := by decide +kernel
theorem dX1_spreadLimb_17 : decode cX1_spreadLimb 17 = .ok (.getfield 19, 3) := by decide +kernel
theorem dX1_spreadLimb_20 : decode cX1_spreadLimb 20 = .ok (.arraylength, 1) := by decide +kernel
theorem dX1_spreadLimb_21 : decode cX1_spreadLimb 21 = .ok (.if_icmp .ge 33, 3) := by decide +kernel
theorem dX1_spreadLimb_24 : decode cX1_spreadLimb 24 = .ok (.aload_n 0, 1) := by decide +kernel
theorem dX1_spreadLimb_25 : decode cX1_spreadLimb 25 = .ok (.getfield 19, 3) := by decide +kernel
theorem dX1_spreadLimb_28 : decode cX1_spreadLimb 28 = .ok (.iload 4, 2) := by decide +kernel
theorem dX1_spreadLimb_30 : decode cX1_spreadLimb 30 = .ok (.iload_n 3, 1) := by decide +kernel
theorem dX1_spreadLimb_31 : decode cX1_spreadLimb 31 = .ok (.bipush 10, 2) := by decide +kernel
theorem dX1_spreadLimb_33 : decode cX1_spreadLimb 33 = .ok (.irem, 1) := by decide +kernel
theorem dX1_spreadLimb_34 : decode cX1_spreadLimb 34 = .ok (.iastore, 1) := by decide +kernel
theorem dX1_spreadLimb_35 : decode cX1_spreadLimb 35 = .ok (.iload_n 3, 1) := by decide +kernel
theorem dX1_spreadLimb_36 : decode cX1_spreadLimb 36 = .ok (.bipush 10, 2) := by decide +kernel
theorem dX1_spreadLimb_38 : decode cX1_spreadLimb 38 = .ok (.idiv, 1) := by decide +kernel
theorem dX1_spreadLimb_39 : decode cX1_spreadLimb 39 = .ok (.istore_n 3, 1) := by decide +kernel
theorem dX1_spreadLimb_40 : decode cX1_spreadLimb 40 = .ok (.aload_n 0, 1) := by decide +kernel
theorem dX1_spreadLimb_41 : decode cX1_spreadLimb 41 = .ok (.iload 4, 2) := by decide +kernel
theorem dX1_spreadLimb_43 : decode cX1_spreadLimb 43 = .ok (.iconst 1, 1) := by decide +kernel
theorem dX1_spreadLimb_44 : decode cX1_spreadLimb 44 = .ok (.iadd, 1) := by decide +kernel
theorem dX1_spreadLimb_45 : decode cX1_spreadLimb 45 = .ok (.putfield 22, 3) := by decide +kernel
theorem dX1_spreadLimb_48 : decode cX1_spreadLimb 48 = .ok (.iinc 4 1, 3) := by decide +kernel
theorem dX1_spreadLimb_51 : decode cX1_spreadLimb 51 = .ok (.goto (-46), 3) := by decide +kernel
theorem dX1_spreadLimb_54 : decode cX1_spreadLimb 54 = .ok (.return_, 1) := by decide +kernel
set_option maxRecDepth 20000 in
theorem ggX2_init_X1_init : GoodIn wsX2_init wsX1_init := goodIn_r _ [14, 15, 2, 3, 16, 17, 18, 19, 20, 21, 29, 30, 31, 32, 33] (by decide +kernel) (by decide +kernel)
set_option maxRecDepth 20000 in
theorem gX2_init_X1_init : GoodIn wsX2_init (wsX1_init) := ggX2_init_X1_init
set_option maxRecDepth 20000 in
theorem ggX2_init_X0_init : GoodIn wsX2_init wsX0_init := goodIn_r _ [24, 25, 2, 3, 26, 27, 28, 36, 37] (by decide +kernel) (by decide +kernel)
set_option maxRecDepth 20000 in
theorem gX2_init_X0_init : GoodIn wsX2_init (wsX0_init) := ggX2_init_X0_init
end
section
theorem dX2_init_0 : decode cX2_init 0 = .ok (.aload_n 0, 1) := by decide +kernel
theorem dX2_init_1 : decode cX2_init 1 = .ok (.invokespecial 3, 3) := by decide +kernel
theorem dX2_init_4 : decode cX2_init 4 = .ok (.aload_n 0, 1) := by decide +kernel
theorem dX2_init_5 : decode cX2_init 5 = .ok (.new 9, 3) := by decide +kernel
theorem dX2_init_8 : decode cX2_init 8 = .ok (.dup, 1) := by decide +kernel
theorem dX2_init_9 : decode cX2_init 9 = .ok (.invokespecial 11, 3) := by decide +kernel
theorem dX2_init_12 : decode cX2_init 12 = .ok (.putfield 12, 3) := by decide +kernel
theorem dX2_init_15 : decode cX2_init 15 = .ok (.aload_n 0, 1) := by decide +kernel
theorem dX2_init_16 : decode cX2_init 16 = .ok (.new 16, 3) := by decide +kernel
theorem dX2_init_19 : decode cX2_init 19 = .ok (.dup, 1) := by decide +kernel
theorem dX2_init_20 : decode cX2_init 20 = .ok (.invokespecial 18, 3) := by decide +kernel
theorem dX2_init_23 : decode cX2_init 23 = .ok (.putfield 19, 3) := by decide +kernel
theorem dX2_init_26 : decode cX2_init 26 = .ok (.return_, 1) := by decide +kernel
set_option maxRecDepth 20000 in
theorem ggX2_make_X2_isForm : GoodIn wsX2_make wsX2_isForm := goodIn_r _ [6, 7, 8, 5, 9] (by decide +kernel) (by decide +kernel)
set_option maxRecDepth 20000 in
theorem gX2_make_X2_isForm : GoodIn wsX2_make (va_wsS RX2 23 yX2_isForm wsX2_isForm) := goodIn_app (goodIn_of _ (by decide +kernel)) ggX2_make_X2_isForm
set_option maxRecDepth 20000 in
theorem ggX2_make_X2_isNoNumber : GoodIn wsX2_make wsX2_isNoNumber := goodIn_r _ [12, 13, 14, 15, 5, 16, 17, 18, 19] (by decide +kernel) (by decide +kernel)
set_option maxRecDepth 20000 in
theorem gX2_make_X2_isNoNumber : GoodIn wsX2_make (va_wsS RX2 27 yX2_isNoNumber wsX2_isNoNumber) := goodIn_app (goodIn_of _ (by decide +kernel)) ggX2_make_X2_isNoNumber
set_option maxRecDepth 20000 in
theorem ggX2_make_X0_clear : GoodIn wsX2_make wsX0_clear := goodIn_r _ [24, 25, 163, 164] (by decide +kernel) (by decide +kernel)
set_option maxRecDepth 20000 in
theorem gX2_make_X0_clear : GoodIn wsX2_make (wsV RX2 31 RX0 yX0_clear wsX0_clear) := goodIn_app (goodIn_of _ (by decide +kernel)) ggX2_make_X0_clear
set_option maxRecDepth 20000 in
theorem ggX2_make_X2_putSign : GoodIn wsX2_make wsX2_putSign := goodIn_r _ [29, 1, 30, 31, 32, 23, 33, 25, 34, 35, 36, 5, 37, 161, 162, 163, 164] (by decide +kernel) (by decide +kernel)
set_option maxRecDepth 20000 in
theorem gX2_make_X2_putSign : GoodIn wsX2_make (wsV RX2 34 RX2 yX2_putSign wsX2_putSign) := goodIn_app (goodIn_of _ (by decide +kernel)) ggX2_make_X2_putSign
set_option maxRecDepth 20000 in
theorem ggX2_make_X0_length : GoodIn wsX2_make wsX0_length := goodIn_r _ [41, 25, 163, 164] (by decide +kernel) (by decide +kernel)
set_option maxRecDepth 20000 in
theorem gX2_make_X0_length : GoodIn wsX2_make (wsV RX2 38 RX0 yX0_length wsX0_length) := goodIn_app (goodIn_of _ (by decide +kernel)) ggX2_make_X0_length
set_option maxRecDepth 20000 in
theorem ggX2_make_X2_isFinite : GoodIn wsX2_make wsX2_isFinite := goodIn_r _ [16, 17, 18, 5, 19] (by decide +kernel) (by decide +kernel)
set_option maxRecDepth 20000 in
theorem gX2_make_X2_isFinite : GoodIn wsX2_make (va_wsS RX2 42 yX2_isFinite wsX2_isFinite) := goodIn_app (goodIn_of _ (by decide +kernel)) ggX2_make_X2_isFinite
set_option maxRecDepth 20000 in
theorem ggX2_make_X1_take : GoodIn wsX2_make wsX1_take := goodIn_r _ [46, 47, 48, 49, 50, 51, 52, 53, 54, 55, 56, 18, 5, 19, 57, 58, 59, 45, 60, 61, 62, 63, 64, 65, 66, 67, 68, 69, 70, 71, 72, 73, 74, 75, 76, 77, 78, 79, 80, 81, 82, 83, 84, 85, 86, 87, 88, 89, 90, 165, 166, 167, 168, 169] (by decide +kernel) (by decide +kernel)
set_option maxRecDepth 20000 in
theorem gX2_make_X1_take : GoodIn wsX2_make (wsV RX2 45 RX1 yX1_take wsX1_take) := goodIn_app (goodIn_of _ (by decide +kernel)) ggX2_make_X1_take
set_option maxRecDepth 20000 in
theorem ggX2_make_X2_has : GoodIn wsX2_make wsX2_has := goodIn_r _ [37] (by decide +kernel) (by decide +kernel)
set_option maxRecDepth 20000 in
theorem gX2_make_X2_has : GoodIn wsX2_make (va_wsS RX2 49 yX2_has wsX2_has) := goodIn_app (goodIn_of _ (by decide +kernel)) ggX2_make_X2_has
set_option maxRecDepth 20000 in
theorem ggX2_make_X2_putBody : GoodIn wsX2_make wsX2_putBody := goodIn_r _ [94, 95, 96, 97, 5, 98, 2, 99, 54, 51, 55, 100, 101, 102, 45, 103, 56, 104, 105, 106, 107, 108, 109, 110, 111, 81, 112, 113, 114, 115, 82, 116, 117, 118, 119, 53, 120, 121, 122, 123, 124, 125, 126, 127, 128, 129, 130, 131, 132, 133, 134, 135, 1, 30, 31, 32, 23, 33, 25, 34, 136, 137, 138, 139, 140, 141, 142, 143, 144, 145, 146, 147, 148, 50, 52, 161, 162, 165, 166, 167, 168, 169, 163, 164] (by decide +kernel) (by decide +kernel)
set_option maxRecDepth 20000 in
theorem gX2_make_X2_putBody : GoodIn wsX2_make (wsV RX2 53 RX2 yX2_putBody wsX2_putBody) := goodIn_app (goodIn_of _ (by decide +kernel)) ggX2_make_X2_putBody
set_option maxRecDepth 20000 in
theorem ggX2_make_X2_putInfinite : GoodIn wsX2_make wsX2_putInfinite := goodIn_r _ [152, 1, 30, 31, 32, 23, 33, 25, 34, 161, 162, 163, 164] (by decide +kernel) (by decide +kernel)
set_option maxRecDepth 20000 in
theorem gX2_make_X2_putInfinite : GoodIn wsX2_make (wsV RX2 57 RX2 yX2_putInfinite wsX2_putInfinite) := goodIn_app (goodIn_of _ (by decide +kernel)) ggX2_make_X2_putInfinite
set_option maxRecDepth 20000 in
theorem ggX2_make_X2_pad : GoodIn wsX2_make wsX2_pad := goodIn_r _ [156, 1, 35, 36, 5, 37, 38, 39, 40, 23, 41, 25, 157, 158, 159, 160, 34, 161, 162, 163, 164] (by decide +kernel) (by decide +kernel)
set_option maxRecDepth 20000 in
theorem gX2_make_X2_pad : GoodIn wsX2_make (wsV RX2 60 RX2 yX2_pad wsX2_pad) := goodIn_app (goodIn_of _ (by decide +kernel)) ggX2_make_X2_pad
theorem dX2_make_0 : decode cX2_make 0 = .ok (.iload_n 3, 1) := by decide +kernel
theorem dX2_make_1 : decode cX2_make 1 = .ok (.iload 4, 2) := by decide +kernel
theorem dX2_make_3 : decode cX2_make 3 = .ok (.iload 5, 2) := by decide +kernel
theorem dX2_make_5 : decode cX2_make 5 = .ok (.iload 6, 2) := by decide +kernel
theorem dX2_make_7 : decode cX2_make 7 = .ok (.invokestatic 23, 3) := by decide +kernel
theorem dX2_make_10 : decode cX2_make 10 = .ok (.ifCond .eq 10, 3) := by decide +kernel
theorem dX2_make_13 : decode cX2_make 13 = .ok (.lload_n 1, 1) := by decide +kernel
theorem dX2_make_14 : decode cX2_make 14 = .ok (.invokestatic 27, 3) := by decide +kernel
theorem dX2_make_17 : decode cX2_make 17 = .ok (.ifCond .eq 5, 3) := by decide +kernel
theorem dX2_make_20 : decode cX2_make 20 = .ok (.iconst (-1), 1) := by decide +kernel
theorem dX2_make_21 : decode cX2_make 21 = .ok (.ireturn, 1) := by decide +kernel
theorem dX2_make_22 : decode cX2_make 22 = .ok (.aload_n 0, 1) := by decide +kernel
theorem dX2_make_23 : decode cX2_make 23 = .ok (.getfield 19, 3) := by decide +kernel
theorem dX2_make_26 : decode cX2_make 26 = .ok (.invokevirtual 31, 3) := by decide +kernel
theorem dX2_make_29 : decode cX2_make 29 = .ok (.aload_n 0, 1) := by decide +kernel
theorem dX2_make_30 : decode cX2_make 30 = .ok (.lload_n 1, 1) := by decide +kernel
theorem dX2_make_31 : decode cX2_make 31 = .ok (.iload 6, 2) := by decide +kernel
theorem dX2_make_33 : decode cX2_make 33 = .ok (.invokevirtual 34, 3) := by decide +kernel
theorem dX2_make_36 : decode cX2_make 36 = .ok (.aload_n 0, 1) := by decide +kernel
theorem dX2_make_37 : decode cX2_make 37 = .ok (.getfield 19, 3) := by decide +kernel
theorem dX2_make_40 : decode cX2_make 40 = .ok (.invokevirtual 38, 3) := by decide +kernel
theorem dX2_make_43 : decode cX2_make 43 = .ok (.istore 7, 2) := by decide +kernel
theorem dX2_make_45 : decode cX2_make 45 = .ok (.lload_n 1, 1) := by decide +kernel
theorem dX2_make_46 : decode cX2_make 46 = .ok (.invokestatic 42, 3) := by decide +kernel
theorem dX2_make_49 : decode cX2_make 49 = .ok (.istore 8, 2) := by decide +kernel
theorem dX2_make_51 : decode cX2_make 51 = .ok (.iload 8, 2) := by decide +kernel
theorem dX2_make_53 : decode cX2_make 53 = .ok (.ifCond .eq 41, 3) := by decide +kernel
theorem dX2_make_56 : decode cX2_make 56 = .ok (.aload_n 0, 1) := by decide +kernel
theorem dX2_make_57 : decode cX2_make 57 = .ok (.getfield 12, 3) := by decide +kernel
theorem dX2_make_60 : decode cX2_make 60 = .ok (.lload_n 1, 1) := by decide +kernel
theorem dX2_make_61 : decode cX2_make 61 = .ok (.invokevirtual 45, 3) := by decide +kernel
theorem dX2_make_64 : decode cX2_make 64 = .ok (.aload_n 0, 1) := by decide +kernel
theorem dX2_make_65 : decode cX2_make 65 = .ok (.iload_n 3, 1) := by decide +kernel
theorem dX2_make_66 : decode cX2_make 66 = .ok (.iload 4, 2) := by decide +kernel
theorem dX2_make_68 : decode cX2_make 68 = .ok (.iload 4, 2) := by decide +kernel
theorem dX2_make_70 : decode cX2_make 70 = .ok (.ifCond .gt 13, 3) := by decide +kernel
theorem dX2_make_73 : decode cX2_make 73 = .ok (.iload 6, 2) := by decide +kernel
theorem dX2_make_75 : decode cX2_make 75 = .ok (.bipush 16, 2) := by decide +kernel
theorem dX2_make_77 : decode cX2_make 77 = .ok (.invokestatic 49, 3) := by decide +kernel
theorem dX2_make_80 : decode cX2_make 80 = .ok (.ifCond .eq 7, 3) := by decide +kernel
theorem dX2_make_83 : decode cX2_make 83 = .ok (.iconst 1, 1) := by decide +kernel
theorem dX2_make_84 : decode cX2_make 84 = .ok (.goto 4, 3) := by decide +kernel
theorem dX2_make_87 : decode cX2_make 87 = .ok (.iconst 0, 1) := by decide +kernel
theorem dX2_make_88 : decode cX2_make 88 = .ok (.invokevirtual 53, 3) := by decide +kernel
theorem dX2_make_91 : decode cX2_make 91 = .ok (.goto 7, 3) := by decide +kernel
theorem dX2_make_94 : decode cX2_make 94 = .ok (.aload_n 0, 1) := by decide +kernel
theorem dX2_make_95 : decode cX2_make 95 = .ok (.invokevirtual 57, 3) := by decide +kernel
theorem dX2_make_98 : decode cX2_make 98 = .ok (.aload_n 0, 1) := by decide +kernel
theorem dX2_make_99 : decode cX2_make 99 = .ok (.iload 7, 2) := by decide +kernel
theorem dX2_make_101 : decode cX2_make 101 = .ok (.iload 5, 2) := by decide +kernel
theorem dX2_make_103 : decode cX2_make 103 = .ok (.aload_n 0, 1) := by decide +kernel
theorem dX2_make_104 : decode cX2_make 104 = .ok (.getfield 19, 3) := by decide +kernel
theorem dX2_make_107 : decode cX2_make 107 = .ok (.invokevirtual 38, 3) := by decide +kernel
theorem dX2_make_110 : decode cX2_make 110 = .ok (.isub, 1) := by decide +kernel
theorem dX2_make_111 : decode cX2_make 111 = .ok (.iload 8, 2) := by decide +kernel
theorem dX2_make_113 : decode cX2_make 113 = .ok (.iload 6, 2) := by decide +kernel
theorem dX2_make_115 : decode cX2_make 115 = .ok (.invokevirtual 60, 3) := by decide +kernel
theorem dX2_make_118 : decode cX2_make 118 = .ok (.aload_n 0, 1) := by decide +kernel
theorem dX2_make_119 : decode cX2_make 119 = .ok (.getfield 19, 3) := by decide +kernel
theorem dX2_make_122 : decode cX2_make 122 = .ok (.invokevirtual 38, 3) := by decide +kernel
theorem dX2_make_125 : decode cX2_make 125 = .ok (.ireturn, 1) := by decide +kernel
set_option maxRecDepth 20000 in
theorem ggX2_at_X0_codeAt : GoodIn wsX2_at wsX0_codeAt := goodIn_r _ [6, 7, 8, 11, 12] (by decide +kernel) (by decide +kernel)
set_option maxRecDepth 20000 in
theorem gX2_at_X0_codeAt : GoodIn wsX2_at (wsV RX2 64 RX0 yX0_codeAt wsX0_codeAt) := goodIn_app (goodIn_of _ (by decide +kernel)) ggX2_at_X0_codeAt
theorem dX2_at_0 : decode cX2_at 0 = .ok (.aload_n 0, 1) := by decide +kernel
theorem dX2_at_1 : decode cX2_at 1 = .ok (.getfield 19, 3) := by decide +kernel
theorem dX2_at_4 : decode cX2_at 4 = .ok (.iload_n 1, 1) := by decide +kernel
theorem dX2_at_5 : decode cX2_at 5 = .ok (.invokevirtual 64, 3) := by decide +kernel
theorem dX2_at_8 : decode cX2_at 8 = .ok (.ireturn, 1) := by decide +kernel
set_option maxRecDepth 20000 in
theorem ggX2_digits_X2_isFinite : GoodIn wsX2_digits wsX2_isFinite := goodIn_r _ [5, 6, 7, 4, 8] (by decide +kernel) (by decide +kernel)
set_option maxRecDepth 20000 in
theorem gX2_digits_X2_isFinite : GoodIn wsX2_digits (va_wsS RX2 42 yX2_isFinite wsX2_isFinite) := goodIn_app (goodIn_of _ (by decide +kernel)) ggX2_digits_X2_isFinite
set_option maxRecDepth 20000 in
theorem ggX2_digits_X1_take : GoodIn wsX2_digits wsX1_take := goodIn_r _ [13, 14, 15, 16, 17, 18, 19, 20, 21, 22, 23, 7, 4, 8, 24, 25, 26, 12, 27, 28, 29, 30, 31, 32, 33, 34, 35, 36, 37, 38, 39, 40, 41, 42, 43, 44, 45, 46, 47, 48, 49, 50, 51, 52, 53, 54, 55, 56, 57, 72, 73, 74, 75, 76] (by decide +kernel) (by decide +kernel)
set_option maxRecDepth 20000 in
theorem gX2_digits_X1_take : GoodIn wsX2_digits (wsV RX2 45 RX1 yX1_take wsX1_take) := goodIn_app (goodIn_of _ (by decide +kernel)) ggX2_digits_X1_take
set_option maxRecDepth 20000 in
theorem ggX2_digits_X1_digitCount : GoodIn wsX2_digits wsX1_digitCount := goodIn_r _ [61, 49, 62, 63, 64, 12, 65, 66, 67, 68, 69, 48, 72, 73, 74, 75, 76] (by decide +kernel) (by decide +kernel)
set_option maxRecDepth 20000 in
theorem gX2_digits_X1_digitCount : GoodIn wsX2_digits (wsV RX2 68 RX1 yX1_digitCount wsX1_digitCount) := goodIn_app (goodIn_of _ (by decide +kernel)) ggX2_digits_X1_digitCount
theorem dX2_digits_0 : decode cX2_digits 0 = .ok (.lload_n 1, 1) := by decide +kernel
theorem dX2_digits_1 : decode cX2_digits 1 = .ok (.invokestatic 42, 3) := by decide +kernel
theorem dX2_digits_4 : decode cX2_digits 4 = .ok (.ifCond .ne 5, 3) := by decide +kernel
theorem dX2_digits_7 : decode cX2_digits 7 = .ok (.iconst (-1), 1) := by decide +kernel
theorem dX2_digits_8 : decode cX2_digits 8 = .ok (.ireturn, 1) := by decide +kernel
theorem dX2_digits_9 : decode cX2_digits 9 = .ok (.aload_n 0, 1) := by decide +kernel
theorem dX2_digits_10 : decode cX2_digits 10 = .ok (.getfield 12, 3) := by decide +kernel
theorem dX2_digits_13 : decode cX2_digits 13 = .ok (.lload_n 1, 1) := by decide +kernel
theorem dX2_digits_14 : decode cX2_digits 14 = .ok (.invokevirtual 45, 3) := by decide +kernel
theorem dX2_digits_17 : decode cX2_digits 17 = .ok (.aload_n 0, 1) := by decide +kernel
theorem dX2_digits_18 : decode cX2_digits 18 = .ok (.getfield 12, 3) := by decide +kernel
theorem dX2_digits_21 : decode cX2_digits 21 = .ok (.invokevirtual 68, 3) := by decide +kernel
theorem dX2_digits_24 : decode cX2_digits 24 = .ok (.ireturn, 1) := by decide +kernel
set_option maxRecDepth 20000 in
theorem ggX2_isForm_X2_isWithin : GoodIn wsX2_isForm wsX2_isWithin := goodIn_r _ [4] (by decide +kernel) (by decide +kernel)
set_option maxRecDepth 20000 in
theorem gX2_isForm_X2_isWithin : GoodIn wsX2_isForm (va_wsS RX2 71 yX2_isWithin wsX2_isWithin) := goodIn_app (goodIn_of _ (by decide +kernel)) ggX2_isForm_X2_isWithin
theorem dX2_isForm_0 : decode cX2_isForm 0 = .ok (.iload_n 0, 1) := by decide +kernel
theorem dX2_isForm_1 : decode cX2_isForm 1 = .ok (.iconst 2, 1) := by decide +kernel
theorem dX2_isForm_2 : decode cX2_isForm 2 = .ok (.invokestatic 71, 3) := by decide +kernel
theorem dX2_isForm_5 : decode cX2_isForm 5 = .ok (.ifCond .eq 35, 3) := by decide +kernel
theorem dX2_isForm_8 : decode cX2_isForm 8 = .ok (.iload_n 1, 1) := by decide +kernel
theorem dX2_isForm_9 : decode cX2_isForm 9 = .ok (.bipush 15, 2) := by decide +kernel
theorem dX2_isForm_11 : decode cX2_isForm 11 = .ok (.invokestatic 71, 3) := by decide +kernel
theorem dX2_isForm_14 : decode cX2_isForm 14 = .ok (.ifCond .eq 26, 3) := by decide +kernel
theorem dX2_isForm_17 : decode cX2_isForm 17 = .ok (.iload_n 2, 1) := by decide +kernel
theorem dX2_isForm_18 : decode cX2_isForm 18 = .ok (.sipush 400, 3) := by decide +kernel
theorem dX2_isForm_21 : decode cX2_isForm 21 = .ok (.invokestatic 71, 3) := by decide +kernel
theorem dX2_isForm_24 : decode cX2_isForm 24 = .ok (.ifCond .eq 16, 3) := by decide +kernel
theorem dX2_isForm_27 : decode cX2_isForm 27 = .ok (.iload_n 3, 1) := by decide +kernel
theorem dX2_isForm_28 : decode cX2_isForm 28 = .ok (.bipush 31, 2) := by decide +kernel
theorem dX2_isForm_30 : decode cX2_isForm 30 = .ok (.invokestatic 71, 3) := by decide +kernel
theorem dX2_isForm_33 : decode cX2_isForm 33 = .ok (.ifCond .eq 7, 3) := by decide +kernel
theorem dX2_isForm_36 : decode cX2_isForm 36 = .ok (.iconst 1, 1) := by decide +kernel
theorem dX2_isForm_37 : decode cX2_isForm 37 = .ok (.goto 4, 3) := by decide +kernel
theorem dX2_isForm_40 : decode cX2_isForm 40 = .ok (.iconst 0, 1) := by decide +kernel
theorem dX2_isForm_41 : decode cX2_isForm 41 = .ok (.ireturn, 1) := by decide +kernel
theorem dX2_isWithin_0 : decode cX2_isWithin 0 = .ok (.iload_n 0, 1) := by decide +kernel
theorem dX2_isWithin_1 : decode cX2_isWithin 1 = .ok (.ifCond .lt 12, 3) := by decide +kernel
theorem dX2_isWithin_4 : decode cX2_isWithin 4 = .ok (.iload_n 0, 1) := by decide +kernel
theorem dX2_isWithin_5 : decode cX2_isWithin 5 = .ok (.iload_n 1, 1) := by decide +kernel
theorem dX2_isWithin_6 : decode cX2_isWithin 6 = .ok (.if_icmp .gt 7, 3) := by decide +kernel
theorem dX2_isWithin_9 : decode cX2_isWithin 9 = .ok (.iconst 1, 1) := by decide +kernel
theorem dX2_isWithin_10 : decode cX2_isWithin 10 = .ok (.goto 4, 3) := by decide +kernel
theorem dX2_isWithin_13 : decode cX2_isWithin 13 = .ok (.iconst 0, 1) := by decide +kernel
theorem dX2_isWithin_14 : decode cX2_isWithin 14 = .ok (.ireturn, 1) := by decide +kernel
theorem dX2_has_0 : decode cX2_has 0 = .ok (.iload_n 0, 1) := by decide +kernel
theorem dX2_has_1 : decode cX2_has 1 = .ok (.iload_n 1, 1) := by decide +kernel
theorem dX2_has_2 : decode cX2_has 2 = .ok (.iand, 1) := by decide +kernel
theorem dX2_has_3 : decode cX2_has 3 = .ok (.ifCond .eq 7, 3) := by decide +kernel
theorem dX2_has_6 : decode cX2_has 6 = .ok (.iconst 1, 1) := by decide +kernel
theorem dX2_has_7 : decode cX2_has 7 = .ok (.goto 4, 3) := by decide +kernel
theorem dX2_has_10 : decode cX2_has 10 = .ok (.iconst 0, 1) := by decide +kernel
theorem dX2_has_11 : decode cX2_has 11 = .ok (.ireturn, 1) := by decide +kernel
theorem dX2_exponentField_0 : decode cX2_exponentField 0 = .ok (.lload_n 0, 1) := by decide +kernel
theorem dX2_exponentField_1 : decode cX2_exponentField 1 = .ok (.bipush 52, 2) := by decide +kernel
theorem dX2_exponentField_3 : decode cX2_exponentField 3 = .ok (.lushr, 1) := by decide +kernel
theorem dX2_exponentField_4 : decode cX2_exponentField 4 = .ok (.l2i, 1) := by decide +kernel
theorem dX2_exponentField_5 : decode cX2_exponentField 5 = .ok (.sipush 2047, 3) := by decide +kernel
theorem dX2_exponentField_8 : decode cX2_exponentField 8 = .ok (.iand, 1) := by decide +kernel
theorem dX2_exponentField_9 : decode cX2_exponentField 9 = .ok (.ireturn, 1) := by decide +kernel
set_option maxRecDepth 20000 in
theorem ggX2_isFinite_X2_exponentField : GoodIn wsX2_isFinite wsX2_exponentField := goodIn_r _ [4] (by decide +kernel) (by decide +kernel)
set_option maxRecDepth 20000 in
theorem gX2_isFinite_X2_exponentField : GoodIn wsX2_isFinite (va_wsS RX2 74 yX2_exponentField wsX2_exponentField) := goodIn_app (goodIn_of _ (by decide +kernel)) ggX2_isFinite_X2_exponentField
theorem dX2_isFinite_0 : decode cX2_isFinite 0 = .ok (.lload_n 0, 1) := by decide +kernel
theorem dX2_isFinite_1 : decode cX2_isFinite 1 = .ok (.invokestatic 74, 3) := by decide +kernel
theorem dX2_isFinite_4 : decode cX2_isFinite 4 = .ok (.sipush 2047, 3) := by decide +kernel
theorem dX2_isFinite_7 : decode cX2_isFinite 7 = .ok (.if_icmp .eq 7, 3) := by decide +kernel
theorem dX2_isFinite_10 : decode cX2_isFinite 10 = .ok (.iconst 1, 1) := by decide +kernel
theorem dX2_isFinite_11 : decode cX2_isFinite 11 = .ok (.goto 4, 3) := by decide +kernel
theorem dX2_isFinite_14 : decode cX2_isFinite 14 = .ok (.iconst 0, 1) := by decide +kernel
theorem dX2_isFinite_15 : decode cX2_isFinite 15 = .ok (.ireturn, 1) := by decide +kernel
set_option maxRecDepth 20000 in
theorem ggX2_isNoNumber_X2_isFinite : GoodIn wsX2_isNoNumber wsX2_isFinite := goodIn_r _ [5, 6, 7, 4, 8] (by decide +kernel) (by decide +kernel)
set_option maxRecDepth 20000 in
theorem gX2_isNoNumber_X2_isFinite : GoodIn wsX2_isNoNumber (va_wsS RX2 42 yX2_isFinite wsX2_isFinite) := goodIn_app (goodIn_of _ (by decide +kernel)) ggX2_isNoNumber_X2_isFinite
theorem dX2_isNoNumber_0 : decode cX2_isNoNumber 0 = .ok (.lload_n 0, 1) := by decide +kernel
theorem dX2_isNoNumber_1 : decode cX2_isNoNumber 1 = .ok (.invokestatic 42, 3) := by decide +kernel
theorem dX2_isNoNumber_4 : decode cX2_isNoNumber 4 = .ok (.ifCond .ne 17, 3) := by decide +kernel
theorem dX2_isNoNumber_7 : decode cX2_isNoNumber 7 = .ok (.lload_n 0, 1) := by decide +kernel
theorem dX2_isNoNumber_8 : decode cX2_isNoNumber 8 = .ok (.ldc2_w 78, 3) := by decide +kernel
theorem dX2_isNoNumber_11 : decode cX2_isNoNumber 11 = .ok (.land, 1) := by decide +kernel
theorem dX2_isNoNumber_12 : decode cX2_isNoNumber 12 = .ok (.lconst 0, 1) := by decide +kernel
theorem dX2_isNoNumber_13 : decode cX2_isNoNumber 13 = .ok (.lcmp, 1) := by decide +kernel
theorem dX2_isNoNumber_14 : decode cX2_isNoNumber 14 = .ok (.ifCond .eq 7, 3) := by decide +kernel
theorem dX2_isNoNumber_17 : decode cX2_isNoNumber 17 = .ok (.iconst 1, 1) := by decide +kernel
theorem dX2_isNoNumber_18 : decode cX2_isNoNumber 18 = .ok (.goto 4, 3) := by decide +kernel
theorem dX2_isNoNumber_21 : decode cX2_isNoNumber 21 = .ok (.iconst 0, 1) := by decide +kernel
theorem dX2_isNoNumber_22 : decode cX2_isNoNumber 22 = .ok (.ireturn, 1) := by decide +kernel
set_option maxRecDepth 20000 in
theorem ggX2_putSign_X0_put : GoodIn wsX2_putSign wsX0_put := goodIn_r _ [6, 7, 8, 15, 16] (by decide +kernel) (by decide +kernel)
set_option maxRecDepth 20000 in
theorem gX2_putSign_X0_put : GoodIn wsX2_putSign (wsV RX2 80 RX0 yX0_put wsX0_put) := goodIn_app (goodIn_of _ (by decide +kernel)) ggX2_putSign_X0_put
set_option maxRecDepth 20000 in
theorem ggX2_putSign_X2_has : GoodIn wsX2_putSign wsX2_has := goodIn_r _ [12] (by decide +kernel) (by decide +kernel)
set_option maxRecDepth 20000 in
theorem gX2_putSign_X2_has : GoodIn wsX2_putSign (va_wsS RX2 49 yX2_has wsX2_has) := goodIn_app (goodIn_of _ (by decide +kernel)) ggX2_putSign_X2_has
theorem dX2_putSign_0 : decode cX2_putSign 0 = .ok (.lload_n 1, 1) := by decide +kernel
theorem dX2_putSign_1 : decode cX2_putSign 1 = .ok (.lconst 0, 1) := by decide +kernel
theorem dX2_putSign_2 : decode cX2_putSign 2 = .ok (.lcmp, 1) := by decide +kernel
theorem dX2_putSign_3 : decode cX2_putSign 3 = .ok (.ifCond .ge 15, 3) := by decide +kernel
theorem dX2_putSign_6 : decode cX2_putSign 6 = .ok (.aload_n 0, 1) := by decide +kernel
theorem dX2_putSign_7 : decode cX2_putSign 7 = .ok (.getfield 19, 3) := by decide +kernel
theorem dX2_putSign_10 : decode cX2_putSign 10 = .ok (.bipush 45, 2) := by decide +kernel
theorem dX2_putSign_12 : decode cX2_putSign 12 = .ok (.invokevirtual 80, 3) := by decide +kernel
theorem dX2_putSign_15 : decode cX2_putSign 15 = .ok (.goto 40, 3) := by decide +kernel
theorem dX2_putSign_18 : decode cX2_putSign 18 = .ok (.iload_n 3, 1) := by decide +kernel
theorem dX2_putSign_19 : decode cX2_putSign 19 = .ok (.iconst 2, 1) := by decide +kernel
theorem dX2_putSign_20 : decode cX2_putSign 20 = .ok (.invokestatic 49, 3) := by decide +kernel
theorem dX2_putSign_23 : decode cX2_putSign 23 = .ok (.ifCond .eq 15, 3) := by decide +kernel
theorem dX2_putSign_26 : decode cX2_putSign 26 = .ok (.aload_n 0, 1) := by decide +kernel
theorem dX2_putSign_27 : decode cX2_putSign 27 = .ok (.getfield 19, 3) := by decide +kernel
theorem dX2_putSign_30 : decode cX2_putSign 30 = .ok (.bipush 43, 2) := by decide +kernel
theorem dX2_putSign_32 : decode cX2_putSign 32 = .ok (.invokevirtual 80, 3) := by decide +kernel
theorem dX2_putSign_35 : decode cX2_putSign 35 = .ok (.goto 20, 3) := by decide +kernel
theorem dX2_putSign_38 : decode cX2_putSign 38 = .ok (.iload_n 3, 1) := by decide +kernel
theorem dX2_putSign_39 : decode cX2_putSign 39 = .ok (.iconst 4, 1) := by decide +kernel
theorem dX2_putSign_40 : decode cX2_putSign 40 = .ok (.invokestatic 49, 3) := by decide +kernel
theorem dX2_putSign_43 : decode cX2_putSign 43 = .ok (.ifCond .eq 12, 3) := by decide +kernel
theorem dX2_putSign_46 : decode cX2_putSign 46 = .ok (.aload_n 0, 1) := by decide +kernel
theorem dX2_putSign_47 : decode cX2_putSign 47 = .ok (.getfield 19, 3) := by decide +kernel
theorem dX2_putSign_50 : decode cX2_putSign 50 = .ok (.bipush 32, 2) := by decide +kernel
theorem dX2_putSign_52 : decode cX2_putSign 52 = .ok (.invokevirtual 80, 3) := by decide +kernel
theorem dX2_putSign_55 : decode cX2_putSign 55 = .ok (.return_, 1) := by decide +kernel
set_option maxRecDepth 20000 in
theorem ggX2_putInfinite_X0_put : GoodIn wsX2_putInfinite wsX0_put := goodIn_r _ [6, 7, 8, 11, 12] (by decide +kernel) (by decide +kernel)
set_option maxRecDepth 20000 in
theorem gX2_putInfinite_X0_put : GoodIn wsX2_putInfinite (wsV RX2 80 RX0 yX0_put wsX0_put) := goodIn_app (goodIn_of _ (by decide +kernel)) ggX2_putInfinite_X0_put
theorem dX2_putInfinite_0 : decode cX2_putInfinite 0 = .ok (.aload_n 0, 1) := by decide +kernel
theorem dX2_putInfinite_1 : decode cX2_putInfinite 1 = .ok (.getfield 19, 3) := by decide +kernel
theorem dX2_putInfinite_4 : decode cX2_putInfinite 4 = .ok (.bipush 105, 2) := by decide +kernel
theorem dX2_putInfinite_6 : decode cX2_putInfinite 6 = .ok (.invokevirtual 80, 3) := by decide +kernel
theorem dX2_putInfinite_9 : decode cX2_putInfinite 9 = .ok (.aload_n 0, 1) := by decide +kernel
theorem dX2_putInfinite_10 : decode cX2_putInfinite 10 = .ok (.getfield 19, 3) := by decide +kernel
theorem dX2_putInfinite_13 : decode cX2_putInfinite 13 = .ok (.bipush 110, 2) := by decide +kernel
theorem dX2_putInfinite_15 : decode cX2_putInfinite 15 = .ok (.invokevirtual 80, 3) := by decide +kernel
theorem dX2_putInfinite_18 : decode cX2_putInfinite 18 = .ok (.aload_n 0, 1) := by decide +kernel
theorem dX2_putInfinite_19 : decode cX2_putInfinite 19 = .ok (.getfield 19, 3) := by decide +kernel
theorem dX2_putInfinite_22 : decode cX2_putInfinite 22 = .ok (.bipush 102, 2) := by decide +kernel
theorem dX2_putInfinite_24 : decode cX2_putInfinite 24 = .ok (.invokevirtual 80, 3) := by decide +kernel
theorem dX2_putInfinite_27 : decode cX2_putInfinite 27 = .ok (.return_, 1) := by decide +kernel
set_option maxRecDepth 20000 in
theorem ggX2_putBody_X2_putPlain : GoodIn wsX2_putBody wsX2_putPlain := goodIn_r _ [5, 6, 7, 8, 9, 10, 11, 12, 13, 14, 15, 16, 17, 18, 19, 20, 21, 22, 23, 24, 25, 26, 27, 28, 29, 30, 31, 32, 33, 34, 35, 36, 37, 38, 39, 40, 41, 42, 4, 43, 44, 45, 46, 47, 48, 49, 50, 51, 52, 53, 54, 55, 56, 57, 58, 59, 60, 61, 62, 63, 75, 76, 77, 78, 79, 80, 81, 82, 83] (by decide +kernel) (by decide +kernel)
set_option maxRecDepth 20000 in
theorem gX2_putBody_X2_putPlain : GoodIn wsX2_putBody (wsV RX2 84 RX2 yX2_putPlain wsX2_putPlain) := goodIn_app (goodIn_of _ (by decide +kernel)) ggX2_putBody_X2_putPlain
set_option maxRecDepth 20000 in
theorem ggX2_putBody_X2_putWithExponent : GoodIn wsX2_putBody wsX2_putWithExponent := goodIn_r _ [67, 6, 36, 37, 38, 14, 39, 30, 16, 11, 12, 13, 15, 17, 18, 19, 20, 21, 22, 23, 24, 25, 26, 27, 28, 29, 31, 32, 33, 34, 35, 8, 9, 10, 40, 41, 42, 4, 43, 44, 45, 46, 47, 48, 49, 50, 51, 52, 53, 54, 55, 56, 57, 58, 59, 60, 61, 62, 63, 68, 69, 70, 71, 72, 73, 74, 75, 76, 77, 78, 79, 80, 81, 82, 83] (by decide +kernel) (by decide +kernel)
set_option maxRecDepth 20000 in
theorem gX2_putBody_X2_putWithExponent : GoodIn wsX2_putBody (wsV RX2 88 RX2 yX2_putWithExponent wsX2_putWithExponent) := goodIn_app (goodIn_of _ (by decide +kernel)) ggX2_putBody_X2_putWithExponent
theorem dX2_putBody_0 : decode cX2_putBody 0 = .ok (.iload_n 1, 1) := by decide +kernel
theorem dX2_putBody_1 : decode cX2_putBody 1 = .ok (.ifCond .ne 12, 3) := by decide +kernel
theorem dX2_putBody_4 : decode cX2_putBody 4 = .ok (.aload_n 0, 1) := by decide +kernel
theorem dX2_putBody_5 : decode cX2_putBody 5 = .ok (.iload_n 2, 1) := by decide +kernel
theorem dX2_putBody_6 : decode cX2_putBody 6 = .ok (.iload_n 3, 1) := by decide +kernel
theorem dX2_putBody_7 : decode cX2_putBody 7 = .ok (.invokevirtual 84, 3) := by decide +kernel
theorem dX2_putBody_10 : decode cX2_putBody 10 = .ok (.goto 21, 3) := by decide +kernel
theorem dX2_putBody_13 : decode cX2_putBody 13 = .ok (.aload_n 0, 1) := by decide +kernel
theorem dX2_putBody_14 : decode cX2_putBody 14 = .ok (.iload_n 2, 1) := by decide +kernel
theorem dX2_putBody_15 : decode cX2_putBody 15 = .ok (.iload_n 3, 1) := by decide +kernel
theorem dX2_putBody_16 : decode cX2_putBody 16 = .ok (.iload_n 1, 1) := by decide +kernel
theorem dX2_putBody_17 : decode cX2_putBody 17 = .ok (.iconst 2, 1) := by decide +kernel
theorem dX2_putBody_18 : decode cX2_putBody 18 = .ok (.if_icmp .ne 8, 3) := by decide +kernel
theorem dX2_putBody_21 : decode cX2_putBody 21 = .ok (.bipush 69, 2) := by decide +kernel
theorem dX2_putBody_23 : decode cX2_putBody 23 = .ok (.goto 5, 3) := by decide +kernel
theorem dX2_putBody_26 : decode cX2_putBody 26 = .ok (.bipush 101, 2) := by decide +kernel
theorem dX2_putBody_28 : decode cX2_putBody 28 = .ok (.invokevirtual 88, 3) := by decide +kernel
theorem dX2_putBody_31 : decode cX2_putBody 31 = .ok (.return_, 1) := by decide +kernel
set_option maxRecDepth 20000 in
theorem ggX2_putPlain_X1_roundTo : GoodIn wsX2_putPlain wsX1_roundTo := goodIn_r _ [10, 11, 12, 13, 14, 9, 15, 16, 17, 18, 19, 20, 21, 22, 23, 24, 25, 26, 27, 28, 29, 30, 3, 4, 5, 62, 63, 64, 65, 66] (by decide +kernel) (by decide +kernel)
set_option maxRecDepth 20000 in
theorem gX2_putPlain_X1_roundTo : GoodIn wsX2_putPlain (wsV RX2 92 RX1 yX1_roundTo wsX1_roundTo) := goodIn_app (goodIn_of _ (by decide +kernel)) ggX2_putPlain_X1_roundTo
set_option maxRecDepth 20000 in
theorem ggX2_putPlain_X1_highestPower : GoodIn wsX2_putPlain wsX1_highestPower := goodIn_r _ [34, 25, 11, 62, 63, 64, 65, 66] (by decide +kernel) (by decide +kernel)
set_option maxRecDepth 20000 in
theorem gX2_putPlain_X1_highestPower : GoodIn wsX2_putPlain (wsV RX2 96 RX1 yX1_highestPower wsX1_highestPower) := goodIn_app (goodIn_of _ (by decide +kernel)) ggX2_putPlain_X1_highestPower
set_option maxRecDepth 20000 in
theorem ggX2_putPlain_X2_putDigits : GoodIn wsX2_putPlain wsX2_putDigits := goodIn_r _ [39, 1, 40, 41, 42, 9, 43, 11, 16, 17, 18, 19, 20, 44, 45, 46, 38, 47, 48, 49, 50, 51, 52, 53, 54, 55, 60, 61, 62, 63, 64, 65, 66, 67, 68] (by decide +kernel) (by decide +kernel)
set_option maxRecDepth 20000 in
theorem gX2_putPlain_X2_putDigits : GoodIn wsX2_putPlain (wsV RX2 105 RX2 yX2_putDigits wsX2_putDigits) := goodIn_app (goodIn_of _ (by decide +kernel)) ggX2_putPlain_X2_putDigits
set_option maxRecDepth 20000 in
theorem ggX2_putPlain_X2_putDecimals : GoodIn wsX2_putPlain wsX2_putDecimals := goodIn_r _ [59, 48, 49, 50, 51, 52, 53, 54, 55, 35, 36, 37, 38, 39, 1, 40, 41, 42, 9, 43, 11, 16, 17, 18, 19, 20, 44, 45, 46, 47, 60, 61, 67, 68, 62, 63, 64, 65, 66] (by decide +kernel) (by decide +kernel)
set_option maxRecDepth 20000 in
theorem gX2_putPlain_X2_putDecimals : GoodIn wsX2_putPlain (wsV RX2 109 RX2 yX2_putDecimals wsX2_putDecimals) := goodIn_app (goodIn_of _ (by decide +kernel)) ggX2_putPlain_X2_putDecimals
theorem dX2_putPlain_0 : decode cX2_putPlain 0 = .ok (.aload_n 0, 1) := by decide +kernel
theorem dX2_putPlain_1 : decode cX2_putPlain 1 = .ok (.getfield 12, 3) := by decide +kernel
theorem dX2_putPlain_4 : decode cX2_putPlain 4 = .ok (.iload_n 1, 1) := by decide +kernel
theorem dX2_putPlain_5 : decode cX2_putPlain 5 = .ok (.ineg, 1) := by decide +kernel
theorem dX2_putPlain_6 : decode cX2_putPlain 6 = .ok (.invokevirtual 92, 3) := by decide +kernel
theorem dX2_putPlain_9 : decode cX2_putPlain 9 = .ok (.aload_n 0, 1) := by decide +kernel
theorem dX2_putPlain_10 : decode cX2_putPlain 10 = .ok (.aload_n 0, 1) := by decide +kernel
theorem dX2_putPlain_11 : decode cX2_putPlain 11 = .ok (.getfield 12, 3) := by decide +kernel
theorem dX2_putPlain_14 : decode cX2_putPlain 14 = .ok (.invokevirtual 96, 3) := by decide +kernel
theorem dX2_putPlain_17 : decode cX2_putPlain 17 = .ok (.iconst 0, 1) := by decide +kernel
theorem dX2_putPlain_18 : decode cX2_putPlain 18 = .ok (.invokestatic 99, 3) := by decide +kernel
theorem dX2_putPlain_21 : decode cX2_putPlain 21 = .ok (.iconst 0, 1) := by decide +kernel
theorem dX2_putPlain_22 : decode cX2_putPlain 22 = .ok (.invokevirtual 105, 3) := by decide +kernel
theorem dX2_putPlain_25 : decode cX2_putPlain 25 = .ok (.aload_n 0, 1) := by decide +kernel
theorem dX2_putPlain_26 : decode cX2_putPlain 26 = .ok (.iconst 0, 1) := by decide +kernel
theorem dX2_putPlain_27 : decode cX2_putPlain 27 = .ok (.iload_n 1, 1) := by decide +kernel
theorem dX2_putPlain_28 : decode cX2_putPlain 28 = .ok (.iload_n 2, 1) := by decide +kernel
theorem dX2_putPlain_29 : decode cX2_putPlain 29 = .ok (.invokevirtual 109, 3) := by decide +kernel
theorem dX2_putPlain_32 : decode cX2_putPlain 32 = .ok (.return_, 1) := by decide +kernel
set_option maxRecDepth 20000 in
theorem ggX2_putWithExponent_X1_highestPower : GoodIn wsX2_putWithExponent wsX1_highestPower := goodIn_r _ [6, 7, 8, 68, 69, 70, 71, 72] (by decide +kernel) (by decide +kernel)
set_option maxRecDepth 20000 in
theorem gX2_putWithExponent_X1_highestPower : GoodIn wsX2_putWithExponent (wsV RX2 96 RX1 yX1_highestPower wsX1_highestPower) := goodIn_app (goodIn_of _ (by decide +kernel)) ggX2_putWithExponent_X1_highestPower
set_option maxRecDepth 20000 in
theorem ggX2_putWithExponent_X1_roundTo : GoodIn wsX2_putWithExponent wsX1_roundTo := goodIn_r _ [12, 8, 13, 14, 15, 5, 16, 17, 18, 19, 20, 21, 22, 23, 24, 25, 7, 26, 27, 28, 29, 30, 31, 32, 33, 68, 69, 70, 71, 72] (by decide +kernel) (by decide +kernel)
set_option maxRecDepth 20000 in
theorem gX2_putWithExponent_X1_roundTo : GoodIn wsX2_putWithExponent (wsV RX2 92 RX1 yX1_roundTo wsX1_roundTo) := goodIn_app (goodIn_of _ (by decide +kernel)) ggX2_putWithExponent_X1_roundTo
set_option maxRecDepth 20000 in
theorem ggX2_putWithExponent_X2_putDigits : GoodIn wsX2_putWithExponent wsX2_putDigits := goodIn_r _ [38, 1, 39, 40, 41, 5, 42, 8, 17, 18, 19, 20, 21, 43, 44, 45, 37, 46, 47, 48, 49, 50, 51, 52, 53, 54, 66, 67, 68, 69, 70, 71, 72, 73, 74] (by decide +kernel) (by decide +kernel)
set_option maxRecDepth 20000 in
theorem gX2_putWithExponent_X2_putDigits : GoodIn wsX2_putWithExponent (wsV RX2 105 RX2 yX2_putDigits wsX2_putDigits) := goodIn_app (goodIn_of _ (by decide +kernel)) ggX2_putWithExponent_X2_putDigits
set_option maxRecDepth 20000 in
theorem ggX2_putWithExponent_X2_putDecimals : GoodIn wsX2_putWithExponent wsX2_putDecimals := goodIn_r _ [58, 47, 48, 49, 50, 51, 52, 53, 54, 34, 35, 36, 37, 38, 1, 39, 40, 41, 5, 42, 8, 17, 18, 19, 20, 21, 43, 44, 45, 46, 66, 67, 73, 74, 68, 69, 70, 71, 72] (by decide +kernel) (by decide +kernel)
set_option maxRecDepth 20000 in
theorem gX2_putWithExponent_X2_putDecimals : GoodIn wsX2_putWithExponent (wsV RX2 109 RX2 yX2_putDecimals wsX2_putDecimals) := goodIn_app (goodIn_of _ (by decide +kernel)) ggX2_putWithExponent_X2_putDecimals
set_option maxRecDepth 20000 in
theorem ggX2_putWithExponent_X2_putExponent : GoodIn wsX2_putWithExponent wsX2_putExponent := goodIn_r _ [62, 63, 64, 32, 65, 47, 48, 49, 50, 51, 52, 53, 54, 43, 44, 45, 37, 46, 66, 67, 73, 74] (by decide +kernel) (by decide +kernel)
set_option maxRecDepth 20000 in
theorem gX2_putWithExponent_X2_putExponent : GoodIn wsX2_putWithExponent (wsV RX2 112 RX2 yX2_putExponent wsX2_putExponent) := goodIn_app (goodIn_of _ (by decide +kernel)) ggX2_putWithExponent_X2_putExponent
theorem dX2_putWithExponent_0 : decode cX2_putWithExponent 0 = .ok (.aload_n 0, 1) := by decide +kernel
theorem dX2_putWithExponent_1 : decode cX2_putWithExponent 1 = .ok (.getfield 12, 3) := by decide +kernel
theorem dX2_putWithExponent_4 : decode cX2_putWithExponent 4 = .ok (.aload_n 0, 1) := by decide +kernel
theorem dX2_putWithExponent_5 : decode cX2_putWithExponent 5 = .ok (.getfield 12, 3) := by decide +kernel
theorem dX2_putWithExponent_8 : decode cX2_putWithExponent 8 = .ok (.invokevirtual 96, 3) := by decide +kernel
theorem dX2_putWithExponent_11 : decode cX2_putWithExponent 11 = .ok (.iload_n 1, 1) := by decide +kernel
theorem dX2_putWithExponent_12 : decode cX2_putWithExponent 12 = .ok (.isub, 1) := by decide +kernel
theorem dX2_putWithExponent_13 : decode cX2_putWithExponent 13 = .ok (.invokevirtual 92, 3) := by decide +kernel
theorem dX2_putWithExponent_16 : decode cX2_putWithExponent 16 = .ok (.aload_n 0, 1) := by decide +kernel
theorem dX2_putWithExponent_17 : decode cX2_putWithExponent 17 = .ok (.getfield 12, 3) := by decide +kernel
theorem dX2_putWithExponent_20 : decode cX2_putWithExponent 20 = .ok (.invokevirtual 96, 3) := by decide +kernel
theorem dX2_putWithExponent_23 : decode cX2_putWithExponent 23 = .ok (.istore 4, 2) := by decide +kernel
theorem dX2_putWithExponent_25 : decode cX2_putWithExponent 25 = .ok (.aload_n 0, 1) := by decide +kernel
theorem dX2_putWithExponent_26 : decode cX2_putWithExponent 26 = .ok (.iload 4, 2) := by decide +kernel
theorem dX2_putWithExponent_28 : decode cX2_putWithExponent 28 = .ok (.iload 4, 2) := by decide +kernel
theorem dX2_putWithExponent_30 : decode cX2_putWithExponent 30 = .ok (.invokevirtual 105, 3) := by decide +kernel
theorem dX2_putWithExponent_33 : decode cX2_putWithExponent 33 = .ok (.aload_n 0, 1) := by decide +kernel
theorem dX2_putWithExponent_34 : decode cX2_putWithExponent 34 = .ok (.iload 4, 2) := by decide +kernel
theorem dX2_putWithExponent_36 : decode cX2_putWithExponent 36 = .ok (.iload_n 1, 1) := by decide +kernel
theorem dX2_putWithExponent_37 : decode cX2_putWithExponent 37 = .ok (.iload_n 2, 1) := by decide +kernel
theorem dX2_putWithExponent_38 : decode cX2_putWithExponent 38 = .ok (.invokevirtual 109, 3) := by decide +kernel
theorem dX2_putWithExponent_41 : decode cX2_putWithExponent 41 = .ok (.aload_n 0, 1) := by decide +kernel
theorem dX2_putWithExponent_42 : decode cX2_putWithExponent 42 = .ok (.iload 4, 2) := by decide +kernel
theorem dX2_putWithExponent_44 : decode cX2_putWithExponent 44 = .ok (.iload_n 3, 1) := by decide +kernel
theorem dX2_putWithExponent_45 : decode cX2_putWithExponent 45 = .ok (.invokevirtual 112, 3) := by decide +kernel
theorem dX2_putWithExponent_48 : decode cX2_putWithExponent 48 = .ok (.return_, 1) := by decide +kernel
set_option maxRecDepth 20000 in
theorem ggX2_putDecimals_X0_put : GoodIn wsX2_putDecimals wsX0_put := goodIn_r _ [6, 7, 8, 32, 33] (by decide +kernel) (by decide +kernel)
set_option maxRecDepth 20000 in
theorem gX2_putDecimals_X0_put : GoodIn wsX2_putDecimals (wsV RX2 80 RX0 yX0_put wsX0_put) := goodIn_app (goodIn_of _ (by decide +kernel)) ggX2_putDecimals_X0_put
set_option maxRecDepth 20000 in
theorem ggX2_putDecimals_X2_putDigits : GoodIn wsX2_putDecimals wsX2_putDigits := goodIn_r _ [13, 14, 15, 16, 17, 18, 19, 20, 21, 22, 23, 24, 25, 26, 27, 28, 12, 29, 1, 2, 3, 4, 5, 6, 7, 8, 30, 31, 34, 35, 36, 37, 38, 32, 33] (by decide +kernel) (by decide +kernel)
set_option maxRecDepth 20000 in
theorem gX2_putDecimals_X2_putDigits : GoodIn wsX2_putDecimals (wsV RX2 105 RX2 yX2_putDigits wsX2_putDigits) := goodIn_app (goodIn_of _ (by decide +kernel)) ggX2_putDecimals_X2_putDigits
theorem dX2_putDecimals_0 : decode cX2_putDecimals 0 = .ok (.iload_n 3, 1) := by decide +kernel
theorem dX2_putDecimals_1 : decode cX2_putDecimals 1 = .ok (.ifCond .eq 12, 3) := by decide +kernel
theorem dX2_putDecimals_4 : decode cX2_putDecimals 4 = .ok (.aload_n 0, 1) := by decide +kernel
theorem dX2_putDecimals_5 : decode cX2_putDecimals 5 = .ok (.getfield 19, 3) := by decide +kernel
theorem dX2_putDecimals_8 : decode cX2_putDecimals 8 = .ok (.bipush 46, 2) := by decide +kernel
theorem dX2_putDecimals_10 : decode cX2_putDecimals 10 = .ok (.invokevirtual 80, 3) := by decide +kernel
theorem dX2_putDecimals_13 : decode cX2_putDecimals 13 = .ok (.aload_n 0, 1) := by decide +kernel
theorem dX2_putDecimals_14 : decode cX2_putDecimals 14 = .ok (.iload_n 1, 1) := by decide +kernel
theorem dX2_putDecimals_15 : decode cX2_putDecimals 15 = .ok (.iconst 1, 1) := by decide +kernel
theorem dX2_putDecimals_16 : decode cX2_putDecimals 16 = .ok (.isub, 1) := by decide +kernel
theorem dX2_putDecimals_17 : decode cX2_putDecimals 17 = .ok (.iload_n 1, 1) := by decide +kernel
theorem dX2_putDecimals_18 : decode cX2_putDecimals 18 = .ok (.iload_n 2, 1) := by decide +kernel
theorem dX2_putDecimals_19 : decode cX2_putDecimals 19 = .ok (.isub, 1) := by decide +kernel
theorem dX2_putDecimals_20 : decode cX2_putDecimals 20 = .ok (.invokevirtual 105, 3) := by decide +kernel
theorem dX2_putDecimals_23 : decode cX2_putDecimals 23 = .ok (.return_, 1) := by decide +kernel
set_option maxRecDepth 20000 in
theorem ggX2_putDigits_X1_digitOf : GoodIn wsX2_putDigits wsX1_digitOf := goodIn_r _ [6, 7, 8, 9, 10, 5, 11, 12, 28, 29, 30, 31, 32] (by decide +kernel) (by decide +kernel)
set_option maxRecDepth 20000 in
theorem gX2_putDigits_X1_digitOf : GoodIn wsX2_putDigits (wsV RX2 116 RX1 yX1_digitOf wsX1_digitOf) := goodIn_app (goodIn_of _ (by decide +kernel)) ggX2_putDigits_X1_digitOf
set_option maxRecDepth 20000 in
theorem ggX2_putDigits_X2_putDigit : GoodIn wsX2_putDigits wsX2_putDigit := goodIn_r _ [17, 18, 19, 20, 21, 22, 23, 24, 25, 26, 27, 33, 34] (by decide +kernel) (by decide +kernel)
set_option maxRecDepth 20000 in
theorem gX2_putDigits_X2_putDigit : GoodIn wsX2_putDigits (wsV RX2 119 RX2 yX2_putDigit wsX2_putDigit) := goodIn_app (goodIn_of _ (by decide +kernel)) ggX2_putDigits_X2_putDigit
theorem dX2_putDigits_0 : decode cX2_putDigits 0 = .ok (.iload_n 1, 1) := by decide +kernel
theorem dX2_putDigits_1 : decode cX2_putDigits 1 = .ok (.istore_n 3, 1) := by decide +kernel
theorem dX2_putDigits_2 : decode cX2_putDigits 2 = .ok (.iload_n 3, 1) := by decide +kernel
theorem dX2_putDigits_3 : decode cX2_putDigits 3 = .ok (.iload_n 2, 1) := by decide +kernel
theorem dX2_putDigits_4 : decode cX2_putDigits 4 = .ok (.if_icmp .lt 21, 3) := by decide +kernel
theorem dX2_putDigits_7 : decode cX2_putDigits 7 = .ok (.aload_n 0, 1) := by decide +kernel
theorem dX2_putDigits_8 : decode cX2_putDigits 8 = .ok (.aload_n 0, 1) := by decide +kernel
theorem dX2_putDigits_9 : decode cX2_putDigits 9 = .ok (.getfield 12, 3) := by decide +kernel
theorem dX2_putDigits_12 : decode cX2_putDigits 12 = .ok (.iload_n 3, 1) := by decide +kernel
theorem dX2_putDigits_13 : decode cX2_putDigits 13 = .ok (.invokevirtual 116, 3) := by decide +kernel
theorem dX2_putDigits_16 : decode cX2_putDigits 16 = .ok (.invokevirtual 119, 3) := by decide +kernel
theorem dX2_putDigits_19 : decode cX2_putDigits 19 = .ok (.iinc 3 (-1), 3) := by decide +kernel
theorem dX2_putDigits_22 : decode cX2_putDigits 22 = .ok (.goto (-20), 3) := by decide +kernel
theorem dX2_putDigits_25 : decode cX2_putDigits 25 = .ok (.return_, 1) := by decide +kernel
set_option maxRecDepth 20000 in
theorem ggX2_putExponent_X0_put : GoodIn wsX2_putExponent wsX0_put := goodIn_r _ [10, 11, 12, 20, 21] (by decide +kernel) (by decide +kernel)
set_option maxRecDepth 20000 in
theorem gX2_putExponent_X0_put : GoodIn wsX2_putExponent (wsV RX2 80 RX0 yX0_put wsX0_put) := goodIn_app (goodIn_of _ (by decide +kernel)) ggX2_putExponent_X0_put
set_option maxRecDepth 20000 in
theorem ggX2_putExponent_X2_putDigit : GoodIn wsX2_putExponent wsX2_putDigit := goodIn_r _ [17, 5, 6, 7, 8, 9, 10, 11, 12, 18, 19, 20, 21] (by decide +kernel) (by decide +kernel)
set_option maxRecDepth 20000 in
theorem gX2_putExponent_X2_putDigit : GoodIn wsX2_putExponent (wsV RX2 119 RX2 yX2_putDigit wsX2_putDigit) := goodIn_app (goodIn_of _ (by decide +kernel)) ggX2_putExponent_X2_putDigit
theorem dX2_putExponent_0 : decode cX2_putExponent 0 = .ok (.iload_n 1, 1) := by decide +kernel
theorem dX2_putExponent_1 : decode cX2_putExponent 1 = .ok (.invokestatic 122, 3) := by decide +kernel
theorem dX2_putExponent_4 : decode cX2_putExponent 4 = .ok (.istore_n 3, 1) := by decide +kernel
theorem dX2_putExponent_5 : decode cX2_putExponent 5 = .ok (.aload_n 0, 1) := by decide +kernel
theorem dX2_putExponent_6 : decode cX2_putExponent 6 = .ok (.getfield 19, 3) := by decide +kernel
theorem dX2_putExponent_9 : decode cX2_putExponent 9 = .ok (.iload_n 2, 1) := by decide +kernel
theorem dX2_putExponent_10 : decode cX2_putExponent 10 = .ok (.invokevirtual 80, 3) := by decide +kernel
theorem dX2_putExponent_13 : decode cX2_putExponent 13 = .ok (.aload_n 0, 1) := by decide +kernel
theorem dX2_putExponent_14 : decode cX2_putExponent 14 = .ok (.getfield 19, 3) := by decide +kernel
theorem dX2_putExponent_17 : decode cX2_putExponent 17 = .ok (.iload_n 1, 1) := by decide +kernel
theorem dX2_putExponent_18 : decode cX2_putExponent 18 = .ok (.ifCond .ge 8, 3) := by decide +kernel
theorem dX2_putExponent_21 : decode cX2_putExponent 21 = .ok (.bipush 45, 2) := by decide +kernel
theorem dX2_putExponent_23 : decode cX2_putExponent 23 = .ok (.goto 5, 3) := by decide +kernel
theorem dX2_putExponent_26 : decode cX2_putExponent 26 = .ok (.bipush 43, 2) := by decide +kernel
theorem dX2_putExponent_28 : decode cX2_putExponent 28 = .ok (.invokevirtual 80, 3) := by decide +kernel
theorem dX2_putExponent_31 : decode cX2_putExponent 31 = .ok (.iload_n 3, 1) := by decide +kernel
theorem dX2_putExponent_32 : decode cX2_putExponent 32 = .ok (.bipush 100, 2) := by decide +kernel
theorem dX2_putExponent_34 : decode cX2_putExponent 34 = .ok (.if_icmp .lt 11, 3) := by decide +kernel
theorem dX2_putExponent_37 : decode cX2_putExponent 37 = .ok (.aload_n 0, 1) := by decide +kernel
theorem dX2_putExponent_38 : decode cX2_putExponent 38 = .ok (.iload_n 3, 1) := by decide +kernel
theorem dX2_putExponent_39 : decode cX2_putExponent 39 = .ok (.bipush 100, 2) := by decide +kernel
theorem dX2_putExponent_41 : decode cX2_putExponent 41 = .ok (.idiv, 1) := by decide +kernel
theorem dX2_putExponent_42 : decode cX2_putExponent 42 = .ok (.invokevirtual 119, 3) := by decide +kernel
theorem dX2_putExponent_45 : decode cX2_putExponent 45 = .ok (.aload_n 0, 1) := by decide +kernel
theorem dX2_putExponent_46 : decode cX2_putExponent 46 = .ok (.iload_n 3, 1) := by decide +kernel
theorem dX2_putExponent_47 : decode cX2_putExponent 47 = .ok (.bipush 10, 2) := by decide +kernel
theorem dX2_putExponent_49 : decode cX2_putExponent 49 = .ok (.idiv, 1) := by decide +kernel
theorem dX2_putExponent_50 : decode cX2_putExponent 50 = .ok (.bipush 10, 2) := by decide +kernel
theorem dX2_putExponent_52 : decode cX2_putExponent 52 = .ok (.irem, 1) := by decide +kernel
theorem dX2_putExponent_53 : decode cX2_putExponent 53 = .ok (.invokevirtual 119, 3) := by decide +kernel
theorem dX2_putExponent_56 : decode cX2_putExponent 56 = .ok (.aload_n 0, 1) := by decide +kernel
theorem dX2_putExponent_57 : decode cX2_putExponent 57 = .ok (.iload_n 3, 1) := by decide +kernel
theorem dX2_putExponent_58 : decode cX2_putExponent 58 = .ok (.bipush 10, 2) := by decide +kernel
theorem dX2_putExponent_60 : decode cX2_putExponent 60 = .ok (.irem, 1) := by decide +kernel
theorem dX2_putExponent_61 : decode cX2_putExponent 61 = .ok (.invokevirtual 119, 3) := by decide +kernel
theorem dX2_putExponent_64 : decode cX2_putExponent 64 = .ok (.return_, 1) := by decide +kernel
set_option maxRecDepth 20000 in
theorem ggX2_putDigit_X0_put : GoodIn wsX2_putDigit wsX0_put := goodIn_r _ [6, 7, 8, 11, 12] (by decide +kernel) (by decide +kernel)
set_option maxRecDepth 20000 in
theorem gX2_putDigit_X0_put : GoodIn wsX2_putDigit (wsV RX2 80 RX0 yX0_put wsX0_put) := goodIn_app (goodIn_of _ (by decide +kernel)) ggX2_putDigit_X0_put
theorem dX2_putDigit_0 : decode cX2_putDigit 0 = .ok (.aload_n 0, 1) := by decide +kernel
theorem dX2_putDigit_1 : decode cX2_putDigit 1 = .ok (.getfield 19, 3) := by decide +kernel
theorem dX2_putDigit_4 : decode cX2_putDigit 4 = .ok (.bipush 48, 2) := by decide +kernel
theorem dX2_putDigit_6 : decode cX2_putDigit 6 = .ok (.iload_n 1, 1) := by decide +kernel
theorem dX2_putDigit_7 : decode cX2_putDigit 7 = .ok (.iadd, 1) := by decide +kernel
theorem dX2_putDigit_8 : decode cX2_putDigit 8 = .ok (.i2c, 1) := by decide +kernel
theorem dX2_putDigit_9 : decode cX2_putDigit 9 = .ok (.invokevirtual 80, 3) := by decide +kernel
theorem dX2_putDigit_12 : decode cX2_putDigit 12 = .ok (.return_, 1) := by decide +kernel
set_option maxRecDepth 20000 in
theorem ggX2_pad_X2_has : GoodIn wsX2_pad wsX2_has := goodIn_r _ [5] (by decide +kernel) (by decide +kernel)
set_option maxRecDepth 20000 in
theorem gX2_pad_X2_has : GoodIn wsX2_pad (va_wsS RX2 49 yX2_has wsX2_has) := goodIn_app (goodIn_of _ (by decide +kernel)) ggX2_pad_X2_has
set_option maxRecDepth 20000 in
theorem ggX2_pad_X0_length : GoodIn wsX2_pad wsX0_length := goodIn_r _ [10, 11, 19, 20] (by decide +kernel) (by decide +kernel)
set_option maxRecDepth 20000 in
theorem gX2_pad_X0_length : GoodIn wsX2_pad (wsV RX2 38 RX0 yX0_length wsX0_length) := goodIn_app (goodIn_of _ (by decide +kernel)) ggX2_pad_X0_length
set_option maxRecDepth 20000 in
theorem ggX2_pad_X0_insert : GoodIn wsX2_pad wsX0_insert := goodIn_r _ [15, 16, 11, 19, 20] (by decide +kernel) (by decide +kernel)
set_option maxRecDepth 20000 in
theorem gX2_pad_X0_insert : GoodIn wsX2_pad (wsV RX2 125 RX0 yX0_insert wsX0_insert) := goodIn_app (goodIn_of _ (by decide +kernel)) ggX2_pad_X0_insert
theorem dX2_pad_0 : decode cX2_pad 0 = .ok (.iload 4, 2) := by decide +kernel
theorem dX2_pad_2 : decode cX2_pad 2 = .ok (.iconst 1, 1) := by decide +kernel
theorem dX2_pad_3 : decode cX2_pad 3 = .ok (.invokestatic 49, 3) := by decide +kernel
theorem dX2_pad_6 : decode cX2_pad 6 = .ok (.ifCond .eq 23, 3) := by decide +kernel
theorem dX2_pad_9 : decode cX2_pad 9 = .ok (.aload_n 0, 1) := by decide +kernel
theorem dX2_pad_10 : decode cX2_pad 10 = .ok (.getfield 19, 3) := by decide +kernel
theorem dX2_pad_13 : decode cX2_pad 13 = .ok (.aload_n 0, 1) := by decide +kernel
theorem dX2_pad_14 : decode cX2_pad 14 = .ok (.getfield 19, 3) := by decide +kernel
theorem dX2_pad_17 : decode cX2_pad 17 = .ok (.invokevirtual 38, 3) := by decide +kernel
theorem dX2_pad_20 : decode cX2_pad 20 = .ok (.iload_n 2, 1) := by decide +kernel
theorem dX2_pad_21 : decode cX2_pad 21 = .ok (.bipush 32, 2) := by decide +kernel
theorem dX2_pad_23 : decode cX2_pad 23 = .ok (.invokevirtual 125, 3) := by decide +kernel
theorem dX2_pad_26 : decode cX2_pad 26 = .ok (.goto 42, 3) := by decide +kernel
theorem dX2_pad_29 : decode cX2_pad 29 = .ok (.iload 4, 2) := by decide +kernel
theorem dX2_pad_31 : decode cX2_pad 31 = .ok (.bipush 8, 2) := by decide +kernel
theorem dX2_pad_33 : decode cX2_pad 33 = .ok (.invokestatic 49, 3) := by decide +kernel
theorem dX2_pad_36 : decode cX2_pad 36 = .ok (.ifCond .eq 21, 3) := by decide +kernel
theorem dX2_pad_39 : decode cX2_pad 39 = .ok (.iload_n 3, 1) := by decide +kernel
theorem dX2_pad_40 : decode cX2_pad 40 = .ok (.ifCond .eq 17, 3) := by decide +kernel
theorem dX2_pad_43 : decode cX2_pad 43 = .ok (.aload_n 0, 1) := by decide +kernel
theorem dX2_pad_44 : decode cX2_pad 44 = .ok (.getfield 19, 3) := by decide +kernel
theorem dX2_pad_47 : decode cX2_pad 47 = .ok (.iload_n 1, 1) := by decide +kernel
theorem dX2_pad_48 : decode cX2_pad 48 = .ok (.iload_n 2, 1) := by decide +kernel
theorem dX2_pad_49 : decode cX2_pad 49 = .ok (.bipush 48, 2) := by decide +kernel
theorem dX2_pad_51 : decode cX2_pad 51 = .ok (.invokevirtual 125, 3) := by decide +kernel
theorem dX2_pad_54 : decode cX2_pad 54 = .ok (.goto 14, 3) := by decide +kernel
theorem dX2_pad_57 : decode cX2_pad 57 = .ok (.aload_n 0, 1) := by decide +kernel
theorem dX2_pad_58 : decode cX2_pad 58 = .ok (.getfield 19, 3) := by decide +kernel
theorem dX2_pad_61 : decode cX2_pad 61 = .ok (.iconst 0, 1) := by decide +kernel
theorem dX2_pad_62 : decode cX2_pad 62 = .ok (.iload_n 2, 1) := by decide +kernel
theorem dX2_pad_63 : decode cX2_pad 63 = .ok (.bipush 32, 2) := by decide +kernel
theorem dX2_pad_65 : decode cX2_pad 65 = .ok (.invokevirtual 125, 3) := by decide +kernel
theorem dX2_pad_68 : decode cX2_pad 68 = .ok (.return_, 1) := by decide +kernel
end
section
theorem dX3_init_0 : decode cX3_init 0 = .ok (.aload_n 0, 1) := by decide +kernel
theorem dX3_init_1 : decode cX3_init 1 = .ok (.invokespecial 1, 3) := by decide +kernel
theorem dX3_init_4 : decode cX3_init 4 = .ok (.aload_n 0, 1) := by decide +kernel
theorem dX3_init_5 : decode cX3_init 5 = .ok (.sipush 1200, 3) := by decide +kernel
theorem dX3_init_8 : decode cX3_init 8 = .ok (.newarray .byte, 2) := by decide +kernel
theorem dX3_init_10 : decode cX3_init 10 = .ok (.putfield 7, 3) := by decide +kernel
theorem dX3_init_13 : decode cX3_init 13 = .ok (.aload_n 0, 1) := by decide +kernel
theorem dX3_init_14 : decode cX3_init 14 = .ok (.sipush 420, 3) := by decide +kernel
theorem dX3_init_17 : decode cX3_init 17 = .ok (.newarray .int, 2) := by decide +kernel
theorem dX3_init_19 : decode cX3_init 19 = .ok (.putfield 13, 3) := by decide +kernel
theorem dX3_init_22 : decode cX3_init 22 = .ok (.return_, 1) := by decide +kernel
theorem dX3_infinite_0 : decode cX3_infinite 0 = .ok (.lload_n 0, 1) := by decide +kernel
theorem dX3_infinite_1 : decode cX3_infinite 1 = .ok (.bipush 52, 2) := by decide +kernel
theorem dX3_infinite_3 : decode cX3_infinite 3 = .ok (.lshr, 1) := by decide +kernel
theorem dX3_infinite_4 : decode cX3_infinite 4 = .ok (.ldc2_w 17, 3) := by decide +kernel
theorem dX3_infinite_7 : decode cX3_infinite 7 = .ok (.land, 1) := by decide +kernel
theorem dX3_infinite_8 : decode cX3_infinite 8 = .ok (.ldc2_w 17, 3) := by decide +kernel
theorem dX3_infinite_11 : decode cX3_infinite 11 = .ok (.lcmp, 1) := by decide +kernel
theorem dX3_infinite_12 : decode cX3_infinite 12 = .ok (.ifCond .ne 17, 3) := by decide +kernel
theorem dX3_infinite_15 : decode cX3_infinite 15 = .ok (.lload_n 0, 1) := by decide +kernel
theorem dX3_infinite_16 : decode cX3_infinite 16 = .ok (.ldc2_w 19, 3) := by decide +kernel
theorem dX3_infinite_19 : decode cX3_infinite 19 = .ok (.land, 1) := by decide +kernel
theorem dX3_infinite_20 : decode cX3_infinite 20 = .ok (.lconst 0, 1) := by decide +kernel
theorem dX3_infinite_21 : decode cX3_infinite 21 = .ok (.lcmp, 1) := by decide +kernel
theorem dX3_infinite_22 : decode cX3_infinite 22 = .ok (.ifCond .ne 7, 3) := by decide +kernel
theorem dX3_infinite_25 : decode cX3_infinite 25 = .ok (.iconst 1, 1) := by decide +kernel
theorem dX3_infinite_26 : decode cX3_infinite 26 = .ok (.goto 4, 3) := by decide +kernel
theorem dX3_infinite_29 : decode cX3_infinite 29 = .ok (.iconst 0, 1) := by decide +kernel
theorem dX3_infinite_30 : decode cX3_infinite 30 = .ok (.ireturn, 1) := by decide +kernel
theorem dX3_none_0 : decode cX3_none 0 = .ok (.lload_n 0, 1) := by decide +kernel
theorem dX3_none_1 : decode cX3_none 1 = .ok (.bipush 52, 2) := by decide +kernel
theorem dX3_none_3 : decode cX3_none 3 = .ok (.lshr, 1) := by decide +kernel
theorem dX3_none_4 : decode cX3_none 4 = .ok (.ldc2_w 17, 3) := by decide +kernel
theorem dX3_none_7 : decode cX3_none 7 = .ok (.land, 1) := by decide +kernel
theorem dX3_none_8 : decode cX3_none 8 = .ok (.ldc2_w 17, 3) := by decide +kernel
theorem dX3_none_11 : decode cX3_none 11 = .ok (.lcmp, 1) := by decide +kernel
theorem dX3_none_12 : decode cX3_none 12 = .ok (.ifCond .ne 17, 3) := by decide +kernel
theorem dX3_none_15 : decode cX3_none 15 = .ok (.lload_n 0, 1) := by decide +kernel
theorem dX3_none_16 : decode cX3_none 16 = .ok (.ldc2_w 19, 3) := by decide +kernel
theorem dX3_none_19 : decode cX3_none 19 = .ok (.land, 1) := by decide +kernel
theorem dX3_none_20 : decode cX3_none 20 = .ok (.lconst 0, 1) := by decide +kernel
theorem dX3_none_21 : decode cX3_none 21 = .ok (.lcmp, 1) := by decide +kernel
theorem dX3_none_22 : decode cX3_none 22 = .ok (.ifCond .eq 7, 3) := by decide +kernel
theorem dX3_none_25 : decode cX3_none 25 = .ok (.iconst 1, 1) := by decide +kernel
theorem dX3_none_26 : decode cX3_none 26 = .ok (.goto 4, 3) := by decide +kernel
theorem dX3_none_29 : decode cX3_none 29 = .ok (.iconst 0, 1) := by decide +kernel
theorem dX3_none_30 : decode cX3_none 30 = .ok (.ireturn, 1) := by decide +kernel
set_option maxRecDepth 20000 in
theorem ggX3_spread_X3_trim : GoodIn wsX3_spread wsX3_trim := goodIn_r _ [13, 4, 6, 8, 22, 23, 24, 25, 26] (by decide +kernel) (by decide +kernel)
set_option maxRecDepth 20000 in
theorem gX3_spread_X3_trim : GoodIn wsX3_spread (wsV RX3 34 RX3 yX3_trim wsX3_trim) := goodIn_app (goodIn_of _ (by decide +kernel)) ggX3_spread_X3_trim
set_option maxRecDepth 20000 in
theorem ggX3_spread_X3_twice : GoodIn wsX3_spread wsX3_twice := goodIn_r _ [17, 4, 6, 8, 9, 10, 11, 12, 13, 22, 23, 24, 25, 26] (by decide +kernel) (by decide +kernel)
set_option maxRecDepth 20000 in
theorem gX3_spread_X3_twice : GoodIn wsX3_spread (wsV RX3 37 RX3 yX3_twice wsX3_twice) := goodIn_app (goodIn_of _ (by decide +kernel)) ggX3_spread_X3_twice
set_option maxRecDepth 20000 in
theorem ggX3_spread_X3_half : GoodIn wsX3_spread wsX3_half := goodIn_r _ [21, 4, 6, 9, 10, 11, 12, 13, 8, 22, 23, 24, 25, 26] (by decide +kernel) (by decide +kernel)
set_option maxRecDepth 20000 in
theorem gX3_spread_X3_half : GoodIn wsX3_spread (wsV RX3 40 RX3 yX3_half wsX3_half) := goodIn_app (goodIn_of _ (by decide +kernel)) ggX3_spread_X3_half
theorem dX3_spread_0 : decode cX3_spread 0 = .ok (.lload_n 1, 1) := by decide +kernel
theorem dX3_spread_1 : decode cX3_spread 1 = .ok (.bipush 52, 2) := by decide +kernel
theorem dX3_spread_3 : decode cX3_spread 3 = .ok (.lshr, 1) := by decide +kernel
theorem dX3_spread_4 : decode cX3_spread 4 = .ok (.ldc2_w 17, 3) := by decide +kernel
theorem dX3_spread_7 : decode cX3_spread 7 = .ok (.land, 1) := by decide +kernel
theorem dX3_spread_8 : decode cX3_spread 8 = .ok (.l2i, 1) := by decide +kernel
theorem dX3_spread_9 : decode cX3_spread 9 = .ok (.istore_n 3, 1) := by decide +kernel
theorem dX3_spread_10 : decode cX3_spread 10 = .ok (.lload_n 1, 1) := by decide +kernel
theorem dX3_spread_11 : decode cX3_spread 11 = .ok (.ldc2_w 19, 3) := by decide +kernel
theorem dX3_spread_14 : decode cX3_spread 14 = .ok (.land, 1) := by decide +kernel
theorem dX3_spread_15 : decode cX3_spread 15 = .ok (.lstore 4, 2) := by decide +kernel
theorem dX3_spread_17 : decode cX3_spread 17 = .ok (.iload_n 3, 1) := by decide +kernel
theorem dX3_spread_18 : decode cX3_spread 18 = .ok (.ifCond .le 11, 3) := by decide +kernel
theorem dX3_spread_21 : decode cX3_spread 21 = .ok (.lload 4, 2) := by decide +kernel
theorem dX3_spread_23 : decode cX3_spread 23 = .ok (.ldc2_w 21, 3) := by decide +kernel
theorem dX3_spread_26 : decode cX3_spread 26 = .ok (.ladd, 1) := by decide +kernel
theorem dX3_spread_27 : decode cX3_spread 27 = .ok (.lstore 4, 2) := by decide +kernel
theorem dX3_spread_29 : decode cX3_spread 29 = .ok (.aload_n 0, 1) := by decide +kernel
theorem dX3_spread_30 : decode cX3_spread 30 = .ok (.iconst 0, 1) := by decide +kernel
theorem dX3_spread_31 : decode cX3_spread 31 = .ok (.putfield 23, 3) := by decide +kernel
theorem dX3_spread_34 : decode cX3_spread 34 = .ok (.ldc2_w 27, 3) := by decide +kernel
theorem dX3_spread_37 : decode cX3_spread 37 = .ok (.lstore 6, 2) := by decide +kernel
theorem dX3_spread_39 : decode cX3_spread 39 = .ok (.lload 6, 2) := by decide +kernel
theorem dX3_spread_41 : decode cX3_spread 41 = .ok (.lconst 0, 1) := by decide +kernel
theorem dX3_spread_42 : decode cX3_spread 42 = .ok (.lcmp, 1) := by decide +kernel
theorem dX3_spread_43 : decode cX3_spread 43 = .ok (.ifCond .le 44, 3) := by decide +kernel
theorem dX3_spread_46 : decode cX3_spread 46 = .ok (.aload_n 0, 1) := by decide +kernel
theorem dX3_spread_47 : decode cX3_spread 47 = .ok (.getfield 7, 3) := by decide +kernel
theorem dX3_spread_50 : decode cX3_spread 50 = .ok (.aload_n 0, 1) := by decide +kernel
theorem dX3_spread_51 : decode cX3_spread 51 = .ok (.getfield 23, 3) := by decide +kernel
theorem dX3_spread_54 : decode cX3_spread 54 = .ok (.lload 4, 2) := by decide +kernel
theorem dX3_spread_56 : decode cX3_spread 56 = .ok (.lload 6, 2) := by decide +kernel
theorem dX3_spread_58 : decode cX3_spread 58 = .ok (.ldiv, 1) := by decide +kernel
theorem dX3_spread_59 : decode cX3_spread 59 = .ok (.ldc2_w 29, 3) := by decide +kernel
theorem dX3_spread_62 : decode cX3_spread 62 = .ok (.lrem, 1) := by decide +kernel
theorem dX3_spread_63 : decode cX3_spread 63 = .ok (.l2i, 1) := by decide +kernel
theorem dX3_spread_64 : decode cX3_spread 64 = .ok (.i2b, 1) := by decide +kernel
theorem dX3_spread_65 : decode cX3_spread 65 = .ok (.bastore, 1) := by decide +kernel
theorem dX3_spread_66 : decode cX3_spread 66 = .ok (.aload_n 0, 1) := by decide +kernel
theorem dX3_spread_67 : decode cX3_spread 67 = .ok (.aload_n 0, 1) := by decide +kernel
theorem dX3_spread_68 : decode cX3_spread 68 = .ok (.getfield 23, 3) := by decide +kernel
theorem dX3_spread_71 : decode cX3_spread 71 = .ok (.iconst 1, 1) := by decide +kernel
theorem dX3_spread_72 : decode cX3_spread 72 = .ok (.iadd, 1) := by decide +kernel
theorem dX3_spread_73 : decode cX3_spread 73 = .ok (.putfield 23, 3) := by decide +kernel
theorem dX3_spread_76 : decode cX3_spread 76 = .ok (.lload 6, 2) := by decide +kernel
theorem dX3_spread_78 : decode cX3_spread 78 = .ok (.ldc2_w 29, 3) := by decide +kernel
theorem dX3_spread_81 : decode cX3_spread 81 = .ok (.ldiv, 1) := by decide +kernel
theorem dX3_spread_82 : decode cX3_spread 82 = .ok (.lstore 6, 2) := by decide +kernel
theorem dX3_spread_84 : decode cX3_spread 84 = .ok (.goto (-45), 3) := by decide +kernel
theorem dX3_spread_87 : decode cX3_spread 87 = .ok (.aload_n 0, 1) := by decide +kernel
theorem dX3_spread_88 : decode cX3_spread 88 = .ok (.aload_n 0, 1) := by decide +kernel
theorem dX3_spread_89 : decode cX3_spread 89 = .ok (.getfield 23, 3) := by decide +kernel
theorem dX3_spread_92 : decode cX3_spread 92 = .ok (.putfield 31, 3) := by decide +kernel
theorem dX3_spread_95 : decode cX3_spread 95 = .ok (.aload_n 0, 1) := by decide +kernel
theorem dX3_spread_96 : decode cX3_spread 96 = .ok (.invokevirtual 34, 3) := by decide +kernel
theorem dX3_spread_99 : decode cX3_spread 99 = .ok (.iload_n 3, 1) := by decide +kernel
theorem dX3_spread_100 : decode cX3_spread 100 = .ok (.ifCond .ne 9, 3) := by decide +kernel
theorem dX3_spread_103 : decode cX3_spread 103 = .ok (.sipush (-1074), 3) := by decide +kernel
theorem dX3_spread_106 : decode cX3_spread 106 = .ok (.goto 8, 3) := by decide +kernel
theorem dX3_spread_109 : decode cX3_spread 109 = .ok (.iload_n 3, 1) := by decide +kernel
theorem dX3_spread_110 : decode cX3_spread 110 = .ok (.sipush 1075, 3) := by decide +kernel
theorem dX3_spread_113 : decode cX3_spread 113 = .ok (.isub, 1) := by decide +kernel
theorem dX3_spread_114 : decode cX3_spread 114 = .ok (.istore 6, 2) := by decide +kernel
theorem dX3_spread_116 : decode cX3_spread 116 = .ok (.iconst 0, 1) := by decide +kernel
theorem dX3_spread_117 : decode cX3_spread 117 = .ok (.istore 7, 2) := by decide +kernel
theorem dX3_spread_119 : decode cX3_spread 119 = .ok (.iload 7, 2) := by decide +kernel
theorem dX3_spread_121 : decode cX3_spread 121 = .ok (.iload 6, 2) := by decide +kernel
theorem dX3_spread_123 : decode cX3_spread 123 = .ok (.if_icmp .ge 13, 3) := by decide +kernel
theorem dX3_spread_126 : decode cX3_spread 126 = .ok (.aload_n 0, 1) := by decide +kernel
theorem dX3_spread_127 : decode cX3_spread 127 = .ok (.invokevirtual 37, 3) := by decide +kernel
theorem dX3_spread_130 : decode cX3_spread 130 = .ok (.iinc 7 1, 3) := by decide +kernel
theorem dX3_spread_133 : decode cX3_spread 133 = .ok (.goto (-14), 3) := by decide +kernel
theorem dX3_spread_136 : decode cX3_spread 136 = .ok (.iconst 0, 1) := by decide +kernel
theorem dX3_spread_137 : decode cX3_spread 137 = .ok (.istore 7, 2) := by decide +kernel
theorem dX3_spread_139 : decode cX3_spread 139 = .ok (.iload 7, 2) := by decide +kernel
theorem dX3_spread_141 : decode cX3_spread 141 = .ok (.iload 6, 2) := by decide +kernel
theorem dX3_spread_143 : decode cX3_spread 143 = .ok (.if_icmp .le 13, 3) := by decide +kernel
theorem dX3_spread_146 : decode cX3_spread 146 = .ok (.aload_n 0, 1) := by decide +kernel
theorem dX3_spread_147 : decode cX3_spread 147 = .ok (.invokevirtual 40, 3) := by decide +kernel
theorem dX3_spread_150 : decode cX3_spread 150 = .ok (.iinc 7 (-1), 3) := by decide +kernel
theorem dX3_spread_153 : decode cX3_spread 153 = .ok (.goto (-14), 3) := by decide +kernel
theorem dX3_spread_156 : decode cX3_spread 156 = .ok (.return_, 1) := by decide +kernel
theorem dX3_trim_0 : decode cX3_trim 0 = .ok (.iconst 0, 1) := by decide +kernel
theorem dX3_trim_1 : decode cX3_trim 1 = .ok (.istore_n 1, 1) := by decide +kernel
theorem dX3_trim_2 : decode cX3_trim 2 = .ok (.iload_n 1, 1) := by decide +kernel
theorem dX3_trim_3 : decode cX3_trim 3 = .ok (.aload_n 0, 1) := by decide +kernel
theorem dX3_trim_4 : decode cX3_trim 4 = .ok (.getfield 23, 3) := by decide +kernel
theorem dX3_trim_7 : decode cX3_trim 7 = .ok (.if_icmp .ge 19, 3) := by decide +kernel
theorem dX3_trim_10 : decode cX3_trim 10 = .ok (.aload_n 0, 1) := by decide +kernel
theorem dX3_trim_11 : decode cX3_trim 11 = .ok (.getfield 7, 3) := by decide +kernel
theorem dX3_trim_14 : decode cX3_trim 14 = .ok (.iload_n 1, 1) := by decide +kernel
theorem dX3_trim_15 : decode cX3_trim 15 = .ok (.baload, 1) := by decide +kernel
theorem dX3_trim_16 : decode cX3_trim 16 = .ok (.ifCond .ne 10, 3) := by decide +kernel
theorem dX3_trim_19 : decode cX3_trim 19 = .ok (.iload_n 1, 1) := by decide +kernel
theorem dX3_trim_20 : decode cX3_trim 20 = .ok (.iconst 1, 1) := by decide +kernel
theorem dX3_trim_21 : decode cX3_trim 21 = .ok (.iadd, 1) := by decide +kernel
theorem dX3_trim_22 : decode cX3_trim 22 = .ok (.istore_n 1, 1) := by decide +kernel
theorem dX3_trim_23 : decode cX3_trim 23 = .ok (.goto (-21), 3) := by decide +kernel
theorem dX3_trim_26 : decode cX3_trim 26 = .ok (.iload_n 1, 1) := by decide +kernel
theorem dX3_trim_27 : decode cX3_trim 27 = .ok (.istore_n 2, 1) := by decide +kernel
theorem dX3_trim_28 : decode cX3_trim 28 = .ok (.iload_n 2, 1) := by decide +kernel
theorem dX3_trim_29 : decode cX3_trim 29 = .ok (.aload_n 0, 1) := by decide +kernel
theorem dX3_trim_30 : decode cX3_trim 30 = .ok (.getfield 23, 3) := by decide +kernel
theorem dX3_trim_33 : decode cX3_trim 33 = .ok (.if_icmp .ge 23, 3) := by decide +kernel
theorem dX3_trim_36 : decode cX3_trim 36 = .ok (.aload_n 0, 1) := by decide +kernel
theorem dX3_trim_37 : decode cX3_trim 37 = .ok (.getfield 7, 3) := by decide +kernel
theorem dX3_trim_40 : decode cX3_trim 40 = .ok (.iload_n 2, 1) := by decide +kernel
theorem dX3_trim_41 : decode cX3_trim 41 = .ok (.iload_n 1, 1) := by decide +kernel
theorem dX3_trim_42 : decode cX3_trim 42 = .ok (.isub, 1) := by decide +kernel
theorem dX3_trim_43 : decode cX3_trim 43 = .ok (.aload_n 0, 1) := by decide +kernel
theorem dX3_trim_44 : decode cX3_trim 44 = .ok (.getfield 7, 3) := by decide +kernel
theorem dX3_trim_47 : decode cX3_trim 47 = .ok (.iload_n 2, 1) := by decide +kernel
theorem dX3_trim_48 : decode cX3_trim 48 = .ok (.baload, 1) := by decide +kernel
theorem dX3_trim_49 : decode cX3_trim 49 = .ok (.bastore, 1) := by decide +kernel
theorem dX3_trim_50 : decode cX3_trim 50 = .ok (.iinc 2 1, 3) := by decide +kernel
theorem dX3_trim_53 : decode cX3_trim 53 = .ok (.goto (-25), 3) := by decide +kernel
theorem dX3_trim_56 : decode cX3_trim 56 = .ok (.aload_n 0, 1) := by decide +kernel
theorem dX3_trim_57 : decode cX3_trim 57 = .ok (.aload_n 0, 1) := by decide +kernel
theorem dX3_trim_58 : decode cX3_trim 58 = .ok (.getfield 23, 3) := by decide +kernel
theorem dX3_trim_61 : decode cX3_trim 61 = .ok (.iload_n 1, 1) := by decide +kernel
theorem dX3_trim_62 : decode cX3_trim 62 = .ok (.isub, 1) := by decide +kernel
theorem dX3_trim_63 : decode cX3_trim 63 = .ok (.putfield 23, 3) := by decide +kernel
theorem dX3_trim_66 : decode cX3_trim 66 = .ok (.aload_n 0, 1) := by decide +kernel
theorem dX3_trim_67 : decode cX3_trim 67 = .ok (.aload_n 0, 1) := by decide +kernel
theorem dX3_trim_68 : decode cX3_trim 68 = .ok (.getfield 31, 3) := by decide +kernel
theorem dX3_trim_71 : decode cX3_trim 71 = .ok (.iload_n 1, 1) := by decide +kernel
theorem dX3_trim_72 : decode cX3_trim 72 = .ok (.isub, 1) := by decide +kernel
theorem dX3_trim_73 : decode cX3_trim 73 = .ok (.putfield 31, 3) := by decide +kernel
theorem dX3_trim_76 : decode cX3_trim 76 = .ok (.aload_n 0, 1) := by decide +kernel
theorem dX3_trim_77 : decode cX3_trim 77 = .ok (.getfield 23, 3) := by decide +kernel
theorem dX3_trim_80 : decode cX3_trim 80 = .ok (.ifCond .le 30, 3) := by decide +kernel
theorem dX3_trim_83 : decode cX3_trim 83 = .ok (.aload_n 0, 1) := by decide +kernel
theorem dX3_trim_84 : decode cX3_trim 84 = .ok (.getfield 7, 3) := by decide +kernel
theorem dX3_trim_87 : decode cX3_trim 87 = .ok (.aload_n 0, 1) := by decide +kernel
theorem dX3_trim_88 : decode cX3_trim 88 = .ok (.getfield 23, 3) := by decide +kernel
theorem dX3_trim_91 : decode cX3_trim 91 = .ok (.iconst 1, 1) := by decide +kernel
theorem dX3_trim_92 : decode cX3_trim 92 = .ok (.isub, 1) := by decide +kernel
theorem dX3_trim_93 : decode cX3_trim 93 = .ok (.baload, 1) := by decide +kernel
theorem dX3_trim_94 : decode cX3_trim 94 = .ok (.ifCond .ne 16, 3) := by decide +kernel
theorem dX3_trim_97 : decode cX3_trim 97 = .ok (.aload_n 0, 1) := by decide +kernel
theorem dX3_trim_98 : decode cX3_trim 98 = .ok (.aload_n 0, 1) := by decide +kernel
theorem dX3_trim_99 : decode cX3_trim 99 = .ok (.getfield 23, 3) := by decide +kernel
theorem dX3_trim_102 : decode cX3_trim 102 = .ok (.iconst 1, 1) := by decide +kernel
theorem dX3_trim_103 : decode cX3_trim 103 = .ok (.isub, 1) := by decide +kernel
theorem dX3_trim_104 : decode cX3_trim 104 = .ok (.putfield 23, 3) := by decide +kernel
theorem dX3_trim_107 : decode cX3_trim 107 = .ok (.goto (-31), 3) := by decide +kernel
theorem dX3_trim_110 : decode cX3_trim 110 = .ok (.aload_n 0, 1) := by decide +kernel
theorem dX3_trim_111 : decode cX3_trim 111 = .ok (.getfield 23, 3) := by decide +kernel
theorem dX3_trim_114 : decode cX3_trim 114 = .ok (.ifCond .ne 8, 3) := by decide +kernel
theorem dX3_trim_117 : decode cX3_trim 117 = .ok (.aload_n 0, 1) := by decide +kernel
theorem dX3_trim_118 : decode cX3_trim 118 = .ok (.iconst 0, 1) := by decide +kernel
theorem dX3_trim_119 : decode cX3_trim 119 = .ok (.putfield 31, 3) := by decide +kernel
theorem dX3_trim_122 : decode cX3_trim 122 = .ok (.return_, 1) := by decide +kernel
set_option maxRecDepth 20000 in
theorem ggX3_twice_X3_trim : GoodIn wsX3_twice wsX3_trim := goodIn_r _ [8, 1, 2, 3, 9, 10, 11, 12, 13] (by decide +kernel) (by decide +kernel)
set_option maxRecDepth 20000 in
theorem gX3_twice_X3_trim : GoodIn wsX3_twice (wsV RX3 34 RX3 yX3_trim wsX3_trim) := goodIn_app (goodIn_of _ (by decide +kernel)) ggX3_twice_X3_trim
theorem dX3_twice_0 : decode cX3_twice 0 = .ok (.iconst 0, 1) := by decide +kernel
theorem dX3_twice_1 : decode cX3_twice 1 = .ok (.istore_n 1, 1) := by decide +kernel
theorem dX3_twice_2 : decode cX3_twice 2 = .ok (.aload_n 0, 1) := by decide +kernel
theorem dX3_twice_3 : decode cX3_twice 3 = .ok (.getfield 23, 3) := by decide +kernel
theorem dX3_twice_6 : decode cX3_twice 6 = .ok (.iconst 1, 1) := by decide +kernel
theorem dX3_twice_7 : decode cX3_twice 7 = .ok (.isub, 1) := by decide +kernel
theorem dX3_twice_8 : decode cX3_twice 8 = .ok (.istore_n 2, 1) := by decide +kernel
theorem dX3_twice_9 : decode cX3_twice 9 = .ok (.iload_n 2, 1) := by decide +kernel
theorem dX3_twice_10 : decode cX3_twice 10 = .ok (.ifCond .lt 36, 3) := by decide +kernel
theorem dX3_twice_13 : decode cX3_twice 13 = .ok (.iconst 2, 1) := by decide +kernel
theorem dX3_twice_14 : decode cX3_twice 14 = .ok (.aload_n 0, 1) := by decide +kernel
theorem dX3_twice_15 : decode cX3_twice 15 = .ok (.getfield 7, 3) := by decide +kernel
theorem dX3_twice_18 : decode cX3_twice 18 = .ok (.iload_n 2, 1) := by decide +kernel
theorem dX3_twice_19 : decode cX3_twice 19 = .ok (.baload, 1) := by decide +kernel
theorem dX3_twice_20 : decode cX3_twice 20 = .ok (.imul, 1) := by decide +kernel
theorem dX3_twice_21 : decode cX3_twice 21 = .ok (.iload_n 1, 1) := by decide +kernel
theorem dX3_twice_22 : decode cX3_twice 22 = .ok (.iadd, 1) := by decide +kernel
theorem dX3_twice_23 : decode cX3_twice 23 = .ok (.istore_n 3, 1) := by decide +kernel
theorem dX3_twice_24 : decode cX3_twice 24 = .ok (.aload_n 0, 1) := by decide +kernel
theorem dX3_twice_25 : decode cX3_twice 25 = .ok (.getfield 7, 3) := by decide +kernel
theorem dX3_twice_28 : decode cX3_twice 28 = .ok (.iload_n 2, 1) := by decide +kernel
theorem dX3_twice_29 : decode cX3_twice 29 = .ok (.iload_n 3, 1) := by decide +kernel
theorem dX3_twice_30 : decode cX3_twice 30 = .ok (.bipush 10, 2) := by decide +kernel
theorem dX3_twice_32 : decode cX3_twice 32 = .ok (.irem, 1) := by decide +kernel
theorem dX3_twice_33 : decode cX3_twice 33 = .ok (.i2b, 1) := by decide +kernel
theorem dX3_twice_34 : decode cX3_twice 34 = .ok (.bastore, 1) := by decide +kernel
theorem dX3_twice_35 : decode cX3_twice 35 = .ok (.iload_n 3, 1) := by decide +kernel
theorem dX3_twice_36 : decode cX3_twice 36 = .ok (.bipush 10, 2) := by decide +kernel
theorem dX3_twice_38 : decode cX3_twice 38 = .ok (.idiv, 1) := by decide +kernel
theorem dX3_twice_39 : decode cX3_twice 39 = .ok (.istore_n 1, 1) := by decide +kernel
theorem dX3_twice_40 : decode cX3_twice 40 = .ok (.iinc 2 (-1), 3) := by decide +kernel
theorem dX3_twice_43 : decode cX3_twice 43 = .ok (.goto (-34), 3) := by decide +kernel
theorem dX3_twice_46 : decode cX3_twice 46 = .ok (.iload_n 1, 1) := by decide +kernel
theorem dX3_twice_47 : decode cX3_twice 47 = .ok (.ifCond .le 60, 3) := by decide +kernel
theorem dX3_twice_50 : decode cX3_twice 50 = .ok (.aload_n 0, 1) := by decide +kernel
theorem dX3_twice_51 : decode cX3_twice 51 = .ok (.getfield 23, 3) := by decide +kernel
theorem dX3_twice_54 : decode cX3_twice 54 = .ok (.istore_n 2, 1) := by decide +kernel
theorem dX3_twice_55 : decode cX3_twice 55 = .ok (.iload_n 2, 1) := by decide +kernel
theorem dX3_twice_56 : decode cX3_twice 56 = .ok (.ifCond .le 23, 3) := by decide +kernel
theorem dX3_twice_59 : decode cX3_twice 59 = .ok (.aload_n 0, 1) := by decide +kernel
theorem dX3_twice_60 : decode cX3_twice 60 = .ok (.getfield 7, 3) := by decide +kernel
theorem dX3_twice_63 : decode cX3_twice 63 = .ok (.iload_n 2, 1) := by decide +kernel
theorem dX3_twice_64 : decode cX3_twice 64 = .ok (.aload_n 0, 1) := by decide +kernel
theorem dX3_twice_65 : decode cX3_twice 65 = .ok (.getfield 7, 3) := by decide +kernel
theorem dX3_twice_68 : decode cX3_twice 68 = .ok (.iload_n 2, 1) := by decide +kernel
theorem dX3_twice_69 : decode cX3_twice 69 = .ok (.iconst 1, 1) := by decide +kernel
theorem dX3_twice_70 : decode cX3_twice 70 = .ok (.isub, 1) := by decide +kernel
theorem dX3_twice_71 : decode cX3_twice 71 = .ok (.baload, 1) := by decide +kernel
theorem dX3_twice_72 : decode cX3_twice 72 = .ok (.bastore, 1) := by decide +kernel
theorem dX3_twice_73 : decode cX3_twice 73 = .ok (.iinc 2 (-1), 3) := by decide +kernel
theorem dX3_twice_76 : decode cX3_twice 76 = .ok (.goto (-21), 3) := by decide +kernel
theorem dX3_twice_79 : decode cX3_twice 79 = .ok (.aload_n 0, 1) := by decide +kernel
theorem dX3_twice_80 : decode cX3_twice 80 = .ok (.getfield 7, 3) := by decide +kernel
theorem dX3_twice_83 : decode cX3_twice 83 = .ok (.iconst 0, 1) := by decide +kernel
theorem dX3_twice_84 : decode cX3_twice 84 = .ok (.iload_n 1, 1) := by decide +kernel
theorem dX3_twice_85 : decode cX3_twice 85 = .ok (.i2b, 1) := by decide +kernel
theorem dX3_twice_86 : decode cX3_twice 86 = .ok (.bastore, 1) := by decide +kernel
theorem dX3_twice_87 : decode cX3_twice 87 = .ok (.aload_n 0, 1) := by decide +kernel
theorem dX3_twice_88 : decode cX3_twice 88 = .ok (.aload_n 0, 1) := by decide +kernel
theorem dX3_twice_89 : decode cX3_twice 89 = .ok (.getfield 23, 3) := by decide +kernel
theorem dX3_twice_92 : decode cX3_twice 92 = .ok (.iconst 1, 1) := by decide +kernel
theorem dX3_twice_93 : decode cX3_twice 93 = .ok (.iadd, 1) := by decide +kernel
theorem dX3_twice_94 : decode cX3_twice 94 = .ok (.putfield 23, 3) := by decide +kernel
theorem dX3_twice_97 : decode cX3_twice 97 = .ok (.aload_n 0, 1) := by decide +kernel
theorem dX3_twice_98 : decode cX3_twice 98 = .ok (.aload_n 0, 1) := by decide +kernel
theorem dX3_twice_99 : decode cX3_twice 99 = .ok (.getfield 31, 3) := by decide +kernel
theorem dX3_twice_102 : decode cX3_twice 102 = .ok (.iconst 1, 1) := by decide +kernel
theorem dX3_twice_103 : decode cX3_twice 103 = .ok (.iadd, 1) := by decide +kernel
theorem dX3_twice_104 : decode cX3_twice 104 = .ok (.putfield 31, 3) := by decide +kernel
theorem dX3_twice_107 : decode cX3_twice 107 = .ok (.aload_n 0, 1) := by decide +kernel
theorem dX3_twice_108 : decode cX3_twice 108 = .ok (.invokevirtual 34, 3) := by decide +kernel
theorem dX3_twice_111 : decode cX3_twice 111 = .ok (.return_, 1) := by decide +kernel
set_option maxRecDepth 20000 in
theorem ggX3_half_X3_trim : GoodIn wsX3_half wsX3_trim := goodIn_r _ [7, 1, 2, 8, 9, 10, 11, 12, 13] (by decide +kernel) (by decide +kernel)
set_option maxRecDepth 20000 in
theorem gX3_half_X3_trim : GoodIn wsX3_half (wsV RX3 34 RX3 yX3_trim wsX3_trim) := goodIn_app (goodIn_of _ (by decide +kernel)) ggX3_half_X3_trim
theorem dX3_half_0 : decode cX3_half 0 = .ok (.iconst 0, 1) := by decide +kernel
theorem dX3_half_1 : decode cX3_half 1 = .ok (.istore_n 1, 1) := by decide +kernel
theorem dX3_half_2 : decode cX3_half 2 = .ok (.iconst 0, 1) := by decide +kernel
theorem dX3_half_3 : decode cX3_half 3 = .ok (.istore_n 2, 1) := by decide +kernel
theorem dX3_half_4 : decode cX3_half 4 = .ok (.iload_n 2, 1) := by decide +kernel
theorem dX3_half_5 : decode cX3_half 5 = .ok (.aload_n 0, 1) := by decide +kernel
theorem dX3_half_6 : decode cX3_half 6 = .ok (.getfield 23, 3) := by decide +kernel
theorem dX3_half_9 : decode cX3_half 9 = .ok (.if_icmp .ge 35, 3) := by decide +kernel
theorem dX3_half_12 : decode cX3_half 12 = .ok (.bipush 10, 2) := by decide +kernel
theorem dX3_half_14 : decode cX3_half 14 = .ok (.iload_n 1, 1) := by decide +kernel
theorem dX3_half_15 : decode cX3_half 15 = .ok (.imul, 1) := by decide +kernel
theorem dX3_half_16 : decode cX3_half 16 = .ok (.aload_n 0, 1) := by decide +kernel
theorem dX3_half_17 : decode cX3_half 17 = .ok (.getfield 7, 3) := by decide +kernel
theorem dX3_half_20 : decode cX3_half 20 = .ok (.iload_n 2, 1) := by decide +kernel
theorem dX3_half_21 : decode cX3_half 21 = .ok (.baload, 1) := by decide +kernel
theorem dX3_half_22 : decode cX3_half 22 = .ok (.iadd, 1) := by decide +kernel
theorem dX3_half_23 : decode cX3_half 23 = .ok (.istore_n 3, 1) := by decide +kernel
theorem dX3_half_24 : decode cX3_half 24 = .ok (.aload_n 0, 1) := by decide +kernel
theorem dX3_half_25 : decode cX3_half 25 = .ok (.getfield 7, 3) := by decide +kernel
theorem dX3_half_28 : decode cX3_half 28 = .ok (.iload_n 2, 1) := by decide +kernel
theorem dX3_half_29 : decode cX3_half 29 = .ok (.iload_n 3, 1) := by decide +kernel
theorem dX3_half_30 : decode cX3_half 30 = .ok (.iconst 2, 1) := by decide +kernel
theorem dX3_half_31 : decode cX3_half 31 = .ok (.idiv, 1) := by decide +kernel
theorem dX3_half_32 : decode cX3_half 32 = .ok (.i2b, 1) := by decide +kernel
theorem dX3_half_33 : decode cX3_half 33 = .ok (.bastore, 1) := by decide +kernel
theorem dX3_half_34 : decode cX3_half 34 = .ok (.iload_n 3, 1) := by decide +kernel
theorem dX3_half_35 : decode cX3_half 35 = .ok (.iconst 2, 1) := by decide +kernel
theorem dX3_half_36 : decode cX3_half 36 = .ok (.irem, 1) := by decide +kernel
theorem dX3_half_37 : decode cX3_half 37 = .ok (.istore_n 1, 1) := by decide +kernel
theorem dX3_half_38 : decode cX3_half 38 = .ok (.iinc 2 1, 3) := by decide +kernel
theorem dX3_half_41 : decode cX3_half 41 = .ok (.goto (-37), 3) := by decide +kernel
theorem dX3_half_44 : decode cX3_half 44 = .ok (.iload_n 1, 1) := by decide +kernel
theorem dX3_half_45 : decode cX3_half 45 = .ok (.ifCond .le 23, 3) := by decide +kernel
theorem dX3_half_48 : decode cX3_half 48 = .ok (.aload_n 0, 1) := by decide +kernel
theorem dX3_half_49 : decode cX3_half 49 = .ok (.getfield 7, 3) := by decide +kernel
theorem dX3_half_52 : decode cX3_half 52 = .ok (.aload_n 0, 1) := by decide +kernel
theorem dX3_half_53 : decode cX3_half 53 = .ok (.getfield 23, 3) := by decide +kernel
theorem dX3_half_56 : decode cX3_half 56 = .ok (.iconst 5, 1) := by decide +kernel
theorem dX3_half_57 : decode cX3_half 57 = .ok (.bastore, 1) := by decide +kernel
theorem dX3_half_58 : decode cX3_half 58 = .ok (.aload_n 0, 1) := by decide +kernel
theorem dX3_half_59 : decode cX3_half 59 = .ok (.aload_n 0, 1) := by decide +kernel
theorem dX3_half_60 : decode cX3_half 60 = .ok (.getfield 23, 3) := by decide +kernel
theorem dX3_half_63 : decode cX3_half 63 = .ok (.iconst 1, 1) := by decide +kernel
theorem dX3_half_64 : decode cX3_half 64 = .ok (.iadd, 1) := by decide +kernel
theorem dX3_half_65 : decode cX3_half 65 = .ok (.putfield 23, 3) := by decide +kernel
theorem dX3_half_68 : decode cX3_half 68 = .ok (.aload_n 0, 1) := by decide +kernel
theorem dX3_half_69 : decode cX3_half 69 = .ok (.invokevirtual 34, 3) := by decide +kernel
theorem dX3_half_72 : decode cX3_half 72 = .ok (.return_, 1) := by decide +kernel
set_option maxRecDepth 20000 in
theorem ggX3_cut_X3_trim : GoodIn wsX3_cut wsX3_trim := goodIn_r _ [8, 1, 3, 2, 9, 10, 11, 12, 13] (by decide +kernel) (by decide +kernel)
set_option maxRecDepth 20000 in
theorem gX3_cut_X3_trim : GoodIn wsX3_cut (wsV RX3 34 RX3 yX3_trim wsX3_trim) := goodIn_app (goodIn_of _ (by decide +kernel)) ggX3_cut_X3_trim
theorem dX3_cut_0 : decode cX3_cut 0 = .ok (.iload_n 1, 1) := by decide +kernel
theorem dX3_cut_1 : decode cX3_cut 1 = .ok (.aload_n 0, 1) := by decide +kernel
theorem dX3_cut_2 : decode cX3_cut 2 = .ok (.getfield 23, 3) := by decide +kernel
theorem dX3_cut_5 : decode cX3_cut 5 = .ok (.if_icmp .lt 4, 3) := by decide +kernel
theorem dX3_cut_8 : decode cX3_cut 8 = .ok (.return_, 1) := by decide +kernel
theorem dX3_cut_9 : decode cX3_cut 9 = .ok (.iload_n 1, 1) := by decide +kernel
theorem dX3_cut_10 : decode cX3_cut 10 = .ok (.ifCond .ge 14, 3) := by decide +kernel
theorem dX3_cut_13 : decode cX3_cut 13 = .ok (.aload_n 0, 1) := by decide +kernel
theorem dX3_cut_14 : decode cX3_cut 14 = .ok (.iconst 0, 1) := by decide +kernel
theorem dX3_cut_15 : decode cX3_cut 15 = .ok (.putfield 23, 3) := by decide +kernel
theorem dX3_cut_18 : decode cX3_cut 18 = .ok (.aload_n 0, 1) := by decide +kernel
theorem dX3_cut_19 : decode cX3_cut 19 = .ok (.iconst 0, 1) := by decide +kernel
theorem dX3_cut_20 : decode cX3_cut 20 = .ok (.putfield 31, 3) := by decide +kernel
theorem dX3_cut_23 : decode cX3_cut 23 = .ok (.return_, 1) := by decide +kernel
theorem dX3_cut_24 : decode cX3_cut 24 = .ok (.aload_n 0, 1) := by decide +kernel
theorem dX3_cut_25 : decode cX3_cut 25 = .ok (.getfield 7, 3) := by decide +kernel
theorem dX3_cut_28 : decode cX3_cut 28 = .ok (.iload_n 1, 1) := by decide +kernel
theorem dX3_cut_29 : decode cX3_cut 29 = .ok (.baload, 1) := by decide +kernel
theorem dX3_cut_30 : decode cX3_cut 30 = .ok (.iconst 5, 1) := by decide +kernel
theorem dX3_cut_31 : decode cX3_cut 31 = .ok (.if_icmp .le 7, 3) := by decide +kernel
theorem dX3_cut_34 : decode cX3_cut 34 = .ok (.iconst 1, 1) := by decide +kernel
theorem dX3_cut_35 : decode cX3_cut 35 = .ok (.goto 4, 3) := by decide +kernel
theorem dX3_cut_38 : decode cX3_cut 38 = .ok (.iconst 0, 1) := by decide +kernel
theorem dX3_cut_39 : decode cX3_cut 39 = .ok (.istore_n 2, 1) := by decide +kernel
theorem dX3_cut_40 : decode cX3_cut 40 = .ok (.aload_n 0, 1) := by decide +kernel
theorem dX3_cut_41 : decode cX3_cut 41 = .ok (.getfield 7, 3) := by decide +kernel
theorem dX3_cut_44 : decode cX3_cut 44 = .ok (.iload_n 1, 1) := by decide +kernel
theorem dX3_cut_45 : decode cX3_cut 45 = .ok (.baload, 1) := by decide +kernel
theorem dX3_cut_46 : decode cX3_cut 46 = .ok (.iconst 5, 1) := by decide +kernel
theorem dX3_cut_47 : decode cX3_cut 47 = .ok (.if_icmp .ne 47, 3) := by decide +kernel
theorem dX3_cut_50 : decode cX3_cut 50 = .ok (.iload_n 1, 1) := by decide +kernel
theorem dX3_cut_51 : decode cX3_cut 51 = .ok (.ifCond .le 21, 3) := by decide +kernel
theorem dX3_cut_54 : decode cX3_cut 54 = .ok (.aload_n 0, 1) := by decide +kernel
theorem dX3_cut_55 : decode cX3_cut 55 = .ok (.getfield 7, 3) := by decide +kernel
theorem dX3_cut_58 : decode cX3_cut 58 = .ok (.iload_n 1, 1) := by decide +kernel
theorem dX3_cut_59 : decode cX3_cut 59 = .ok (.iconst 1, 1) := by decide +kernel
theorem dX3_cut_60 : decode cX3_cut 60 = .ok (.isub, 1) := by decide +kernel
theorem dX3_cut_61 : decode cX3_cut 61 = .ok (.baload, 1) := by decide +kernel
theorem dX3_cut_62 : decode cX3_cut 62 = .ok (.iconst 2, 1) := by decide +kernel
theorem dX3_cut_63 : decode cX3_cut 63 = .ok (.irem, 1) := by decide +kernel
theorem dX3_cut_64 : decode cX3_cut 64 = .ok (.iconst 1, 1) := by decide +kernel
theorem dX3_cut_65 : decode cX3_cut 65 = .ok (.if_icmp .ne 7, 3) := by decide +kernel
theorem dX3_cut_68 : decode cX3_cut 68 = .ok (.iconst 1, 1) := by decide +kernel
theorem dX3_cut_69 : decode cX3_cut 69 = .ok (.goto 4, 3) := by decide +kernel
theorem dX3_cut_72 : decode cX3_cut 72 = .ok (.iconst 0, 1) := by decide +kernel
theorem dX3_cut_73 : decode cX3_cut 73 = .ok (.istore_n 3, 1) := by decide +kernel
theorem dX3_cut_74 : decode cX3_cut 74 = .ok (.iload_n 3, 1) := by decide +kernel
theorem dX3_cut_75 : decode cX3_cut 75 = .ok (.ifCond .ne 13, 3) := by decide +kernel
theorem dX3_cut_78 : decode cX3_cut 78 = .ok (.aload_n 0, 1) := by decide +kernel
theorem dX3_cut_79 : decode cX3_cut 79 = .ok (.getfield 23, 3) := by decide +kernel
theorem dX3_cut_82 : decode cX3_cut 82 = .ok (.iload_n 1, 1) := by decide +kernel
theorem dX3_cut_83 : decode cX3_cut 83 = .ok (.iconst 1, 1) := by decide +kernel
theorem dX3_cut_84 : decode cX3_cut 84 = .ok (.iadd, 1) := by decide +kernel
theorem dX3_cut_85 : decode cX3_cut 85 = .ok (.if_icmp .le 7, 3) := by decide +kernel
theorem dX3_cut_88 : decode cX3_cut 88 = .ok (.iconst 1, 1) := by decide +kernel
theorem dX3_cut_89 : decode cX3_cut 89 = .ok (.goto 4, 3) := by decide +kernel
theorem dX3_cut_92 : decode cX3_cut 92 = .ok (.iconst 0, 1) := by decide +kernel
theorem dX3_cut_93 : decode cX3_cut 93 = .ok (.istore_n 2, 1) := by decide +kernel
theorem dX3_cut_94 : decode cX3_cut 94 = .ok (.aload_n 0, 1) := by decide +kernel
theorem dX3_cut_95 : decode cX3_cut 95 = .ok (.getfield 31, 3) := by decide +kernel
theorem dX3_cut_98 : decode cX3_cut 98 = .ok (.istore_n 3, 1) := by decide +kernel
theorem dX3_cut_99 : decode cX3_cut 99 = .ok (.aload_n 0, 1) := by decide +kernel
theorem dX3_cut_100 : decode cX3_cut 100 = .ok (.iload_n 1, 1) := by decide +kernel
theorem dX3_cut_101 : decode cX3_cut 101 = .ok (.putfield 23, 3) := by decide +kernel
theorem dX3_cut_104 : decode cX3_cut 104 = .ok (.iload_n 2, 1) := by decide +kernel
theorem dX3_cut_105 : decode cX3_cut 105 = .ok (.ifCond .eq 118, 3) := by decide +kernel
theorem dX3_cut_108 : decode cX3_cut 108 = .ok (.iload_n 1, 1) := by decide +kernel
theorem dX3_cut_109 : decode cX3_cut 109 = .ok (.iconst 1, 1) := by decide +kernel
theorem dX3_cut_110 : decode cX3_cut 110 = .ok (.isub, 1) := by decide +kernel
theorem dX3_cut_111 : decode cX3_cut 111 = .ok (.istore 4, 2) := by decide +kernel
theorem dX3_cut_113 : decode cX3_cut 113 = .ok (.iload 4, 2) := by decide +kernel
theorem dX3_cut_115 : decode cX3_cut 115 = .ok (.ifCond .lt 32, 3) := by decide +kernel
theorem dX3_cut_118 : decode cX3_cut 118 = .ok (.aload_n 0, 1) := by decide +kernel
theorem dX3_cut_119 : decode cX3_cut 119 = .ok (.getfield 7, 3) := by decide +kernel
theorem dX3_cut_122 : decode cX3_cut 122 = .ok (.iload 4, 2) := by decide +kernel
theorem dX3_cut_124 : decode cX3_cut 124 = .ok (.baload, 1) := by decide +kernel
theorem dX3_cut_125 : decode cX3_cut 125 = .ok (.bipush 9, 2) := by decide +kernel
theorem dX3_cut_127 : decode cX3_cut 127 = .ok (.if_icmp .ne 20, 3) := by decide +kernel
theorem dX3_cut_130 : decode cX3_cut 130 = .ok (.aload_n 0, 1) := by decide +kernel
theorem dX3_cut_131 : decode cX3_cut 131 = .ok (.getfield 7, 3) := by decide +kernel
theorem dX3_cut_134 : decode cX3_cut 134 = .ok (.iload 4, 2) := by decide +kernel
theorem dX3_cut_136 : decode cX3_cut 136 = .ok (.iconst 0, 1) := by decide +kernel
theorem dX3_cut_137 : decode cX3_cut 137 = .ok (.bastore, 1) := by decide +kernel
theorem dX3_cut_138 : decode cX3_cut 138 = .ok (.iload 4, 2) := by decide +kernel
theorem dX3_cut_140 : decode cX3_cut 140 = .ok (.iconst 1, 1) := by decide +kernel
theorem dX3_cut_141 : decode cX3_cut 141 = .ok (.isub, 1) := by decide +kernel
theorem dX3_cut_142 : decode cX3_cut 142 = .ok (.istore 4, 2) := by decide +kernel
theorem dX3_cut_144 : decode cX3_cut 144 = .ok (.goto (-31), 3) := by decide +kernel
theorem dX3_cut_147 : decode cX3_cut 147 = .ok (.iload 4, 2) := by decide +kernel
theorem dX3_cut_149 : decode cX3_cut 149 = .ok (.ifCond .lt 23, 3) := by decide +kernel
theorem dX3_cut_152 : decode cX3_cut 152 = .ok (.aload_n 0, 1) := by decide +kernel
theorem dX3_cut_153 : decode cX3_cut 153 = .ok (.getfield 7, 3) := by decide +kernel
theorem dX3_cut_156 : decode cX3_cut 156 = .ok (.iload 4, 2) := by decide +kernel
theorem dX3_cut_158 : decode cX3_cut 158 = .ok (.aload_n 0, 1) := by decide +kernel
theorem dX3_cut_159 : decode cX3_cut 159 = .ok (.getfield 7, 3) := by decide +kernel
theorem dX3_cut_162 : decode cX3_cut 162 = .ok (.iload 4, 2) := by decide +kernel
theorem dX3_cut_164 : decode cX3_cut 164 = .ok (.baload, 1) := by decide +kernel
theorem dX3_cut_165 : decode cX3_cut 165 = .ok (.iconst 1, 1) := by decide +kernel
theorem dX3_cut_166 : decode cX3_cut 166 = .ok (.iadd, 1) := by decide +kernel
theorem dX3_cut_167 : decode cX3_cut 167 = .ok (.i2b, 1) := by decide +kernel
theorem dX3_cut_168 : decode cX3_cut 168 = .ok (.bastore, 1) := by decide +kernel
theorem dX3_cut_169 : decode cX3_cut 169 = .ok (.goto 54, 3) := by decide +kernel
theorem dX3_cut_172 : decode cX3_cut 172 = .ok (.iload_n 1, 1) := by decide +kernel
theorem dX3_cut_173 : decode cX3_cut 173 = .ok (.istore 5, 2) := by decide +kernel
theorem dX3_cut_175 : decode cX3_cut 175 = .ok (.iload 5, 2) := by decide +kernel
theorem dX3_cut_177 : decode cX3_cut 177 = .ok (.ifCond .le 25, 3) := by decide +kernel
theorem dX3_cut_180 : decode cX3_cut 180 = .ok (.aload_n 0, 1) := by decide +kernel
theorem dX3_cut_181 : decode cX3_cut 181 = .ok (.getfield 7, 3) := by decide +kernel
theorem dX3_cut_184 : decode cX3_cut 184 = .ok (.iload 5, 2) := by decide +kernel
theorem dX3_cut_186 : decode cX3_cut 186 = .ok (.aload_n 0, 1) := by decide +kernel
theorem dX3_cut_187 : decode cX3_cut 187 = .ok (.getfield 7, 3) := by decide +kernel
theorem dX3_cut_190 : decode cX3_cut 190 = .ok (.iload 5, 2) := by decide +kernel
theorem dX3_cut_192 : decode cX3_cut 192 = .ok (.iconst 1, 1) := by decide +kernel
theorem dX3_cut_193 : decode cX3_cut 193 = .ok (.isub, 1) := by decide +kernel
theorem dX3_cut_194 : decode cX3_cut 194 = .ok (.baload, 1) := by decide +kernel
theorem dX3_cut_195 : decode cX3_cut 195 = .ok (.bastore, 1) := by decide +kernel
theorem dX3_cut_196 : decode cX3_cut 196 = .ok (.iinc 5 (-1), 3) := by decide +kernel
theorem dX3_cut_199 : decode cX3_cut 199 = .ok (.goto (-24), 3) := by decide +kernel
theorem dX3_cut_202 : decode cX3_cut 202 = .ok (.aload_n 0, 1) := by decide +kernel
theorem dX3_cut_203 : decode cX3_cut 203 = .ok (.getfield 7, 3) := by decide +kernel
theorem dX3_cut_206 : decode cX3_cut 206 = .ok (.iconst 0, 1) := by decide +kernel
theorem dX3_cut_207 : decode cX3_cut 207 = .ok (.iconst 1, 1) := by decide +kernel
theorem dX3_cut_208 : decode cX3_cut 208 = .ok (.bastore, 1) := by decide +kernel
theorem dX3_cut_209 : decode cX3_cut 209 = .ok (.aload_n 0, 1) := by decide +kernel
theorem dX3_cut_210 : decode cX3_cut 210 = .ok (.iload_n 1, 1) := by decide +kernel
theorem dX3_cut_211 : decode cX3_cut 211 = .ok (.iconst 1, 1) := by decide +kernel
theorem dX3_cut_212 : decode cX3_cut 212 = .ok (.iadd, 1) := by decide +kernel
theorem dX3_cut_213 : decode cX3_cut 213 = .ok (.putfield 23, 3) := by decide +kernel
theorem dX3_cut_216 : decode cX3_cut 216 = .ok (.aload_n 0, 1) := by decide +kernel
theorem dX3_cut_217 : decode cX3_cut 217 = .ok (.iload_n 3, 1) := by decide +kernel
theorem dX3_cut_218 : decode cX3_cut 218 = .ok (.iconst 1, 1) := by decide +kernel
theorem dX3_cut_219 : decode cX3_cut 219 = .ok (.iadd, 1) := by decide +kernel
theorem dX3_cut_220 : decode cX3_cut 220 = .ok (.putfield 31, 3) := by decide +kernel
theorem dX3_cut_223 : decode cX3_cut 223 = .ok (.aload_n 0, 1) := by decide +kernel
theorem dX3_cut_224 : decode cX3_cut 224 = .ok (.invokevirtual 34, 3) := by decide +kernel
theorem dX3_cut_227 : decode cX3_cut 227 = .ok (.return_, 1) := by decide +kernel
theorem dX3_put_0 : decode cX3_put 0 = .ok (.aload_n 0, 1) := by decide +kernel
theorem dX3_put_1 : decode cX3_put 1 = .ok (.getfield 13, 3) := by decide +kernel
theorem dX3_put_4 : decode cX3_put 4 = .ok (.aload_n 0, 1) := by decide +kernel
theorem dX3_put_5 : decode cX3_put 5 = .ok (.getfield 43, 3) := by decide +kernel
theorem dX3_put_8 : decode cX3_put 8 = .ok (.iload_n 1, 1) := by decide +kernel
theorem dX3_put_9 : decode cX3_put 9 = .ok (.iastore, 1) := by decide +kernel
theorem dX3_put_10 : decode cX3_put 10 = .ok (.aload_n 0, 1) := by decide +kernel
theorem dX3_put_11 : decode cX3_put 11 = .ok (.aload_n 0, 1) := by decide +kernel
theorem dX3_put_12 : decode cX3_put 12 = .ok (.getfield 43, 3) := by decide +kernel
theorem dX3_put_15 : decode cX3_put 15 = .ok (.iconst 1, 1) := by decide +kernel
theorem dX3_put_16 : decode cX3_put 16 = .ok (.iadd, 1) := by decide +kernel
theorem dX3_put_17 : decode cX3_put 17 = .ok (.putfield 43, 3) := by decide +kernel
theorem dX3_put_20 : decode cX3_put 20 = .ok (.return_, 1) := by decide +kernel
theorem dX3_digit_0 : decode cX3_digit 0 = .ok (.iload_n 1, 1) := by decide +kernel
theorem dX3_digit_1 : decode cX3_digit 1 = .ok (.ifCond .lt 20, 3) := by decide +kernel
theorem dX3_digit_4 : decode cX3_digit 4 = .ok (.iload_n 1, 1) := by decide +kernel
theorem dX3_digit_5 : decode cX3_digit 5 = .ok (.aload_n 0, 1) := by decide +kernel
theorem dX3_digit_6 : decode cX3_digit 6 = .ok (.getfield 23, 3) := by decide +kernel
theorem dX3_digit_9 : decode cX3_digit 9 = .ok (.if_icmp .ge 12, 3) := by decide +kernel
theorem dX3_digit_12 : decode cX3_digit 12 = .ok (.aload_n 0, 1) := by decide +kernel
theorem dX3_digit_13 : decode cX3_digit 13 = .ok (.getfield 7, 3) := by decide +kernel
theorem dX3_digit_16 : decode cX3_digit 16 = .ok (.iload_n 1, 1) := by decide +kernel
theorem dX3_digit_17 : decode cX3_digit 17 = .ok (.baload, 1) := by decide +kernel
theorem dX3_digit_18 : decode cX3_digit 18 = .ok (.goto 4, 3) := by decide +kernel
theorem dX3_digit_21 : decode cX3_digit 21 = .ok (.iconst 0, 1) := by decide +kernel
theorem dX3_digit_22 : decode cX3_digit 22 = .ok (.ireturn, 1) := by decide +kernel
set_option maxRecDepth 20000 in
theorem ggX3_body_X3_cut : GoodIn wsX3_body wsX3_cut := goodIn_r _ [7, 2, 1, 8, 9, 10, 11, 6, 12, 23, 24, 25, 26, 27] (by decide +kernel) (by decide +kernel)
set_option maxRecDepth 20000 in
theorem gX3_body_X3_cut : GoodIn wsX3_body (wsV RX3 46 RX3 yX3_cut wsX3_cut) := goodIn_app (goodIn_of _ (by decide +kernel)) ggX3_body_X3_cut
set_option maxRecDepth 20000 in
theorem ggX3_body_X3_digit : GoodIn wsX3_body wsX3_digit := goodIn_r _ [16, 2, 8, 23, 24, 25, 26, 27] (by decide +kernel) (by decide +kernel)
set_option maxRecDepth 20000 in
theorem gX3_body_X3_digit : GoodIn wsX3_body (wsV RX3 50 RX3 yX3_digit wsX3_digit) := goodIn_app (goodIn_of _ (by decide +kernel)) ggX3_body_X3_digit
set_option maxRecDepth 20000 in
theorem ggX3_body_X3_put : GoodIn wsX3_body wsX3_put := goodIn_r _ [20, 21, 22, 23, 24, 25, 26, 27] (by decide +kernel) (by decide +kernel)
set_option maxRecDepth 20000 in
theorem gX3_body_X3_put : GoodIn wsX3_body (wsV RX3 54 RX3 yX3_put wsX3_put) := goodIn_app (goodIn_of _ (by decide +kernel)) ggX3_body_X3_put
theorem dX3_body_0 : decode cX3_body 0 = .ok (.iload_n 1, 1) := by decide +kernel
theorem dX3_body_1 : decode cX3_body 1 = .ok (.ifCond .ne 105, 3) := by decide +kernel
theorem dX3_body_4 : decode cX3_body 4 = .ok (.aload_n 0, 1) := by decide +kernel
theorem dX3_body_5 : decode cX3_body 5 = .ok (.aload_n 0, 1) := by decide +kernel
theorem dX3_body_6 : decode cX3_body 6 = .ok (.getfield 31, 3) := by decide +kernel
theorem dX3_body_9 : decode cX3_body 9 = .ok (.iload_n 2, 1) := by decide +kernel
theorem dX3_body_10 : decode cX3_body 10 = .ok (.iadd, 1) := by decide +kernel
theorem dX3_body_11 : decode cX3_body 11 = .ok (.invokevirtual 46, 3) := by decide +kernel
theorem dX3_body_14 : decode cX3_body 14 = .ok (.iconst 0, 1) := by decide +kernel
theorem dX3_body_15 : decode cX3_body 15 = .ok (.istore 4, 2) := by decide +kernel
theorem dX3_body_17 : decode cX3_body 17 = .ok (.iload 4, 2) := by decide +kernel
theorem dX3_body_19 : decode cX3_body 19 = .ok (.aload_n 0, 1) := by decide +kernel
theorem dX3_body_20 : decode cX3_body 20 = .ok (.getfield 31, 3) := by decide +kernel
theorem dX3_body_23 : decode cX3_body 23 = .ok (.if_icmp .ge 22, 3) := by decide +kernel
theorem dX3_body_26 : decode cX3_body 26 = .ok (.aload_n 0, 1) := by decide +kernel
theorem dX3_body_27 : decode cX3_body 27 = .ok (.bipush 48, 2) := by decide +kernel
theorem dX3_body_29 : decode cX3_body 29 = .ok (.aload_n 0, 1) := by decide +kernel
theorem dX3_body_30 : decode cX3_body 30 = .ok (.iload 4, 2) := by decide +kernel
theorem dX3_body_32 : decode cX3_body 32 = .ok (.invokevirtual 50, 3) := by decide +kernel
theorem dX3_body_35 : decode cX3_body 35 = .ok (.iadd, 1) := by decide +kernel
theorem dX3_body_36 : decode cX3_body 36 = .ok (.invokevirtual 54, 3) := by decide +kernel
theorem dX3_body_39 : decode cX3_body 39 = .ok (.iinc 4 1, 3) := by decide +kernel
theorem dX3_body_42 : decode cX3_body 42 = .ok (.goto (-25), 3) := by decide +kernel
theorem dX3_body_45 : decode cX3_body 45 = .ok (.aload_n 0, 1) := by decide +kernel
theorem dX3_body_46 : decode cX3_body 46 = .ok (.getfield 31, 3) := by decide +kernel
theorem dX3_body_49 : decode cX3_body 49 = .ok (.ifCond .gt 9, 3) := by decide +kernel
theorem dX3_body_52 : decode cX3_body 52 = .ok (.aload_n 0, 1) := by decide +kernel
theorem dX3_body_53 : decode cX3_body 53 = .ok (.bipush 48, 2) := by decide +kernel
theorem dX3_body_55 : decode cX3_body 55 = .ok (.invokevirtual 54, 3) := by decide +kernel
theorem dX3_body_58 : decode cX3_body 58 = .ok (.iload_n 2, 1) := by decide +kernel
theorem dX3_body_59 : decode cX3_body 59 = .ok (.ifCond .gt 7, 3) := by decide +kernel
theorem dX3_body_62 : decode cX3_body 62 = .ok (.iload_n 3, 1) := by decide +kernel
theorem dX3_body_63 : decode cX3_body 63 = .ok (.ifCond .eq 9, 3) := by decide +kernel
theorem dX3_body_66 : decode cX3_body 66 = .ok (.aload_n 0, 1) := by decide +kernel
theorem dX3_body_67 : decode cX3_body 67 = .ok (.bipush 46, 2) := by decide +kernel
theorem dX3_body_69 : decode cX3_body 69 = .ok (.invokevirtual 54, 3) := by decide +kernel
theorem dX3_body_72 : decode cX3_body 72 = .ok (.iconst 0, 1) := by decide +kernel
theorem dX3_body_73 : decode cX3_body 73 = .ok (.istore 4, 2) := by decide +kernel
theorem dX3_body_75 : decode cX3_body 75 = .ok (.iload 4, 2) := by decide +kernel
theorem dX3_body_77 : decode cX3_body 77 = .ok (.iload_n 2, 1) := by decide +kernel
theorem dX3_body_78 : decode cX3_body 78 = .ok (.if_icmp .ge 27, 3) := by decide +kernel
theorem dX3_body_81 : decode cX3_body 81 = .ok (.aload_n 0, 1) := by decide +kernel
theorem dX3_body_82 : decode cX3_body 82 = .ok (.bipush 48, 2) := by decide +kernel
theorem dX3_body_84 : decode cX3_body 84 = .ok (.aload_n 0, 1) := by decide +kernel
theorem dX3_body_85 : decode cX3_body 85 = .ok (.aload_n 0, 1) := by decide +kernel
theorem dX3_body_86 : decode cX3_body 86 = .ok (.getfield 31, 3) := by decide +kernel
theorem dX3_body_89 : decode cX3_body 89 = .ok (.iload 4, 2) := by decide +kernel
theorem dX3_body_91 : decode cX3_body 91 = .ok (.iadd, 1) := by decide +kernel
theorem dX3_body_92 : decode cX3_body 92 = .ok (.invokevirtual 50, 3) := by decide +kernel
theorem dX3_body_95 : decode cX3_body 95 = .ok (.iadd, 1) := by decide +kernel
theorem dX3_body_96 : decode cX3_body 96 = .ok (.invokevirtual 54, 3) := by decide +kernel
theorem dX3_body_99 : decode cX3_body 99 = .ok (.iinc 4 1, 3) := by decide +kernel
theorem dX3_body_102 : decode cX3_body 102 = .ok (.goto (-27), 3) := by decide +kernel
theorem dX3_body_105 : decode cX3_body 105 = .ok (.return_, 1) := by decide +kernel
theorem dX3_body_106 : decode cX3_body 106 = .ok (.aload_n 0, 1) := by decide +kernel
theorem dX3_body_107 : decode cX3_body 107 = .ok (.iload_n 2, 1) := by decide +kernel
theorem dX3_body_108 : decode cX3_body 108 = .ok (.iconst 1, 1) := by decide +kernel
theorem dX3_body_109 : decode cX3_body 109 = .ok (.iadd, 1) := by decide +kernel
theorem dX3_body_110 : decode cX3_body 110 = .ok (.invokevirtual 46, 3) := by decide +kernel
theorem dX3_body_113 : decode cX3_body 113 = .ok (.aload_n 0, 1) := by decide +kernel
theorem dX3_body_114 : decode cX3_body 114 = .ok (.getfield 23, 3) := by decide +kernel
theorem dX3_body_117 : decode cX3_body 117 = .ok (.ifCond .ne 7, 3) := by decide +kernel
theorem dX3_body_120 : decode cX3_body 120 = .ok (.iconst 0, 1) := by decide +kernel
theorem dX3_body_121 : decode cX3_body 121 = .ok (.goto 9, 3) := by decide +kernel
theorem dX3_body_124 : decode cX3_body 124 = .ok (.aload_n 0, 1) := by decide +kernel
theorem dX3_body_125 : decode cX3_body 125 = .ok (.getfield 31, 3) := by decide +kernel
theorem dX3_body_128 : decode cX3_body 128 = .ok (.iconst 1, 1) := by decide +kernel
theorem dX3_body_129 : decode cX3_body 129 = .ok (.isub, 1) := by decide +kernel
theorem dX3_body_130 : decode cX3_body 130 = .ok (.istore 4, 2) := by decide +kernel
theorem dX3_body_132 : decode cX3_body 132 = .ok (.aload_n 0, 1) := by decide +kernel
theorem dX3_body_133 : decode cX3_body 133 = .ok (.bipush 48, 2) := by decide +kernel
theorem dX3_body_135 : decode cX3_body 135 = .ok (.aload_n 0, 1) := by decide +kernel
theorem dX3_body_136 : decode cX3_body 136 = .ok (.iconst 0, 1) := by decide +kernel
theorem dX3_body_137 : decode cX3_body 137 = .ok (.invokevirtual 50, 3) := by decide +kernel
theorem dX3_body_140 : decode cX3_body 140 = .ok (.iadd, 1) := by decide +kernel
theorem dX3_body_141 : decode cX3_body 141 = .ok (.invokevirtual 54, 3) := by decide +kernel
theorem dX3_body_144 : decode cX3_body 144 = .ok (.iload_n 2, 1) := by decide +kernel
theorem dX3_body_145 : decode cX3_body 145 = .ok (.ifCond .gt 7, 3) := by decide +kernel
theorem dX3_body_148 : decode cX3_body 148 = .ok (.iload_n 3, 1) := by decide +kernel
theorem dX3_body_149 : decode cX3_body 149 = .ok (.ifCond .eq 9, 3) := by decide +kernel
theorem dX3_body_152 : decode cX3_body 152 = .ok (.aload_n 0, 1) := by decide +kernel
theorem dX3_body_153 : decode cX3_body 153 = .ok (.bipush 46, 2) := by decide +kernel
theorem dX3_body_155 : decode cX3_body 155 = .ok (.invokevirtual 54, 3) := by decide +kernel
theorem dX3_body_158 : decode cX3_body 158 = .ok (.iconst 1, 1) := by decide +kernel
theorem dX3_body_159 : decode cX3_body 159 = .ok (.istore 5, 2) := by decide +kernel
theorem dX3_body_161 : decode cX3_body 161 = .ok (.iload 5, 2) := by decide +kernel
theorem dX3_body_163 : decode cX3_body 163 = .ok (.iload_n 2, 1) := by decide +kernel
theorem dX3_body_164 : decode cX3_body 164 = .ok (.if_icmp .gt 22, 3) := by decide +kernel
theorem dX3_body_167 : decode cX3_body 167 = .ok (.aload_n 0, 1) := by decide +kernel
theorem dX3_body_168 : decode cX3_body 168 = .ok (.bipush 48, 2) := by decide +kernel
theorem dX3_body_170 : decode cX3_body 170 = .ok (.aload_n 0, 1) := by decide +kernel
theorem dX3_body_171 : decode cX3_body 171 = .ok (.iload 5, 2) := by decide +kernel
theorem dX3_body_173 : decode cX3_body 173 = .ok (.invokevirtual 50, 3) := by decide +kernel
theorem dX3_body_176 : decode cX3_body 176 = .ok (.iadd, 1) := by decide +kernel
theorem dX3_body_177 : decode cX3_body 177 = .ok (.invokevirtual 54, 3) := by decide +kernel
theorem dX3_body_180 : decode cX3_body 180 = .ok (.iinc 5 1, 3) := by decide +kernel
theorem dX3_body_183 : decode cX3_body 183 = .ok (.goto (-22), 3) := by decide +kernel
theorem dX3_body_186 : decode cX3_body 186 = .ok (.aload_n 0, 1) := by decide +kernel
theorem dX3_body_187 : decode cX3_body 187 = .ok (.iload_n 1, 1) := by decide +kernel
theorem dX3_body_188 : decode cX3_body 188 = .ok (.iconst 1, 1) := by decide +kernel
theorem dX3_body_189 : decode cX3_body 189 = .ok (.if_icmp .ne 8, 3) := by decide +kernel
theorem dX3_body_192 : decode cX3_body 192 = .ok (.bipush 101, 2) := by decide +kernel
theorem dX3_body_194 : decode cX3_body 194 = .ok (.goto 5, 3) := by decide +kernel
theorem dX3_body_197 : decode cX3_body 197 = .ok (.bipush 69, 2) := by decide +kernel
theorem dX3_body_199 : decode cX3_body 199 = .ok (.invokevirtual 54, 3) := by decide +kernel
theorem dX3_body_202 : decode cX3_body 202 = .ok (.aload_n 0, 1) := by decide +kernel
theorem dX3_body_203 : decode cX3_body 203 = .ok (.iload 4, 2) := by decide +kernel
theorem dX3_body_205 : decode cX3_body 205 = .ok (.ifCond .ge 8, 3) := by decide +kernel
theorem dX3_body_208 : decode cX3_body 208 = .ok (.bipush 45, 2) := by decide +kernel
theorem dX3_body_210 : decode cX3_body 210 = .ok (.goto 5, 3) := by decide +kernel
theorem dX3_body_213 : decode cX3_body 213 = .ok (.bipush 43, 2) := by decide +kernel
theorem dX3_body_215 : decode cX3_body 215 = .ok (.invokevirtual 54, 3) := by decide +kernel
theorem dX3_body_218 : decode cX3_body 218 = .ok (.iload 4, 2) := by decide +kernel
theorem dX3_body_220 : decode cX3_body 220 = .ok (.ifCond .ge 9, 3) := by decide +kernel
theorem dX3_body_223 : decode cX3_body 223 = .ok (.iload 4, 2) := by decide +kernel
theorem dX3_body_225 : decode cX3_body 225 = .ok (.ineg, 1) := by decide +kernel
theorem dX3_body_226 : decode cX3_body 226 = .ok (.goto 5, 3) := by decide +kernel
theorem dX3_body_229 : decode cX3_body 229 = .ok (.iload 4, 2) := by decide +kernel
theorem dX3_body_231 : decode cX3_body 231 = .ok (.istore 5, 2) := by decide +kernel
theorem dX3_body_233 : decode cX3_body 233 = .ok (.iload 5, 2) := by decide +kernel
theorem dX3_body_235 : decode cX3_body 235 = .ok (.bipush 99, 2) := by decide +kernel
theorem dX3_body_237 : decode cX3_body 237 = .ok (.if_icmp .le 15, 3) := by decide +kernel
theorem dX3_body_240 : decode cX3_body 240 = .ok (.aload_n 0, 1) := by decide +kernel
theorem dX3_body_241 : decode cX3_body 241 = .ok (.bipush 48, 2) := by decide +kernel
theorem dX3_body_243 : decode cX3_body 243 = .ok (.iload 5, 2) := by decide +kernel
theorem dX3_body_245 : decode cX3_body 245 = .ok (.bipush 100, 2) := by decide +kernel
theorem dX3_body_247 : decode cX3_body 247 = .ok (.idiv, 1) := by decide +kernel
theorem dX3_body_248 : decode cX3_body 248 = .ok (.iadd, 1) := by decide +kernel
theorem dX3_body_249 : decode cX3_body 249 = .ok (.invokevirtual 54, 3) := by decide +kernel
theorem dX3_body_252 : decode cX3_body 252 = .ok (.aload_n 0, 1) := by decide +kernel
theorem dX3_body_253 : decode cX3_body 253 = .ok (.bipush 48, 2) := by decide +kernel
theorem dX3_body_255 : decode cX3_body 255 = .ok (.iload 5, 2) := by decide +kernel
theorem dX3_body_257 : decode cX3_body 257 = .ok (.bipush 10, 2) := by decide +kernel
theorem dX3_body_259 : decode cX3_body 259 = .ok (.idiv, 1) := by decide +kernel
theorem dX3_body_260 : decode cX3_body 260 = .ok (.bipush 10, 2) := by decide +kernel
theorem dX3_body_262 : decode cX3_body 262 = .ok (.irem, 1) := by decide +kernel
theorem dX3_body_263 : decode cX3_body 263 = .ok (.iadd, 1) := by decide +kernel
theorem dX3_body_264 : decode cX3_body 264 = .ok (.invokevirtual 54, 3) := by decide +kernel
theorem dX3_body_267 : decode cX3_body 267 = .ok (.aload_n 0, 1) := by decide +kernel
theorem dX3_body_268 : decode cX3_body 268 = .ok (.bipush 48, 2) := by decide +kernel
theorem dX3_body_270 : decode cX3_body 270 = .ok (.iload 5, 2) := by decide +kernel
theorem dX3_body_272 : decode cX3_body 272 = .ok (.bipush 10, 2) := by decide +kernel
theorem dX3_body_274 : decode cX3_body 274 = .ok (.irem, 1) := by decide +kernel
theorem dX3_body_275 : decode cX3_body 275 = .ok (.iadd, 1) := by decide +kernel
theorem dX3_body_276 : decode cX3_body 276 = .ok (.invokevirtual 54, 3) := by decide +kernel
theorem dX3_body_279 : decode cX3_body 279 = .ok (.return_, 1) := by decide +kernel
set_option maxRecDepth 20000 in
theorem ggX3_make_X3_none : GoodIn wsX3_make wsX3_none := goodIn_r _ [5, 6, 7] (by decide +kernel) (by decide +kernel)
set_option maxRecDepth 20000 in
theorem gX3_make_X3_none : GoodIn wsX3_make (va_wsS RX3 57 yX3_none wsX3_none) := goodIn_app (goodIn_of _ (by decide +kernel)) ggX3_make_X3_none
set_option maxRecDepth 20000 in
theorem ggX3_make_X3_put : GoodIn wsX3_make wsX3_put := goodIn_r _ [11, 12, 1, 54, 55, 56, 57, 58] (by decide +kernel) (by decide +kernel)
set_option maxRecDepth 20000 in
theorem gX3_make_X3_put : GoodIn wsX3_make (wsV RX3 54 RX3 yX3_put wsX3_put) := goodIn_app (goodIn_of _ (by decide +kernel)) ggX3_make_X3_put
set_option maxRecDepth 20000 in
theorem ggX3_make_X3_infinite : GoodIn wsX3_make wsX3_infinite := goodIn_r _ [15, 6, 7] (by decide +kernel) (by decide +kernel)
set_option maxRecDepth 20000 in
theorem gX3_make_X3_infinite : GoodIn wsX3_make (va_wsS RX3 61 yX3_infinite wsX3_infinite) := goodIn_app (goodIn_of _ (by decide +kernel)) ggX3_make_X3_infinite
set_option maxRecDepth 20000 in
theorem ggX3_make_X3_spread : GoodIn wsX3_make wsX3_spread := goodIn_r _ [19, 6, 7, 20, 21, 22, 23, 24, 25, 26, 27, 28, 4, 29, 30, 31, 32, 33, 34, 35, 36, 37, 54, 55, 56, 57, 58] (by decide +kernel) (by decide +kernel)
set_option maxRecDepth 20000 in
theorem gX3_make_X3_spread : GoodIn wsX3_make (wsV RX3 64 RX3 yX3_spread wsX3_spread) := goodIn_app (goodIn_of _ (by decide +kernel)) ggX3_make_X3_spread
set_option maxRecDepth 20000 in
theorem ggX3_make_X3_body : GoodIn wsX3_make wsX3_body := goodIn_r _ [41, 25, 21, 42, 43, 44, 4, 45, 23, 26, 27, 28, 29, 46, 47, 48, 49, 8, 9, 10, 11, 12, 1, 54, 55, 56, 57, 58] (by decide +kernel) (by decide +kernel)
set_option maxRecDepth 20000 in
theorem gX3_make_X3_body : GoodIn wsX3_make (wsV RX3 68 RX3 yX3_body wsX3_body) := goodIn_app (goodIn_of _ (by decide +kernel)) ggX3_make_X3_body
set_option maxRecDepth 20000 in
theorem ggX3_make_X3_fill : GoodIn wsX3_make wsX3_fill := goodIn_r _ [53, 1, 12, 54, 55, 56, 57, 58] (by decide +kernel) (by decide +kernel)
set_option maxRecDepth 20000 in
theorem gX3_make_X3_fill : GoodIn wsX3_make (wsV RX3 72 RX3 yX3_fill wsX3_fill) := goodIn_app (goodIn_of _ (by decide +kernel)) ggX3_make_X3_fill
theorem dX3_make_0 : decode cX3_make 0 = .ok (.iload_n 3, 1) := by decide +kernel
theorem dX3_make_1 : decode cX3_make 1 = .ok (.ifCond .lt 52, 3) := by decide +kernel
theorem dX3_make_4 : decode cX3_make 4 = .ok (.iload_n 3, 1) := by decide +kernel
theorem dX3_make_5 : decode cX3_make 5 = .ok (.iconst 2, 1) := by decide +kernel
theorem dX3_make_6 : decode cX3_make 6 = .ok (.if_icmp .gt 47, 3) := by decide +kernel
theorem dX3_make_9 : decode cX3_make 9 = .ok (.iload 4, 2) := by decide +kernel
theorem dX3_make_11 : decode cX3_make 11 = .ok (.ifCond .lt 42, 3) := by decide +kernel
theorem dX3_make_14 : decode cX3_make 14 = .ok (.iload 4, 2) := by decide +kernel
theorem dX3_make_16 : decode cX3_make 16 = .ok (.bipush 15, 2) := by decide +kernel
theorem dX3_make_18 : decode cX3_make 18 = .ok (.if_icmp .gt 35, 3) := by decide +kernel
theorem dX3_make_21 : decode cX3_make 21 = .ok (.iload 5, 2) := by decide +kernel
theorem dX3_make_23 : decode cX3_make 23 = .ok (.ifCond .lt 30, 3) := by decide +kernel
theorem dX3_make_26 : decode cX3_make 26 = .ok (.iload 5, 2) := by decide +kernel
theorem dX3_make_28 : decode cX3_make 28 = .ok (.sipush 400, 3) := by decide +kernel
theorem dX3_make_31 : decode cX3_make 31 = .ok (.if_icmp .gt 22, 3) := by decide +kernel
theorem dX3_make_34 : decode cX3_make 34 = .ok (.iload 6, 2) := by decide +kernel
theorem dX3_make_36 : decode cX3_make 36 = .ok (.ifCond .lt 17, 3) := by decide +kernel
theorem dX3_make_39 : decode cX3_make 39 = .ok (.iload 6, 2) := by decide +kernel
theorem dX3_make_41 : decode cX3_make 41 = .ok (.bipush 31, 2) := by decide +kernel
theorem dX3_make_43 : decode cX3_make 43 = .ok (.if_icmp .gt 10, 3) := by decide +kernel
theorem dX3_make_46 : decode cX3_make 46 = .ok (.lload_n 1, 1) := by decide +kernel
theorem dX3_make_47 : decode cX3_make 47 = .ok (.invokestatic 57, 3) := by decide +kernel
theorem dX3_make_50 : decode cX3_make 50 = .ok (.ifCond .eq 5, 3) := by decide +kernel
theorem dX3_make_53 : decode cX3_make 53 = .ok (.iconst (-1), 1) := by decide +kernel
theorem dX3_make_54 : decode cX3_make 54 = .ok (.ireturn, 1) := by decide +kernel
theorem dX3_make_55 : decode cX3_make 55 = .ok (.aload_n 0, 1) := by decide +kernel
theorem dX3_make_56 : decode cX3_make 56 = .ok (.iconst 0, 1) := by decide +kernel
theorem dX3_make_57 : decode cX3_make 57 = .ok (.putfield 43, 3) := by decide +kernel
theorem dX3_make_60 : decode cX3_make 60 = .ok (.lload_n 1, 1) := by decide +kernel
theorem dX3_make_61 : decode cX3_make 61 = .ok (.lconst 0, 1) := by decide +kernel
theorem dX3_make_62 : decode cX3_make 62 = .ok (.lcmp, 1) := by decide +kernel
theorem dX3_make_63 : decode cX3_make 63 = .ok (.ifCond .ge 8, 3) := by decide +kernel
theorem dX3_make_66 : decode cX3_make 66 = .ok (.bipush 45, 2) := by decide +kernel
theorem dX3_make_68 : decode cX3_make 68 = .ok (.goto 28, 3) := by decide +kernel
theorem dX3_make_71 : decode cX3_make 71 = .ok (.iload 6, 2) := by decide +kernel
theorem dX3_make_73 : decode cX3_make 73 = .ok (.iconst 2, 1) := by decide +kernel
theorem dX3_make_74 : decode cX3_make 74 = .ok (.iand, 1) := by decide +kernel
theorem dX3_make_75 : decode cX3_make 75 = .ok (.ifCond .eq 8, 3) := by decide +kernel
theorem dX3_make_78 : decode cX3_make 78 = .ok (.bipush 43, 2) := by decide +kernel
theorem dX3_make_80 : decode cX3_make 80 = .ok (.goto 16, 3) := by decide +kernel
theorem dX3_make_83 : decode cX3_make 83 = .ok (.iload 6, 2) := by decide +kernel
theorem dX3_make_85 : decode cX3_make 85 = .ok (.iconst 4, 1) := by decide +kernel
theorem dX3_make_86 : decode cX3_make 86 = .ok (.iand, 1) := by decide +kernel
theorem dX3_make_87 : decode cX3_make 87 = .ok (.ifCond .eq 8, 3) := by decide +kernel
theorem dX3_make_90 : decode cX3_make 90 = .ok (.bipush 32, 2) := by decide +kernel
theorem dX3_make_92 : decode cX3_make 92 = .ok (.goto 4, 3) := by decide +kernel
theorem dX3_make_95 : decode cX3_make 95 = .ok (.iconst 0, 1) := by decide +kernel
theorem dX3_make_96 : decode cX3_make 96 = .ok (.istore 7, 2) := by decide +kernel
theorem dX3_make_98 : decode cX3_make 98 = .ok (.iload 7, 2) := by decide +kernel
theorem dX3_make_100 : decode cX3_make 100 = .ok (.ifCond .eq 9, 3) := by decide +kernel
theorem dX3_make_103 : decode cX3_make 103 = .ok (.aload_n 0, 1) := by decide +kernel
theorem dX3_make_104 : decode cX3_make 104 = .ok (.iload 7, 2) := by decide +kernel
theorem dX3_make_106 : decode cX3_make 106 = .ok (.invokevirtual 54, 3) := by decide +kernel
theorem dX3_make_109 : decode cX3_make 109 = .ok (.aload_n 0, 1) := by decide +kernel
theorem dX3_make_110 : decode cX3_make 110 = .ok (.getfield 43, 3) := by decide +kernel
theorem dX3_make_113 : decode cX3_make 113 = .ok (.istore 8, 2) := by decide +kernel
theorem dX3_make_115 : decode cX3_make 115 = .ok (.lload_n 1, 1) := by decide +kernel
theorem dX3_make_116 : decode cX3_make 116 = .ok (.invokestatic 61, 3) := by decide +kernel
theorem dX3_make_119 : decode cX3_make 119 = .ok (.ifCond .eq 24, 3) := by decide +kernel
theorem dX3_make_122 : decode cX3_make 122 = .ok (.aload_n 0, 1) := by decide +kernel
theorem dX3_make_123 : decode cX3_make 123 = .ok (.bipush 105, 2) := by decide +kernel
theorem dX3_make_125 : decode cX3_make 125 = .ok (.invokevirtual 54, 3) := by decide +kernel
theorem dX3_make_128 : decode cX3_make 128 = .ok (.aload_n 0, 1) := by decide +kernel
theorem dX3_make_129 : decode cX3_make 129 = .ok (.bipush 110, 2) := by decide +kernel
theorem dX3_make_131 : decode cX3_make 131 = .ok (.invokevirtual 54, 3) := by decide +kernel
theorem dX3_make_134 : decode cX3_make 134 = .ok (.aload_n 0, 1) := by decide +kernel
theorem dX3_make_135 : decode cX3_make 135 = .ok (.bipush 102, 2) := by decide +kernel
theorem dX3_make_137 : decode cX3_make 137 = .ok (.invokevirtual 54, 3) := by decide +kernel
theorem dX3_make_140 : decode cX3_make 140 = .ok (.goto 28, 3) := by decide +kernel
theorem dX3_make_143 : decode cX3_make 143 = .ok (.aload_n 0, 1) := by decide +kernel
theorem dX3_make_144 : decode cX3_make 144 = .ok (.lload_n 1, 1) := by decide +kernel
theorem dX3_make_145 : decode cX3_make 145 = .ok (.invokevirtual 64, 3) := by decide +kernel
theorem dX3_make_148 : decode cX3_make 148 = .ok (.aload_n 0, 1) := by decide +kernel
theorem dX3_make_149 : decode cX3_make 149 = .ok (.iload_n 3, 1) := by decide +kernel
theorem dX3_make_150 : decode cX3_make 150 = .ok (.iload 4, 2) := by decide +kernel
theorem dX3_make_152 : decode cX3_make 152 = .ok (.iload 6, 2) := by decide +kernel
theorem dX3_make_154 : decode cX3_make 154 = .ok (.bipush 16, 2) := by decide +kernel
theorem dX3_make_156 : decode cX3_make 156 = .ok (.iand, 1) := by decide +kernel
theorem dX3_make_157 : decode cX3_make 157 = .ok (.ifCond .eq 7, 3) := by decide +kernel
theorem dX3_make_160 : decode cX3_make 160 = .ok (.iconst 1, 1) := by decide +kernel
theorem dX3_make_161 : decode cX3_make 161 = .ok (.goto 4, 3) := by decide +kernel
theorem dX3_make_164 : decode cX3_make 164 = .ok (.iconst 0, 1) := by decide +kernel
theorem dX3_make_165 : decode cX3_make 165 = .ok (.invokevirtual 68, 3) := by decide +kernel
theorem dX3_make_168 : decode cX3_make 168 = .ok (.iload 5, 2) := by decide +kernel
theorem dX3_make_170 : decode cX3_make 170 = .ok (.aload_n 0, 1) := by decide +kernel
theorem dX3_make_171 : decode cX3_make 171 = .ok (.getfield 43, 3) := by decide +kernel
theorem dX3_make_174 : decode cX3_make 174 = .ok (.isub, 1) := by decide +kernel
theorem dX3_make_175 : decode cX3_make 175 = .ok (.istore 9, 2) := by decide +kernel
theorem dX3_make_177 : decode cX3_make 177 = .ok (.iload 9, 2) := by decide +kernel
theorem dX3_make_179 : decode cX3_make 179 = .ok (.ifCond .le 17, 3) := by decide +kernel
theorem dX3_make_182 : decode cX3_make 182 = .ok (.aload_n 0, 1) := by decide +kernel
theorem dX3_make_183 : decode cX3_make 183 = .ok (.iload 9, 2) := by decide +kernel
theorem dX3_make_185 : decode cX3_make 185 = .ok (.iload 6, 2) := by decide +kernel
theorem dX3_make_187 : decode cX3_make 187 = .ok (.iload 8, 2) := by decide +kernel
theorem dX3_make_189 : decode cX3_make 189 = .ok (.lload_n 1, 1) := by decide +kernel
theorem dX3_make_190 : decode cX3_make 190 = .ok (.invokestatic 61, 3) := by decide +kernel
theorem dX3_make_193 : decode cX3_make 193 = .ok (.invokevirtual 72, 3) := by decide +kernel
theorem dX3_make_196 : decode cX3_make 196 = .ok (.aload_n 0, 1) := by decide +kernel
theorem dX3_make_197 : decode cX3_make 197 = .ok (.getfield 43, 3) := by decide +kernel
theorem dX3_make_200 : decode cX3_make 200 = .ok (.ireturn, 1) := by decide +kernel
theorem dX3_fill_0 : decode cX3_fill 0 = .ok (.iload_n 2, 1) := by decide +kernel
theorem dX3_fill_1 : decode cX3_fill 1 = .ok (.iconst 1, 1) := by decide +kernel
theorem dX3_fill_2 : decode cX3_fill 2 = .ok (.iand, 1) := by decide +kernel
theorem dX3_fill_3 : decode cX3_fill 3 = .ok (.ifCond .eq 7, 3) := by decide +kernel
theorem dX3_fill_6 : decode cX3_fill 6 = .ok (.iconst 1, 1) := by decide +kernel
theorem dX3_fill_7 : decode cX3_fill 7 = .ok (.goto 4, 3) := by decide +kernel
theorem dX3_fill_10 : decode cX3_fill 10 = .ok (.iconst 0, 1) := by decide +kernel
theorem dX3_fill_11 : decode cX3_fill 11 = .ok (.istore 5, 2) := by decide +kernel
theorem dX3_fill_13 : decode cX3_fill 13 = .ok (.iload 5, 2) := by decide +kernel
theorem dX3_fill_15 : decode cX3_fill 15 = .ok (.ifCond .ne 19, 3) := by decide +kernel
theorem dX3_fill_18 : decode cX3_fill 18 = .ok (.iload_n 2, 1) := by decide +kernel
theorem dX3_fill_19 : decode cX3_fill 19 = .ok (.bipush 8, 2) := by decide +kernel
theorem dX3_fill_21 : decode cX3_fill 21 = .ok (.iand, 1) := by decide +kernel
theorem dX3_fill_22 : decode cX3_fill 22 = .ok (.ifCond .eq 12, 3) := by decide +kernel
theorem dX3_fill_25 : decode cX3_fill 25 = .ok (.iload 4, 2) := by decide +kernel
theorem dX3_fill_27 : decode cX3_fill 27 = .ok (.ifCond .ne 7, 3) := by decide +kernel
theorem dX3_fill_30 : decode cX3_fill 30 = .ok (.iconst 1, 1) := by decide +kernel
theorem dX3_fill_31 : decode cX3_fill 31 = .ok (.goto 4, 3) := by decide +kernel
theorem dX3_fill_34 : decode cX3_fill 34 = .ok (.iconst 0, 1) := by decide +kernel
theorem dX3_fill_35 : decode cX3_fill 35 = .ok (.istore 6, 2) := by decide +kernel
theorem dX3_fill_37 : decode cX3_fill 37 = .ok (.iload 5, 2) := by decide +kernel
theorem dX3_fill_39 : decode cX3_fill 39 = .ok (.ifCond .eq 10, 3) := by decide +kernel
theorem dX3_fill_42 : decode cX3_fill 42 = .ok (.aload_n 0, 1) := by decide +kernel
theorem dX3_fill_43 : decode cX3_fill 43 = .ok (.getfield 43, 3) := by decide +kernel
theorem dX3_fill_46 : decode cX3_fill 46 = .ok (.goto 13, 3) := by decide +kernel
theorem dX3_fill_49 : decode cX3_fill 49 = .ok (.iload 6, 2) := by decide +kernel
theorem dX3_fill_51 : decode cX3_fill 51 = .ok (.ifCond .eq 7, 3) := by decide +kernel
theorem dX3_fill_54 : decode cX3_fill 54 = .ok (.iload_n 3, 1) := by decide +kernel
theorem dX3_fill_55 : decode cX3_fill 55 = .ok (.goto 4, 3) := by decide +kernel
theorem dX3_fill_58 : decode cX3_fill 58 = .ok (.iconst 0, 1) := by decide +kernel
theorem dX3_fill_59 : decode cX3_fill 59 = .ok (.istore 7, 2) := by decide +kernel
theorem dX3_fill_61 : decode cX3_fill 61 = .ok (.aload_n 0, 1) := by decide +kernel
theorem dX3_fill_62 : decode cX3_fill 62 = .ok (.getfield 43, 3) := by decide +kernel
theorem dX3_fill_65 : decode cX3_fill 65 = .ok (.iconst 1, 1) := by decide +kernel
theorem dX3_fill_66 : decode cX3_fill 66 = .ok (.isub, 1) := by decide +kernel
theorem dX3_fill_67 : decode cX3_fill 67 = .ok (.istore 8, 2) := by decide +kernel
theorem dX3_fill_69 : decode cX3_fill 69 = .ok (.iload 8, 2) := by decide +kernel
theorem dX3_fill_71 : decode cX3_fill 71 = .ok (.iload 7, 2) := by decide +kernel
theorem dX3_fill_73 : decode cX3_fill 73 = .ok (.if_icmp .lt 25, 3) := by decide +kernel
theorem dX3_fill_76 : decode cX3_fill 76 = .ok (.aload_n 0, 1) := by decide +kernel
theorem dX3_fill_77 : decode cX3_fill 77 = .ok (.getfield 13, 3) := by decide +kernel
theorem dX3_fill_80 : decode cX3_fill 80 = .ok (.iload 8, 2) := by decide +kernel
theorem dX3_fill_82 : decode cX3_fill 82 = .ok (.iload_n 1, 1) := by decide +kernel
theorem dX3_fill_83 : decode cX3_fill 83 = .ok (.iadd, 1) := by decide +kernel
theorem dX3_fill_84 : decode cX3_fill 84 = .ok (.aload_n 0, 1) := by decide +kernel
theorem dX3_fill_85 : decode cX3_fill 85 = .ok (.getfield 13, 3) := by decide +kernel
theorem dX3_fill_88 : decode cX3_fill 88 = .ok (.iload 8, 2) := by decide +kernel
theorem dX3_fill_90 : decode cX3_fill 90 = .ok (.iaload, 1) := by decide +kernel
theorem dX3_fill_91 : decode cX3_fill 91 = .ok (.iastore, 1) := by decide +kernel
theorem dX3_fill_92 : decode cX3_fill 92 = .ok (.iinc 8 (-1), 3) := by decide +kernel
theorem dX3_fill_95 : decode cX3_fill 95 = .ok (.goto (-26), 3) := by decide +kernel
theorem dX3_fill_98 : decode cX3_fill 98 = .ok (.iconst 0, 1) := by decide +kernel
theorem dX3_fill_99 : decode cX3_fill 99 = .ok (.istore 8, 2) := by decide +kernel
theorem dX3_fill_101 : decode cX3_fill 101 = .ok (.iload 8, 2) := by decide +kernel
theorem dX3_fill_103 : decode cX3_fill 103 = .ok (.iload_n 1, 1) := by decide +kernel
theorem dX3_fill_104 : decode cX3_fill 104 = .ok (.if_icmp .ge 31, 3) := by decide +kernel
theorem dX3_fill_107 : decode cX3_fill 107 = .ok (.aload_n 0, 1) := by decide +kernel
theorem dX3_fill_108 : decode cX3_fill 108 = .ok (.getfield 13, 3) := by decide +kernel
theorem dX3_fill_111 : decode cX3_fill 111 = .ok (.iload 7, 2) := by decide +kernel
theorem dX3_fill_113 : decode cX3_fill 113 = .ok (.iload 8, 2) := by decide +kernel
theorem dX3_fill_115 : decode cX3_fill 115 = .ok (.iadd, 1) := by decide +kernel
theorem dX3_fill_116 : decode cX3_fill 116 = .ok (.iload 6, 2) := by decide +kernel
theorem dX3_fill_118 : decode cX3_fill 118 = .ok (.ifCond .eq 8, 3) := by decide +kernel
theorem dX3_fill_121 : decode cX3_fill 121 = .ok (.bipush 48, 2) := by decide +kernel
theorem dX3_fill_123 : decode cX3_fill 123 = .ok (.goto 5, 3) := by decide +kernel
theorem dX3_fill_126 : decode cX3_fill 126 = .ok (.bipush 32, 2) := by decide +kernel
theorem dX3_fill_128 : decode cX3_fill 128 = .ok (.iastore, 1) := by decide +kernel
theorem dX3_fill_129 : decode cX3_fill 129 = .ok (.iinc 8 1, 3) := by decide +kernel
theorem dX3_fill_132 : decode cX3_fill 132 = .ok (.goto (-31), 3) := by decide +kernel
theorem dX3_fill_135 : decode cX3_fill 135 = .ok (.aload_n 0, 1) := by decide +kernel
theorem dX3_fill_136 : decode cX3_fill 136 = .ok (.aload_n 0, 1) := by decide +kernel
theorem dX3_fill_137 : decode cX3_fill 137 = .ok (.getfield 43, 3) := by decide +kernel
theorem dX3_fill_140 : decode cX3_fill 140 = .ok (.iload_n 1, 1) := by decide +kernel
theorem dX3_fill_141 : decode cX3_fill 141 = .ok (.iadd, 1) := by decide +kernel
theorem dX3_fill_142 : decode cX3_fill 142 = .ok (.putfield 43, 3) := by decide +kernel
theorem dX3_fill_145 : decode cX3_fill 145 = .ok (.return_, 1) := by decide +kernel
theorem dX3_at_0 : decode cX3_at 0 = .ok (.iload_n 1, 1) := by decide +kernel
theorem dX3_at_1 : decode cX3_at 1 = .ok (.ifCond .lt 20, 3) := by decide +kernel
theorem dX3_at_4 : decode cX3_at 4 = .ok (.iload_n 1, 1) := by decide +kernel
theorem dX3_at_5 : decode cX3_at 5 = .ok (.aload_n 0, 1) := by decide +kernel
theorem dX3_at_6 : decode cX3_at 6 = .ok (.getfield 43, 3) := by decide +kernel
theorem dX3_at_9 : decode cX3_at 9 = .ok (.if_icmp .ge 12, 3) := by decide +kernel
theorem dX3_at_12 : decode cX3_at 12 = .ok (.aload_n 0, 1) := by decide +kernel
theorem dX3_at_13 : decode cX3_at 13 = .ok (.getfield 13, 3) := by decide +kernel
theorem dX3_at_16 : decode cX3_at 16 = .ok (.iload_n 1, 1) := by decide +kernel
theorem dX3_at_17 : decode cX3_at 17 = .ok (.iaload, 1) := by decide +kernel
theorem dX3_at_18 : decode cX3_at 18 = .ok (.goto 4, 3) := by decide +kernel
theorem dX3_at_21 : decode cX3_at 21 = .ok (.iconst (-1), 1) := by decide +kernel
theorem dX3_at_22 : decode cX3_at 22 = .ok (.ireturn, 1) := by decide +kernel
set_option maxRecDepth 20000 in
theorem ggX3_digits_X3_infinite : GoodIn wsX3_digits wsX3_infinite := goodIn_r _ [5, 6, 7] (by decide +kernel) (by decide +kernel)
set_option maxRecDepth 20000 in
theorem gX3_digits_X3_infinite : GoodIn wsX3_digits (va_wsS RX3 61 yX3_infinite wsX3_infinite) := goodIn_app (goodIn_of _ (by decide +kernel)) ggX3_digits_X3_infinite
set_option maxRecDepth 20000 in
theorem ggX3_digits_X3_none : GoodIn wsX3_digits wsX3_none := goodIn_r _ [10, 6, 7] (by decide +kernel) (by decide +kernel)
set_option maxRecDepth 20000 in
theorem gX3_digits_X3_none : GoodIn wsX3_digits (va_wsS RX3 57 yX3_none wsX3_none) := goodIn_app (goodIn_of _ (by decide +kernel)) ggX3_digits_X3_none
set_option maxRecDepth 20000 in
theorem ggX3_digits_X3_spread : GoodIn wsX3_digits wsX3_spread := goodIn_r _ [14, 6, 7, 15, 1, 16, 17, 18, 19, 20, 21, 22, 4, 23, 24, 25, 26, 27, 28, 29, 30, 31, 32, 33, 34, 35, 36] (by decide +kernel) (by decide +kernel)
set_option maxRecDepth 20000 in
theorem gX3_digits_X3_spread : GoodIn wsX3_digits (wsV RX3 64 RX3 yX3_spread wsX3_spread) := goodIn_app (goodIn_of _ (by decide +kernel)) ggX3_digits_X3_spread
theorem dX3_digits_0 : decode cX3_digits 0 = .ok (.lload_n 1, 1) := by decide +kernel
theorem dX3_digits_1 : decode cX3_digits 1 = .ok (.invokestatic 61, 3) := by decide +kernel
theorem dX3_digits_4 : decode cX3_digits 4 = .ok (.ifCond .ne 10, 3) := by decide +kernel
theorem dX3_digits_7 : decode cX3_digits 7 = .ok (.lload_n 1, 1) := by decide +kernel
theorem dX3_digits_8 : decode cX3_digits 8 = .ok (.invokestatic 57, 3) := by decide +kernel
theorem dX3_digits_11 : decode cX3_digits 11 = .ok (.ifCond .eq 5, 3) := by decide +kernel
theorem dX3_digits_14 : decode cX3_digits 14 = .ok (.iconst (-1), 1) := by decide +kernel
theorem dX3_digits_15 : decode cX3_digits 15 = .ok (.ireturn, 1) := by decide +kernel
theorem dX3_digits_16 : decode cX3_digits 16 = .ok (.aload_n 0, 1) := by decide +kernel
theorem dX3_digits_17 : decode cX3_digits 17 = .ok (.lload_n 1, 1) := by decide +kernel
theorem dX3_digits_18 : decode cX3_digits 18 = .ok (.invokevirtual 64, 3) := by decide +kernel
theorem dX3_digits_21 : decode cX3_digits 21 = .ok (.aload_n 0, 1) := by decide +kernel
theorem dX3_digits_22 : decode cX3_digits 22 = .ok (.getfield 23, 3) := by decide +kernel
theorem dX3_digits_25 : decode cX3_digits 25 = .ok (.ireturn, 1) := by decide +kernel
theorem dJ9_abs_0f7a4_0 : decode cJ9_abs_0f7a4 0 = .ok (.iload_n 0, 1) := by decide +kernel
theorem dJ9_abs_0f7a4_1 : decode cJ9_abs_0f7a4 1 = .ok (.ifCond .ge 8, 3) := by decide +kernel
theorem dJ9_abs_0f7a4_4 : decode cJ9_abs_0f7a4 4 = .ok (.iload_n 0, 1) := by decide +kernel
theorem dJ9_abs_0f7a4_5 : decode cJ9_abs_0f7a4 5 = .ok (.ineg, 1) := by decide +kernel
theorem dJ9_abs_0f7a4_6 : decode cJ9_abs_0f7a4 6 = .ok (.goto 4, 3) := by decide +kernel
theorem dJ9_abs_0f7a4_9 : decode cJ9_abs_0f7a4 9 = .ok (.iload_n 0, 1) := by decide +kernel
theorem dJ9_abs_0f7a4_10 : decode cJ9_abs_0f7a4 10 = .ok (.ireturn, 1) := by decide +kernel
theorem dJ9_max_7cf53_0 : decode cJ9_max_7cf53 0 = .ok (.iload_n 0, 1) := by decide +kernel
theorem dJ9_max_7cf53_1 : decode cJ9_max_7cf53 1 = .ok (.iload_n 1, 1) := by decide +kernel
theorem dJ9_max_7cf53_2 : decode cJ9_max_7cf53 2 = .ok (.if_icmp .lt 7, 3) := by decide +kernel
theorem dJ9_max_7cf53_5 : decode cJ9_max_7cf53 5 = .ok (.iload_n 0, 1) := by decide +kernel
theorem dJ9_max_7cf53_6 : decode cJ9_max_7cf53 6 = .ok (.goto 4, 3) := by decide +kernel
theorem dJ9_max_7cf53_9 : decode cJ9_max_7cf53 9 = .ok (.iload_n 1, 1) := by decide +kernel
theorem dJ9_max_7cf53_10 : decode cJ9_max_7cf53 10 = .ok (.ireturn, 1) := by decide +kernel
theorem dJ7_fill_53178_0 : decode cJ7_fill_53178 0 = .ok (.iconst 0, 1) := by decide +kernel
theorem dJ7_fill_53178_1 : decode cJ7_fill_53178 1 = .ok (.istore_n 2, 1) := by decide +kernel
theorem dJ7_fill_53178_2 : decode cJ7_fill_53178 2 = .ok (.aload_n 0, 1) := by decide +kernel
theorem dJ7_fill_53178_3 : decode cJ7_fill_53178 3 = .ok (.arraylength, 1) := by decide +kernel
theorem dJ7_fill_53178_4 : decode cJ7_fill_53178 4 = .ok (.istore_n 3, 1) := by decide +kernel
theorem dJ7_fill_53178_5 : decode cJ7_fill_53178 5 = .ok (.iload_n 2, 1) := by decide +kernel
theorem dJ7_fill_53178_6 : decode cJ7_fill_53178 6 = .ok (.iload_n 3, 1) := by decide +kernel
theorem dJ7_fill_53178_7 : decode cJ7_fill_53178 7 = .ok (.if_icmp .ge 13, 3) := by decide +kernel
theorem dJ7_fill_53178_10 : decode cJ7_fill_53178 10 = .ok (.aload_n 0, 1) := by decide +kernel
theorem dJ7_fill_53178_11 : decode cJ7_fill_53178 11 = .ok (.iload_n 2, 1) := by decide +kernel
theorem dJ7_fill_53178_12 : decode cJ7_fill_53178 12 = .ok (.iload_n 1, 1) := by decide +kernel
theorem dJ7_fill_53178_13 : decode cJ7_fill_53178 13 = .ok (.iastore, 1) := by decide +kernel
theorem dJ7_fill_53178_14 : decode cJ7_fill_53178 14 = .ok (.iinc 2 1, 3) := by decide +kernel
theorem dJ7_fill_53178_17 : decode cJ7_fill_53178 17 = .ok (.goto (-12), 3) := by decide +kernel
theorem dJ7_fill_53178_20 : decode cJ7_fill_53178 20 = .ok (.return_, 1) := by decide +kernel
set_option maxRecDepth 20000 in
theorem ggL_law_X2_init : GoodIn wsL_law wsX2_init := goodIn_r _ [9, 10, 11, 12, 13, 14, 15, 16, 17, 18, 19, 20, 21, 22, 23, 24, 25, 26, 27, 28, 29, 30, 31, 32, 33, 34, 35, 36, 37, 282, 283, 284, 285, 286, 275, 276, 287, 288] (by decide +kernel) (by decide +kernel)
set_option maxRecDepth 20000 in
theorem gL_law_X2_init : GoodIn wsL_law (wsX2_init) := ggL_law_X2_init
set_option maxRecDepth 20000 in
theorem ggL_law_X3_init : GoodIn wsL_law wsX3_init := goodIn_r _ [40, 41, 11, 12, 42, 43, 25, 44, 277, 278, 279, 280, 281] (by decide +kernel) (by decide +kernel)
set_option maxRecDepth 20000 in
theorem gL_law_X3_init : GoodIn wsL_law (wsX3_init) := ggL_law_X3_init
set_option maxRecDepth 20000 in
theorem ggL_law_X2_make : GoodIn wsL_law wsX2_make := goodIn_r _ [48, 20, 16, 49, 50, 2, 51, 52, 53, 54, 55, 56, 57, 58, 59, 60, 61, 62, 63, 64, 65, 66, 67, 19, 68, 37, 69, 70, 71, 72, 73, 74, 75, 76, 36, 77, 78, 79, 80, 81, 82, 83, 84, 85, 86, 15, 87, 88, 89, 90, 91, 92, 93, 94, 95, 96, 30, 97, 98, 99, 100, 27, 101, 102, 103, 104, 105, 26, 106, 107, 108, 109, 110, 111, 112, 113, 114, 115, 116, 117, 118, 28, 29, 119, 120, 121, 122, 123, 124, 125, 126, 127, 128, 129, 130, 131, 132, 133, 134, 135, 136, 137, 138, 139, 140, 141, 142, 143, 144, 145, 146, 147, 148, 149, 150, 151, 152, 153, 154, 155, 156, 157, 158, 159, 160, 161, 162, 163, 164, 165, 166, 167, 168, 169, 170, 171, 172, 173, 174, 175, 176, 177, 178, 179, 180, 181, 182, 183, 184, 185, 186, 187, 188, 189, 190, 191, 192, 193, 194, 195, 196, 275, 276, 287, 288, 282, 283, 284, 285, 286] (by decide +kernel) (by decide +kernel)
set_option maxRecDepth 20000 in
theorem gL_law_X2_make : GoodIn wsL_law (wsV RL 15 RX2 yX2_make wsX2_make) := goodIn_app (goodIn_of _ (by decide +kernel)) ggL_law_X2_make
set_option maxRecDepth 20000 in
theorem ggL_law_X3_make : GoodIn wsL_law wsX3_make := goodIn_r _ [200, 201, 202, 203, 5, 204, 205, 206, 207, 208, 209, 210, 44, 211, 212, 213, 214, 215, 216, 217, 218, 219, 220, 43, 221, 222, 223, 224, 225, 226, 227, 228, 229, 230, 231, 232, 233, 234, 235, 236, 237, 238, 239, 240, 241, 242, 243, 244, 245, 246, 247, 248, 249, 250, 277, 278, 279, 280, 281] (by decide +kernel) (by decide +kernel)
set_option maxRecDepth 20000 in
theorem gL_law_X3_make : GoodIn wsL_law (wsV RL 19 RX3 yX3_make wsX3_make) := goodIn_app (goodIn_of _ (by decide +kernel)) ggL_law_X3_make
set_option maxRecDepth 20000 in
theorem ggL_law_X2_at : GoodIn wsL_law wsX2_at := goodIn_r _ [254, 20, 255, 256, 257, 19, 258, 37, 36, 275, 276, 287, 288] (by decide +kernel) (by decide +kernel)
set_option maxRecDepth 20000 in
theorem gL_law_X2_at : GoodIn wsL_law (wsV RL 20 RX2 yX2_at wsX2_at) := goodIn_app (goodIn_of _ (by decide +kernel)) ggL_law_X2_at
set_option maxRecDepth 20000 in
theorem ggL_law_X3_at : GoodIn wsL_law wsX3_at := goodIn_r _ [262, 201, 44, 277, 278, 279, 280, 281] (by decide +kernel) (by decide +kernel)
set_option maxRecDepth 20000 in
theorem gL_law_X3_at : GoodIn wsL_law (wsV RL 24 RX3 yX3_at wsX3_at) := goodIn_app (goodIn_of _ (by decide +kernel)) ggL_law_X3_at
set_option maxRecDepth 20000 in
theorem ggL_law_X2_digits : GoodIn wsL_law wsX2_digits := goodIn_r _ [266, 16, 59, 60, 2, 61, 62, 63, 64, 84, 85, 86, 15, 87, 88, 89, 90, 91, 92, 93, 94, 95, 96, 30, 97, 98, 99, 100, 27, 101, 102, 103, 104, 105, 26, 106, 107, 108, 109, 110, 111, 112, 113, 114, 115, 116, 117, 118, 28, 29, 119, 120, 121, 122, 123, 124, 125, 126, 267, 268, 269, 270, 148, 149, 150, 151, 144, 145, 146, 147, 275, 276, 282, 283, 284, 285, 286] (by decide +kernel) (by decide +kernel)
set_option maxRecDepth 20000 in
theorem gL_law_X2_digits : GoodIn wsL_law (wsV RL 25 RX2 yX2_digits wsX2_digits) := goodIn_app (goodIn_of _ (by decide +kernel)) ggL_law_X2_digits
set_option maxRecDepth 20000 in
theorem ggL_law_X3_digits : GoodIn wsL_law wsX3_digits := goodIn_r _ [274, 219, 211, 212, 5, 213, 205, 206, 202, 203, 204, 214, 215, 216, 217, 218, 220, 43, 221, 222, 223, 224, 225, 226, 227, 228, 229, 230, 231, 232, 233, 234, 277, 278, 279, 280, 281] (by decide +kernel) (by decide +kernel)
set_option maxRecDepth 20000 in
theorem gL_law_X3_digits : GoodIn wsL_law (wsV RL 29 RX3 yX3_digits wsX3_digits) := goodIn_app (goodIn_of _ (by decide +kernel)) ggL_law_X3_digits
end
section
theorem dL_law_0 : decode cL_law 0 = .ok (.new 7, 3) := by decide +kernel
theorem dL_law_3 : decode cL_law 3 = .ok (.dup, 1) := by decide +kernel
theorem dL_law_4 : decode cL_law 4 = .ok (.invokespecial 9, 3) := by decide +kernel
theorem dL_law_7 : decode cL_law 7 = .ok (.astore_n 1, 1) := by decide +kernel
theorem dL_law_8 : decode cL_law 8 = .ok (.new 10, 3) := by decide +kernel
theorem dL_law_11 : decode cL_law 11 = .ok (.dup, 1) := by decide +kernel
theorem dL_law_12 : decode cL_law 12 = .ok (.invokespecial 12, 3) := by decide +kernel
theorem dL_law_15 : decode cL_law 15 = .ok (.astore_n 2, 1) := by decide +kernel
theorem dL_law_16 : decode cL_law 16 = .ok (.iconst 0, 1) := by decide +kernel
theorem dL_law_17 : decode cL_law 17 = .ok (.istore_n 3, 1) := by decide +kernel
theorem dL_law_18 : decode cL_law 18 = .ok (.iload_n 3, 1) := by decide +kernel
theorem dL_law_19 : decode cL_law 19 = .ok (.aload_n 0, 1) := by decide +kernel
theorem dL_law_20 : decode cL_law 20 = .ok (.arraylength, 1) := by decide +kernel
theorem dL_law_21 : decode cL_law 21 = .ok (.bipush 7, 2) := by decide +kernel
theorem dL_law_23 : decode cL_law 23 = .ok (.isub, 1) := by decide +kernel
theorem dL_law_24 : decode cL_law 24 = .ok (.if_icmp .gt 213, 3) := by decide +kernel
theorem dL_law_27 : decode cL_law 27 = .ok (.aload_n 0, 1) := by decide +kernel
theorem dL_law_28 : decode cL_law 28 = .ok (.iload_n 3, 1) := by decide +kernel
theorem dL_law_29 : decode cL_law 29 = .ok (.iaload, 1) := by decide +kernel
theorem dL_law_30 : decode cL_law 30 = .ok (.iconst 3, 1) := by decide +kernel
theorem dL_law_31 : decode cL_law 31 = .ok (.iand, 1) := by decide +kernel
theorem dL_law_32 : decode cL_law 32 = .ok (.tableswitch 199 0 2 #[28, 123, 146], 28) := by decide +kernel
theorem dL_law_60 : decode cL_law 60 = .ok (.aload_n 1, 1) := by decide +kernel
theorem dL_law_61 : decode cL_law 61 = .ok (.aload_n 0, 1) := by decide +kernel
theorem dL_law_62 : decode cL_law 62 = .ok (.iload_n 3, 1) := by decide +kernel
theorem dL_law_63 : decode cL_law 63 = .ok (.iconst 1, 1) := by decide +kernel
theorem dL_law_64 : decode cL_law 64 = .ok (.iadd, 1) := by decide +kernel
theorem dL_law_65 : decode cL_law 65 = .ok (.iaload, 1) := by decide +kernel
theorem dL_law_66 : decode cL_law 66 = .ok (.i2l, 1) := by decide +kernel
theorem dL_law_67 : decode cL_law 67 = .ok (.bipush 32, 2) := by decide +kernel
theorem dL_law_69 : decode cL_law 69 = .ok (.lshl, 1) := by decide +kernel
theorem dL_law_70 : decode cL_law 70 = .ok (.aload_n 0, 1) := by decide +kernel
theorem dL_law_71 : decode cL_law 71 = .ok (.iload_n 3, 1) := by decide +kernel
theorem dL_law_72 : decode cL_law 72 = .ok (.iconst 2, 1) := by decide +kernel
theorem dL_law_73 : decode cL_law 73 = .ok (.iadd, 1) := by decide +kernel
theorem dL_law_74 : decode cL_law 74 = .ok (.iaload, 1) := by decide +kernel
theorem dL_law_75 : decode cL_law 75 = .ok (.i2l, 1) := by decide +kernel
theorem dL_law_76 : decode cL_law 76 = .ok (.ldc2_w 13, 3) := by decide +kernel
theorem dL_law_79 : decode cL_law 79 = .ok (.land, 1) := by decide +kernel
theorem dL_law_80 : decode cL_law 80 = .ok (.lor, 1) := by decide +kernel
theorem dL_law_81 : decode cL_law 81 = .ok (.aload_n 0, 1) := by decide +kernel
theorem dL_law_82 : decode cL_law 82 = .ok (.iload_n 3, 1) := by decide +kernel
theorem dL_law_83 : decode cL_law 83 = .ok (.iconst 3, 1) := by decide +kernel
theorem dL_law_84 : decode cL_law 84 = .ok (.iadd, 1) := by decide +kernel
theorem dL_law_85 : decode cL_law 85 = .ok (.iaload, 1) := by decide +kernel
theorem dL_law_86 : decode cL_law 86 = .ok (.aload_n 0, 1) := by decide +kernel
theorem dL_law_87 : decode cL_law 87 = .ok (.iload_n 3, 1) := by decide +kernel
theorem dL_law_88 : decode cL_law 88 = .ok (.iconst 4, 1) := by decide +kernel
theorem dL_law_89 : decode cL_law 89 = .ok (.iadd, 1) := by decide +kernel
theorem dL_law_90 : decode cL_law 90 = .ok (.iaload, 1) := by decide +kernel
theorem dL_law_91 : decode cL_law 91 = .ok (.aload_n 0, 1) := by decide +kernel
theorem dL_law_92 : decode cL_law 92 = .ok (.iload_n 3, 1) := by decide +kernel
theorem dL_law_93 : decode cL_law 93 = .ok (.iconst 5, 1) := by decide +kernel
theorem dL_law_94 : decode cL_law 94 = .ok (.iadd, 1) := by decide +kernel
theorem dL_law_95 : decode cL_law 95 = .ok (.iaload, 1) := by decide +kernel
theorem dL_law_96 : decode cL_law 96 = .ok (.aload_n 0, 1) := by decide +kernel
theorem dL_law_97 : decode cL_law 97 = .ok (.iload_n 3, 1) := by decide +kernel
theorem dL_law_98 : decode cL_law 98 = .ok (.bipush 6, 2) := by decide +kernel
theorem dL_law_100 : decode cL_law 100 = .ok (.iadd, 1) := by decide +kernel
theorem dL_law_101 : decode cL_law 101 = .ok (.iaload, 1) := by decide +kernel
theorem dL_law_102 : decode cL_law 102 = .ok (.invokevirtual 15, 3) := by decide +kernel
theorem dL_law_105 : decode cL_law 105 = .ok (.aload_n 2, 1) := by decide +kernel
theorem dL_law_106 : decode cL_law 106 = .ok (.aload_n 0, 1) := by decide +kernel
theorem dL_law_107 : decode cL_law 107 = .ok (.iload_n 3, 1) := by decide +kernel
theorem dL_law_108 : decode cL_law 108 = .ok (.iconst 1, 1) := by decide +kernel
theorem dL_law_109 : decode cL_law 109 = .ok (.iadd, 1) := by decide +kernel
theorem dL_law_110 : decode cL_law 110 = .ok (.iaload, 1) := by decide +kernel
theorem dL_law_111 : decode cL_law 111 = .ok (.i2l, 1) := by decide +kernel
theorem dL_law_112 : decode cL_law 112 = .ok (.bipush 32, 2) := by decide +kernel
theorem dL_law_114 : decode cL_law 114 = .ok (.lshl, 1) := by decide +kernel
theorem dL_law_115 : decode cL_law 115 = .ok (.aload_n 0, 1) := by decide +kernel
theorem dL_law_116 : decode cL_law 116 = .ok (.iload_n 3, 1) := by decide +kernel
theorem dL_law_117 : decode cL_law 117 = .ok (.iconst 2, 1) := by decide +kernel
theorem dL_law_118 : decode cL_law 118 = .ok (.iadd, 1) := by decide +kernel
theorem dL_law_119 : decode cL_law 119 = .ok (.iaload, 1) := by decide +kernel
theorem dL_law_120 : decode cL_law 120 = .ok (.i2l, 1) := by decide +kernel
theorem dL_law_121 : decode cL_law 121 = .ok (.ldc2_w 13, 3) := by decide +kernel
theorem dL_law_124 : decode cL_law 124 = .ok (.land, 1) := by decide +kernel
theorem dL_law_125 : decode cL_law 125 = .ok (.lor, 1) := by decide +kernel
theorem dL_law_126 : decode cL_law 126 = .ok (.aload_n 0, 1) := by decide +kernel
theorem dL_law_127 : decode cL_law 127 = .ok (.iload_n 3, 1) := by decide +kernel
theorem dL_law_128 : decode cL_law 128 = .ok (.iconst 3, 1) := by decide +kernel
theorem dL_law_129 : decode cL_law 129 = .ok (.iadd, 1) := by decide +kernel
theorem dL_law_130 : decode cL_law 130 = .ok (.iaload, 1) := by decide +kernel
theorem dL_law_131 : decode cL_law 131 = .ok (.aload_n 0, 1) := by decide +kernel
theorem dL_law_132 : decode cL_law 132 = .ok (.iload_n 3, 1) := by decide +kernel
theorem dL_law_133 : decode cL_law 133 = .ok (.iconst 4, 1) := by decide +kernel
theorem dL_law_134 : decode cL_law 134 = .ok (.iadd, 1) := by decide +kernel
theorem dL_law_135 : decode cL_law 135 = .ok (.iaload, 1) := by decide +kernel
theorem dL_law_136 : decode cL_law 136 = .ok (.aload_n 0, 1) := by decide +kernel
theorem dL_law_137 : decode cL_law 137 = .ok (.iload_n 3, 1) := by decide +kernel
theorem dL_law_138 : decode cL_law 138 = .ok (.iconst 5, 1) := by decide +kernel
theorem dL_law_139 : decode cL_law 139 = .ok (.iadd, 1) := by decide +kernel
theorem dL_law_140 : decode cL_law 140 = .ok (.iaload, 1) := by decide +kernel
theorem dL_law_141 : decode cL_law 141 = .ok (.aload_n 0, 1) := by decide +kernel
theorem dL_law_142 : decode cL_law 142 = .ok (.iload_n 3, 1) := by decide +kernel
theorem dL_law_143 : decode cL_law 143 = .ok (.bipush 6, 2) := by decide +kernel
theorem dL_law_145 : decode cL_law 145 = .ok (.iadd, 1) := by decide +kernel
theorem dL_law_146 : decode cL_law 146 = .ok (.iaload, 1) := by decide +kernel
theorem dL_law_147 : decode cL_law 147 = .ok (.invokevirtual 19, 3) := by decide +kernel
theorem dL_law_150 : decode cL_law 150 = .ok (.if_icmp .eq 81, 3) := by decide +kernel
theorem dL_law_153 : decode cL_law 153 = .ok (.iconst 0, 1) := by decide +kernel
theorem dL_law_154 : decode cL_law 154 = .ok (.ireturn, 1) := by decide +kernel
theorem dL_law_155 : decode cL_law 155 = .ok (.aload_n 1, 1) := by decide +kernel
theorem dL_law_156 : decode cL_law 156 = .ok (.aload_n 0, 1) := by decide +kernel
theorem dL_law_157 : decode cL_law 157 = .ok (.iload_n 3, 1) := by decide +kernel
theorem dL_law_158 : decode cL_law 158 = .ok (.iconst 1, 1) := by decide +kernel
theorem dL_law_159 : decode cL_law 159 = .ok (.iadd, 1) := by decide +kernel
theorem dL_law_160 : decode cL_law 160 = .ok (.iaload, 1) := by decide +kernel
theorem dL_law_161 : decode cL_law 161 = .ok (.invokevirtual 20, 3) := by decide +kernel
theorem dL_law_164 : decode cL_law 164 = .ok (.aload_n 2, 1) := by decide +kernel
theorem dL_law_165 : decode cL_law 165 = .ok (.aload_n 0, 1) := by decide +kernel
theorem dL_law_166 : decode cL_law 166 = .ok (.iload_n 3, 1) := by decide +kernel
theorem dL_law_167 : decode cL_law 167 = .ok (.iconst 1, 1) := by decide +kernel
theorem dL_law_168 : decode cL_law 168 = .ok (.iadd, 1) := by decide +kernel
theorem dL_law_169 : decode cL_law 169 = .ok (.iaload, 1) := by decide +kernel
theorem dL_law_170 : decode cL_law 170 = .ok (.invokevirtual 24, 3) := by decide +kernel
theorem dL_law_173 : decode cL_law 173 = .ok (.if_icmp .eq 58, 3) := by decide +kernel
theorem dL_law_176 : decode cL_law 176 = .ok (.iconst 0, 1) := by decide +kernel
theorem dL_law_177 : decode cL_law 177 = .ok (.ireturn, 1) := by decide +kernel
theorem dL_law_178 : decode cL_law 178 = .ok (.aload_n 1, 1) := by decide +kernel
theorem dL_law_179 : decode cL_law 179 = .ok (.aload_n 0, 1) := by decide +kernel
theorem dL_law_180 : decode cL_law 180 = .ok (.iload_n 3, 1) := by decide +kernel
theorem dL_law_181 : decode cL_law 181 = .ok (.iconst 1, 1) := by decide +kernel
theorem dL_law_182 : decode cL_law 182 = .ok (.iadd, 1) := by decide +kernel
theorem dL_law_183 : decode cL_law 183 = .ok (.iaload, 1) := by decide +kernel
theorem dL_law_184 : decode cL_law 184 = .ok (.i2l, 1) := by decide +kernel
theorem dL_law_185 : decode cL_law 185 = .ok (.bipush 32, 2) := by decide +kernel
theorem dL_law_187 : decode cL_law 187 = .ok (.lshl, 1) := by decide +kernel
theorem dL_law_188 : decode cL_law 188 = .ok (.aload_n 0, 1) := by decide +kernel
theorem dL_law_189 : decode cL_law 189 = .ok (.iload_n 3, 1) := by decide +kernel
theorem dL_law_190 : decode cL_law 190 = .ok (.iconst 2, 1) := by decide +kernel
theorem dL_law_191 : decode cL_law 191 = .ok (.iadd, 1) := by decide +kernel
theorem dL_law_192 : decode cL_law 192 = .ok (.iaload, 1) := by decide +kernel
theorem dL_law_193 : decode cL_law 193 = .ok (.i2l, 1) := by decide +kernel
theorem dL_law_194 : decode cL_law 194 = .ok (.ldc2_w 13, 3) := by decide +kernel
theorem dL_law_197 : decode cL_law 197 = .ok (.land, 1) := by decide +kernel
theorem dL_law_198 : decode cL_law 198 = .ok (.lor, 1) := by decide +kernel
theorem dL_law_199 : decode cL_law 199 = .ok (.invokevirtual 25, 3) := by decide +kernel
theorem dL_law_202 : decode cL_law 202 = .ok (.aload_n 2, 1) := by decide +kernel
theorem dL_law_203 : decode cL_law 203 = .ok (.aload_n 0, 1) := by decide +kernel
theorem dL_law_204 : decode cL_law 204 = .ok (.iload_n 3, 1) := by decide +kernel
theorem dL_law_205 : decode cL_law 205 = .ok (.iconst 1, 1) := by decide +kernel
theorem dL_law_206 : decode cL_law 206 = .ok (.iadd, 1) := by decide +kernel
theorem dL_law_207 : decode cL_law 207 = .ok (.iaload, 1) := by decide +kernel
theorem dL_law_208 : decode cL_law 208 = .ok (.i2l, 1) := by decide +kernel
theorem dL_law_209 : decode cL_law 209 = .ok (.bipush 32, 2) := by decide +kernel
theorem dL_law_211 : decode cL_law 211 = .ok (.lshl, 1) := by decide +kernel
theorem dL_law_212 : decode cL_law 212 = .ok (.aload_n 0, 1) := by decide +kernel
theorem dL_law_213 : decode cL_law 213 = .ok (.iload_n 3, 1) := by decide +kernel
theorem dL_law_214 : decode cL_law 214 = .ok (.iconst 2, 1) := by decide +kernel
theorem dL_law_215 : decode cL_law 215 = .ok (.iadd, 1) := by decide +kernel
theorem dL_law_216 : decode cL_law 216 = .ok (.iaload, 1) := by decide +kernel
theorem dL_law_217 : decode cL_law 217 = .ok (.i2l, 1) := by decide +kernel
theorem dL_law_218 : decode cL_law 218 = .ok (.ldc2_w 13, 3) := by decide +kernel
theorem dL_law_221 : decode cL_law 221 = .ok (.land, 1) := by decide +kernel
theorem dL_law_222 : decode cL_law 222 = .ok (.lor, 1) := by decide +kernel
theorem dL_law_223 : decode cL_law 223 = .ok (.invokevirtual 29, 3) := by decide +kernel
theorem dL_law_226 : decode cL_law 226 = .ok (.if_icmp .eq 5, 3) := by decide +kernel
theorem dL_law_229 : decode cL_law 229 = .ok (.iconst 0, 1) := by decide +kernel
theorem dL_law_230 : decode cL_law 230 = .ok (.ireturn, 1) := by decide +kernel
theorem dL_law_231 : decode cL_law 231 = .ok (.iinc 3 7, 3) := by decide +kernel
theorem dL_law_234 : decode cL_law 234 = .ok (.goto (-216), 3) := by decide +kernel
theorem dL_law_237 : decode cL_law 237 = .ok (.iconst 1, 1) := by decide +kernel
theorem dL_law_238 : decode cL_law 238 = .ok (.ireturn, 1) := by decide +kernel
end
section
/-! numbers of the machine by whole numbers: zI of an Int is an Int32, lI an Int64 -/
def zI (z : Int) : Int32 := Int32.ofInt z
def lI (z : Int) : Int64 := Int64.ofInt z
theorem zI_toInt {z : Int} (h : -2147483648 ≤ z ∧ z ≤ 2147483647) : (zI z).toInt = z := by
  unfold zI
  rw [Int32.toInt_ofInt]
  exact Jvm.Kit.bmod32 (by omega) (by omega)
theorem lI_toInt {z : Int} (h : -9223372036854775808 ≤ z ∧ z ≤ 9223372036854775807) : (lI z).toInt = z := by
  unfold lI
  rw [Int64.toInt_ofInt]
  exact Jvm.Kit.bmod64 (by omega) (by omega)
theorem zI_of (x : Int32) : ∃ z : Int, (-2147483648 ≤ z ∧ z ≤ 2147483647) ∧ x = zI z := by
  have h1 := x.le_toInt
  have h2 := x.toInt_lt
  exact ⟨x.toInt, ⟨by omega, by omega⟩, (Int32.ofInt_toInt x).symm⟩
theorem lI_of (x : Int64) : ∃ z : Int, (-9223372036854775808 ≤ z ∧ z ≤ 9223372036854775807) ∧ x = lI z := by
  have h1 := x.le_toInt
  have h2 := x.toInt_lt
  exact ⟨x.toInt, ⟨by omega, by omega⟩, (Int64.ofInt_toInt x).symm⟩
theorem zI_eq_of {x : Int32} {z : Int} (h : x.toInt = z) : x = zI z := by
  rw [← h]; exact (Int32.ofInt_toInt x).symm
theorem lI_eq_of {x : Int64} {z : Int} (h : x.toInt = z) : x = lI z := by
  rw [← h]; exact (Int64.ofInt_toInt x).symm
theorem zI_add (a b : Int) : zI a + zI b = zI (a + b) := (Int32.ofInt_add a b).symm
theorem zI_sub (a b : Int) : zI a - zI b = zI (a - b) := (Int32.ofInt_sub a b).symm
theorem zI_mul (a b : Int) : zI a * zI b = zI (a * b) := (Int32.ofInt_mul a b).symm
theorem zI_neg (a : Int) : -zI a = zI (-a) := (Int32.ofInt_neg a).symm
theorem lI_add (a b : Int) : lI a + lI b = lI (a + b) := (Int64.ofInt_add a b).symm
theorem lI_sub (a b : Int) : lI a - lI b = lI (a - b) := (Int64.ofInt_sub a b).symm
theorem lI_mul (a b : Int) : lI a * lI b = lI (a * b) := (Int64.ofInt_mul a b).symm
theorem zI_lt {a b : Int} (ha : -2147483648 ≤ a ∧ a ≤ 2147483647) (hb : -2147483648 ≤ b ∧ b ≤ 2147483647) : zI a < zI b ↔ a < b := by
  rw [Int32.lt_iff_toInt_lt, zI_toInt ha, zI_toInt hb]
theorem zI_le {a b : Int} (ha : -2147483648 ≤ a ∧ a ≤ 2147483647) (hb : -2147483648 ≤ b ∧ b ≤ 2147483647) : zI a ≤ zI b ↔ a ≤ b := by
  rw [Int32.le_iff_toInt_le, zI_toInt ha, zI_toInt hb]
theorem zI_eq {a b : Int} (ha : -2147483648 ≤ a ∧ a ≤ 2147483647) (hb : -2147483648 ≤ b ∧ b ≤ 2147483647) : zI a = zI b ↔ a = b := by
  constructor
  · intro h
    have h1 := zI_toInt ha
    rw [h, zI_toInt hb] at h1
    exact h1.symm
  · intro h; rw [h]
theorem lI_lt {a b : Int} (ha : -9223372036854775808 ≤ a ∧ a ≤ 9223372036854775807) (hb : -9223372036854775808 ≤ b ∧ b ≤ 9223372036854775807) : lI a < lI b ↔ a < b := by
  rw [Int64.lt_iff_toInt_lt, lI_toInt ha, lI_toInt hb]
theorem lI_le {a b : Int} (ha : -9223372036854775808 ≤ a ∧ a ≤ 9223372036854775807) (hb : -9223372036854775808 ≤ b ∧ b ≤ 9223372036854775807) : lI a ≤ lI b ↔ a ≤ b := by
  rw [Int64.le_iff_toInt_le, lI_toInt ha, lI_toInt hb]
theorem lI_eq {a b : Int} (ha : -9223372036854775808 ≤ a ∧ a ≤ 9223372036854775807) (hb : -9223372036854775808 ≤ b ∧ b ≤ 9223372036854775807) : lI a = lI b ↔ a = b := by
  constructor
  · intro h
    have h1 := lI_toInt ha
    rw [h, lI_toInt hb] at h1
    exact h1.symm
  · intro h; rw [h]
theorem zI_0 : zI 0 = 0 := rfl
theorem lI_0 : lI 0 = 0 := rfl
theorem zI_div {a b : Int} (ha : 0 ≤ a ∧ a ≤ 2147483647) (hb : 0 < b ∧ b ≤ 2147483647) : zI a / zI b = zI (a / b) := by
  apply zI_eq_of
  rw [Jvm.Kit.i32_div (by rw [zI_toInt (by omega), zI_toInt (by omega)]; omega), zI_toInt (by omega), zI_toInt (by omega)]
  exact Int.tdiv_eq_ediv_of_nonneg ha.1
theorem lI_div {a b : Int} (ha : 0 ≤ a ∧ a ≤ 9223372036854775807) (hb : 0 < b ∧ b ≤ 9223372036854775807) : lI a / lI b = lI (a / b) := by
  apply lI_eq_of
  rw [Jvm.Kit.i64_div (by rw [lI_toInt (by omega), lI_toInt (by omega)]; omega), lI_toInt (by omega), lI_toInt (by omega)]
  exact Int.tdiv_eq_ediv_of_nonneg ha.1
theorem zI_rem {a b : Int} (ha : 0 ≤ a ∧ a ≤ 2147483647) (hb : 0 < b ∧ b ≤ 2147483647) : zI a - zI a / zI b * zI b = zI (a % b) := by
  rw [zI_div ha hb, zI_mul, zI_sub, Int.emod_def, Int.mul_comm]
theorem lI_rem {a b : Int} (ha : 0 ≤ a ∧ a ≤ 9223372036854775807) (hb : 0 < b ∧ b ≤ 9223372036854775807) : lI a - lI a / lI b * lI b = lI (a % b) := by
  rw [lI_div ha hb, lI_mul, lI_sub, Int.emod_def, Int.mul_comm]
theorem zI_l (a : Int) (h : -2147483648 ≤ a ∧ a ≤ 2147483647) : (zI a).toInt64 = lI a := by
  apply lI_eq_of
  rw [Int32.toInt_toInt64, zI_toInt h]
theorem lI_i (a : Int) : (lI a).toInt32 = zI a := by
  first | exact Int64.toInt32_ofInt a | (unfold lI zI; simp) 
theorem zI_b {a : Int} (h : -128 ≤ a ∧ a ≤ 127) : (zI a).toInt8.toInt32 = zI a := by
  apply zI_eq_of
  rw [Int8.toInt_toInt32, Int32.toInt_toInt8, zI_toInt (by omega)]
  rw [Int.bmod_def]; omega
theorem zI_c {a : Int} (h : 0 ≤ a ∧ a ≤ 65535) : ((zI a).toUInt32 % 65536).toInt32 = zI a :=
  lg_i2c_word (by rw [zI_toInt (by omega)]; exact h.1) (by rw [zI_toInt (by omega)]; omega)
theorem zI_nb {a : Int} (h : -128 ≤ a ∧ a ≤ 127) : vp_nar .byte (zI a) = zI a := by rw [vp_nar_byte, zI_b h]
theorem zI_nc {a : Int} (h : 0 ≤ a ∧ a ≤ 65535) : vp_nar .char (zI a) = zI a := by
  rw [vp_nar_char, ← lg_i2c_nf, zI_c h]
theorem zI_in {z : Int} {n : Nat} (h : 0 ≤ z ∧ z < (n : Int)) (hn : n ≤ 2147483647) : vp_in (zI z) n := by
  rw [vp_in_iff, zI_toInt (by omega)]; exact h
theorem zI_cl {z : Int} (h : 0 ≤ z ∧ z ≤ 2147483647) : (zI z).toNatClampNeg = z.toNat := by
  have h1 : (zI z).toNatClampNeg = (zI z).toInt.toNat := rfl
  rw [h1, zI_toInt (by omega)]
theorem zI_nI (n : Nat) : zI (n : Int) = nI n := by
  unfold zI nI
  first | exact Int32.ofInt_eq_ofNat | rfl | simp
/-- a row of numbers by its Ints -/
def zA (r : Nat → Int) : Nat → Int32 := fun j => zI (r j)
def zu (r : Nat → Int) (k : Nat) (v : Int) : Nat → Int := fun j => if j = k then v else r j
theorem zu_s (r : Nat → Int) (k : Nat) (v : Int) : zu r k v k = v := if_pos rfl
theorem zu_n (r : Nat → Int) {k j : Nat} (v : Int) (h : j ≠ k) : zu r k v j = r j := if_neg h
theorem zA_upd (r : Nat → Int) (k : Nat) (v : Int) : upd (zA r) k (zI v) = zA (zu r k v) := by
  funext j
  unfold upd zA zu
  by_cases h : j = k
  · simp only [if_pos h]
  · simp only [if_neg h]
theorem lg_cmp_z (a b : Int) (ha : -9223372036854775808 ≤ a ∧ a ≤ 9223372036854775807) (hb : -9223372036854775808 ≤ b ∧ b ≤ 9223372036854775807) : lg_cmp (lI a) (lI b) = zI (if b < a then 1 else if a = b then 0 else -1) := by
  unfold lg_cmp
  have h1 : (lI a > lI b) ↔ b < a := lI_lt hb ha
  have h2 := lI_eq ha hb
  by_cases h3 : b < a
  · rw [if_pos (h1.mpr h3), if_pos h3]; rfl
  · rw [if_neg (fun h => h3 (h1.mp h)), if_neg h3]
    by_cases h4 : a = b
    · rw [if_pos (h2.mpr h4), if_pos h4]; rfl
    · rw [if_neg (fun h => h4 (h2.mp h)), if_neg h4]; rfl
/-- the one word of the tables that isn't among a method's words: Worth reads DecimalText's own exponentField -/
def zN (U : State) : Prop := va_Nw (.methodLinkNest RX1 28 yX2_exponentField "DecimalText") U
/-- what a world is in one word: the tables, the cells, that they are apart, what has changed, the nest's word -/
def zW (D : va_G) (tys : List (ClassId × FieldType)) (A : Nat → Prop) (s : State) (ws : va_W) (H : Heap) (locs : List Loc) : Prop :=
  va_K D vwCl tys s ∧ va_P D vwCl ws H ∧ va_D A ws ∧ va_S A s.heap H locs ∧ (∀ q : Nat, s.heap.size ≤ q → A q) ∧ zN s
section ZR
variable {p : Program} {l : Launch} {e : Env} {R : Room} {s : State} {m : MethodId} {args : Array Value} {below : List Frame} {meth : Method} {c : Code} {H : Heap} {locs : List Loc} {cells slots : Nat} {Q : State → Prop} {cc : ByteArray} {nL : Nat} {Ts : List Cond} {own : String} {pc : Nat} {ls : Array Slot} {rest : List Value}
theorem z_iconst (S : CallFix p m c cc nL s args Ts own) {n : Int} (hdg : decode cc pc = .ok (.iconst n, 1))  (k : W p l e R s m args below meth c H locs cells slots Q (F0 m (pc + 1) ls (.int (zI n) :: rest))) : W p l e R s m args below meth c H locs cells slots Q (F0 m pc ls (rest)) := lv_iconst S.1 S.2.1 hdg rfl k
theorem z_bipush (S : CallFix p m c cc nL s args Ts own) {n : Int} (hdg : decode cc pc = .ok (.bipush n, 2)) (hv : (Int8.ofInt n).toInt32 = zI n) (k : W p l e R s m args below meth c H locs cells slots Q (F0 m (pc + 2) ls (.int (zI n) :: rest))) : W p l e R s m args below meth c H locs cells slots Q (F0 m pc ls (rest)) := lv_bipush S.1 S.2.1 hdg hv k
theorem z_sipush (S : CallFix p m c cc nL s args Ts own) {n : Int} (hdg : decode cc pc = .ok (.sipush n, 3)) (hv : (Int16.ofInt n).toInt32 = zI n) (k : W p l e R s m args below meth c H locs cells slots Q (F0 m (pc + 3) ls (.int (zI n) :: rest))) : W p l e R s m args below meth c H locs cells slots Q (F0 m pc ls (rest)) := lv_sipush S.1 S.2.1 hdg hv k
theorem z_lconst (S : CallFix p m c cc nL s args Ts own) {n : Fin 2} {z : Int} (hdg : decode cc pc = .ok (.lconst n, 1)) (hv : Int64.ofNat (n : Nat) = lI z) (k : W p l e R s m args below meth c H locs cells slots Q (F0 m (pc + 1) ls (.long (lI z) :: rest))) : W p l e R s m args below meth c H locs cells slots Q (F0 m pc ls (rest)) := lv_lconst S.1 S.2.1 hdg hv k
theorem z_ldc (S : CallFix p m c cc nL s args Ts own) {index : Nat} {v : Int32} (z : Int) (hm : Cond.constant own index v ∈ Ts) (hv : v = zI z) (hdg : decode cc pc = .ok (.ldc index, 2)) (k : W p l e R s m args below meth c H locs cells slots Q (F0 m (pc + 2) ls (.int (zI z) :: rest))) : W p l e R s m args below meth c H locs cells slots Q (F0 m pc ls rest) := lv_ldc S.1 S.2.1 S.2.2.2.1 (S.2.2.2.2 _ hm) hdg (by rw [hv]; exact k)
theorem z_ldc2 (S : CallFix p m c cc nL s args Ts own) {index : Nat} {v : Int64} (z : Int) (hm : Cond.constantLong own index v ∈ Ts) (hv : v = lI z) (hdg : decode cc pc = .ok (.ldc2_w index, 3)) (k : W p l e R s m args below meth c H locs cells slots Q (F0 m (pc + 3) ls (.long (lI z) :: rest))) : W p l e R s m args below meth c H locs cells slots Q (F0 m pc ls rest) := lv_ldc2 S.1 S.2.1 S.2.2.2.1 (S.2.2.2.2 _ hm) hdg (by rw [hv]; exact k)
theorem z_iadd (S : CallFix p m c cc nL s args Ts own) {a b : Int} (hdg : decode cc pc = .ok (.iadd, 1))  (k : W p l e R s m args below meth c H locs cells slots Q (F0 m (pc + 1) ls (.int (zI (a + b)) :: rest))) : W p l e R s m args below meth c H locs cells slots Q (F0 m pc ls (.int (zI b) :: .int (zI a) :: rest)) := lv_iadd S.1 S.2.1 hdg (by rw [zI_add]; exact k)
theorem z_isub (S : CallFix p m c cc nL s args Ts own) {a b : Int} (hdg : decode cc pc = .ok (.isub, 1))  (k : W p l e R s m args below meth c H locs cells slots Q (F0 m (pc + 1) ls (.int (zI (a - b)) :: rest))) : W p l e R s m args below meth c H locs cells slots Q (F0 m pc ls (.int (zI b) :: .int (zI a) :: rest)) := lv_isub S.1 S.2.1 hdg (by rw [zI_sub]; exact k)
theorem z_imul (S : CallFix p m c cc nL s args Ts own) {a b : Int} (hdg : decode cc pc = .ok (.imul, 1))  (k : W p l e R s m args below meth c H locs cells slots Q (F0 m (pc + 1) ls (.int (zI (a * b)) :: rest))) : W p l e R s m args below meth c H locs cells slots Q (F0 m pc ls (.int (zI b) :: .int (zI a) :: rest)) := lv_imul S.1 S.2.1 hdg (by rw [zI_mul]; exact k)
theorem z_ladd (S : CallFix p m c cc nL s args Ts own) {a b : Int} (hdg : decode cc pc = .ok (.ladd, 1))  (k : W p l e R s m args below meth c H locs cells slots Q (F0 m (pc + 1) ls (.long (lI (a + b)) :: rest))) : W p l e R s m args below meth c H locs cells slots Q (F0 m pc ls (.long (lI b) :: .long (lI a) :: rest)) := lv_ladd S.1 S.2.1 hdg (by rw [lI_add]; exact k)
theorem z_lsub (S : CallFix p m c cc nL s args Ts own) {a b : Int} (hdg : decode cc pc = .ok (.lsub, 1))  (k : W p l e R s m args below meth c H locs cells slots Q (F0 m (pc + 1) ls (.long (lI (a - b)) :: rest))) : W p l e R s m args below meth c H locs cells slots Q (F0 m pc ls (.long (lI b) :: .long (lI a) :: rest)) := lv_lsub S.1 S.2.1 hdg (by rw [lI_sub]; exact k)
theorem z_lmul (S : CallFix p m c cc nL s args Ts own) {a b : Int} (hdg : decode cc pc = .ok (.lmul, 1))  (k : W p l e R s m args below meth c H locs cells slots Q (F0 m (pc + 1) ls (.long (lI (a * b)) :: rest))) : W p l e R s m args below meth c H locs cells slots Q (F0 m pc ls (.long (lI b) :: .long (lI a) :: rest)) := lv_lmul S.1 S.2.1 hdg (by rw [lI_mul]; exact k)
theorem z_ineg (S : CallFix p m c cc nL s args Ts own) {a : Int} (hdg : decode cc pc = .ok (.ineg, 1))  (k : W p l e R s m args below meth c H locs cells slots Q (F0 m (pc + 1) ls (.int (zI (-a)) :: rest))) : W p l e R s m args below meth c H locs cells slots Q (F0 m pc ls (.int (zI a) :: rest)) := lv_ineg S.1 S.2.1 hdg (by rw [zI_neg]; exact k)
theorem z_idiv (S : CallFix p m c cc nL s args Ts own) {a b : Int} (hdg : decode cc pc = .ok (.idiv, 1)) (ha : 0 ≤ a ∧ a ≤ 2147483647) (hb : 0 < b ∧ b ≤ 2147483647) (k : W p l e R s m args below meth c H locs cells slots Q (F0 m (pc + 1) ls (.int (zI (a / b)) :: rest))) : W p l e R s m args below meth c H locs cells slots Q (F0 m pc ls (.int (zI b) :: .int (zI a) :: rest)) := lv_idiv S.1 S.2.1 hdg (fun h => by have := (zI_eq (by omega) (by omega)).mp (h.trans zI_0.symm); omega) (by rw [zI_div ha hb]; exact k)
theorem z_irem (S : CallFix p m c cc nL s args Ts own) {a b : Int} (hdg : decode cc pc = .ok (.irem, 1)) (ha : 0 ≤ a ∧ a ≤ 2147483647) (hb : 0 < b ∧ b ≤ 2147483647) (k : W p l e R s m args below meth c H locs cells slots Q (F0 m (pc + 1) ls (.int (zI (a % b)) :: rest))) : W p l e R s m args below meth c H locs cells slots Q (F0 m pc ls (.int (zI b) :: .int (zI a) :: rest)) := lv_irem S.1 S.2.1 hdg (fun h => by have := (zI_eq (by omega) (by omega)).mp (h.trans zI_0.symm); omega) (by rw [zI_rem ha hb]; exact k)
theorem z_ldiv (S : CallFix p m c cc nL s args Ts own) {a b : Int} (hdg : decode cc pc = .ok (.ldiv, 1)) (ha : 0 ≤ a ∧ a ≤ 9223372036854775807) (hb : 0 < b ∧ b ≤ 9223372036854775807) (k : W p l e R s m args below meth c H locs cells slots Q (F0 m (pc + 1) ls (.long (lI (a / b)) :: rest))) : W p l e R s m args below meth c H locs cells slots Q (F0 m pc ls (.long (lI b) :: .long (lI a) :: rest)) := lv_ldiv S.1 S.2.1 hdg (fun h => by have := (lI_eq (by omega) (by omega)).mp (h.trans lI_0.symm); omega) (by rw [lI_div ha hb]; exact k)
theorem z_lrem (S : CallFix p m c cc nL s args Ts own) {a b : Int} (hdg : decode cc pc = .ok (.lrem, 1)) (ha : 0 ≤ a ∧ a ≤ 9223372036854775807) (hb : 0 < b ∧ b ≤ 9223372036854775807) (k : W p l e R s m args below meth c H locs cells slots Q (F0 m (pc + 1) ls (.long (lI (a % b)) :: rest))) : W p l e R s m args below meth c H locs cells slots Q (F0 m pc ls (.long (lI b) :: .long (lI a) :: rest)) := lv_lrem S.1 S.2.1 hdg (fun h => by have := (lI_eq (by omega) (by omega)).mp (h.trans lI_0.symm); omega) (by rw [lI_rem ha hb]; exact k)
theorem z_i2l (S : CallFix p m c cc nL s args Ts own) {a : Int} (hdg : decode cc pc = .ok (.i2l, 1)) (ha : -2147483648 ≤ a ∧ a ≤ 2147483647) (k : W p l e R s m args below meth c H locs cells slots Q (F0 m (pc + 1) ls (.long (lI a) :: rest))) : W p l e R s m args below meth c H locs cells slots Q (F0 m pc ls (.int (zI a) :: rest)) := lv_i2l S.1 S.2.1 hdg (zI_l a ha) k
theorem z_l2i (S : CallFix p m c cc nL s args Ts own) {a : Int} (hdg : decode cc pc = .ok (.l2i, 1))  (k : W p l e R s m args below meth c H locs cells slots Q (F0 m (pc + 1) ls (.int (zI a) :: rest))) : W p l e R s m args below meth c H locs cells slots Q (F0 m pc ls (.long (lI a) :: rest)) := lv_l2i S.1 S.2.1 hdg (lI_i a) k
theorem z_i2b (S : CallFix p m c cc nL s args Ts own) {a : Int} (hdg : decode cc pc = .ok (.i2b, 1)) (ha : -128 ≤ a ∧ a ≤ 127) (k : W p l e R s m args below meth c H locs cells slots Q (F0 m (pc + 1) ls (.int (zI a) :: rest))) : W p l e R s m args below meth c H locs cells slots Q (F0 m pc ls (.int (zI a) :: rest)) := lv_i2b S.1 S.2.1 hdg (zI_b ha) k
theorem z_i2c (S : CallFix p m c cc nL s args Ts own) {a : Int} (hdg : decode cc pc = .ok (.i2c, 1)) (ha : 0 ≤ a ∧ a ≤ 65535) (k : W p l e R s m args below meth c H locs cells slots Q (F0 m (pc + 1) ls (.int (zI a) :: rest))) : W p l e R s m args below meth c H locs cells slots Q (F0 m pc ls (.int (zI a) :: rest)) := lv_i2c S.1 S.2.1 hdg (zI_c ha) k
theorem z_lcmp (S : CallFix p m c cc nL s args Ts own) {a b : Int} (hdg : decode cc pc = .ok (.lcmp, 1)) (ha : -9223372036854775808 ≤ a ∧ a ≤ 9223372036854775807) (hb : -9223372036854775808 ≤ b ∧ b ≤ 9223372036854775807) (k : ∀ z : Int, ((z = 1 ∧ b < a) ∨ (z = 0 ∧ a = b) ∨ (z = -1 ∧ a < b)) → W p l e R s m args below meth c H locs cells slots Q (F0 m (pc + 1) ls (.int (zI z) :: rest))) : W p l e R s m args below meth c H locs cells slots Q (F0 m pc ls (.long (lI b) :: .long (lI a) :: rest)) := W.lcmp S.1 S.2.1 hdg (by
  rw [lg_cmp_z a b ha hb]
  apply k
  by_cases h1 : b < a
  · rw [if_pos h1]; exact Or.inl ⟨rfl, h1⟩
  · rw [if_neg h1]
    by_cases h2 : a = b
    · rw [if_pos h2]; exact Or.inr (Or.inl ⟨rfl, h2⟩)
    · rw [if_neg h2]; exact Or.inr (Or.inr ⟨rfl, by omega⟩))
theorem z_icmp_eq (S : CallFix p m c cc nL s args Ts own) {a b : Int} {off : Int} {tgt : Nat} (hdg : decode cc pc = .ok (.if_icmp .eq off, 3)) (ht : (pc : Int) + off = (tgt : Int)) (ha : -2147483648 ≤ a ∧ a ≤ 2147483647) (hb : -2147483648 ≤ b ∧ b ≤ 2147483647) (kt : a = b → W p l e R s m args below meth c H locs cells slots Q (F0 m tgt ls rest)) (kf : a ≠ b → W p l e R s m args below meth c H locs cells slots Q (F0 m (pc + 3) ls rest)) : W p l e R s m args below meth c H locs cells slots Q (F0 m pc ls (.int (zI b) :: .int (zI a) :: rest)) := lv_icmp_eq S.1 S.2.1 hdg ht (fun h => kt ((zI_eq ha hb).mp h)) (fun h => kf (fun q => h ((zI_eq ha hb).mpr q)))
theorem z_if_eq (S : CallFix p m c cc nL s args Ts own) {a : Int} {off : Int} {tgt : Nat} (hdg : decode cc pc = .ok (.ifCond .eq off, 3)) (ht : (pc : Int) + off = (tgt : Int)) (ha : -2147483648 ≤ a ∧ a ≤ 2147483647) (kt : a = 0 → W p l e R s m args below meth c H locs cells slots Q (F0 m tgt ls rest)) (kf : a ≠ 0 → W p l e R s m args below meth c H locs cells slots Q (F0 m (pc + 3) ls rest)) : W p l e R s m args below meth c H locs cells slots Q (F0 m pc ls (.int (zI a) :: rest)) := by
  have hb : (-2147483648 : Int) ≤ 0 ∧ (0 : Int) ≤ 2147483647 := by omega
  have kk : W p l e R s m args below meth c H locs cells slots Q (F0 m pc ls (.int (zI a) :: rest)) := lv_if_eq S.1 S.2.1 hdg ht (fun h => kt ((zI_eq ha hb).mp h)) (fun h => kf (fun q => h ((zI_eq ha hb).mpr q)))
  exact kk
theorem z_icmp_ne (S : CallFix p m c cc nL s args Ts own) {a b : Int} {off : Int} {tgt : Nat} (hdg : decode cc pc = .ok (.if_icmp .ne off, 3)) (ht : (pc : Int) + off = (tgt : Int)) (ha : -2147483648 ≤ a ∧ a ≤ 2147483647) (hb : -2147483648 ≤ b ∧ b ≤ 2147483647) (kt : a ≠ b → W p l e R s m args below meth c H locs cells slots Q (F0 m tgt ls rest)) (kf : a = b → W p l e R s m args below meth c H locs cells slots Q (F0 m (pc + 3) ls rest)) : W p l e R s m args below meth c H locs cells slots Q (F0 m pc ls (.int (zI b) :: .int (zI a) :: rest)) := lv_icmp_ne S.1 S.2.1 hdg ht (fun h => kt (fun q => h ((zI_eq ha hb).mpr q))) (fun h => kf ((zI_eq ha hb).mp h))
theorem z_if_ne (S : CallFix p m c cc nL s args Ts own) {a : Int} {off : Int} {tgt : Nat} (hdg : decode cc pc = .ok (.ifCond .ne off, 3)) (ht : (pc : Int) + off = (tgt : Int)) (ha : -2147483648 ≤ a ∧ a ≤ 2147483647) (kt : a ≠ 0 → W p l e R s m args below meth c H locs cells slots Q (F0 m tgt ls rest)) (kf : a = 0 → W p l e R s m args below meth c H locs cells slots Q (F0 m (pc + 3) ls rest)) : W p l e R s m args below meth c H locs cells slots Q (F0 m pc ls (.int (zI a) :: rest)) := by
  have hb : (-2147483648 : Int) ≤ 0 ∧ (0 : Int) ≤ 2147483647 := by omega
  have kk : W p l e R s m args below meth c H locs cells slots Q (F0 m pc ls (.int (zI a) :: rest)) := lv_if_ne S.1 S.2.1 hdg ht (fun h => kt (fun q => h ((zI_eq ha hb).mpr q))) (fun h => kf ((zI_eq ha hb).mp h))
  exact kk
theorem z_icmp_lt (S : CallFix p m c cc nL s args Ts own) {a b : Int} {off : Int} {tgt : Nat} (hdg : decode cc pc = .ok (.if_icmp .lt off, 3)) (ht : (pc : Int) + off = (tgt : Int)) (ha : -2147483648 ≤ a ∧ a ≤ 2147483647) (hb : -2147483648 ≤ b ∧ b ≤ 2147483647) (kt : a < b → W p l e R s m args below meth c H locs cells slots Q (F0 m tgt ls rest)) (kf : b ≤ a → W p l e R s m args below meth c H locs cells slots Q (F0 m (pc + 3) ls rest)) : W p l e R s m args below meth c H locs cells slots Q (F0 m pc ls (.int (zI b) :: .int (zI a) :: rest)) := lv_icmp_lt S.1 S.2.1 hdg ht (fun h => kt ((zI_lt ha hb).mp h)) (fun h => kf (Int.not_lt.mp (fun q => h ((zI_lt ha hb).mpr q))))
theorem z_if_lt (S : CallFix p m c cc nL s args Ts own) {a : Int} {off : Int} {tgt : Nat} (hdg : decode cc pc = .ok (.ifCond .lt off, 3)) (ht : (pc : Int) + off = (tgt : Int)) (ha : -2147483648 ≤ a ∧ a ≤ 2147483647) (kt : a < 0 → W p l e R s m args below meth c H locs cells slots Q (F0 m tgt ls rest)) (kf : 0 ≤ a → W p l e R s m args below meth c H locs cells slots Q (F0 m (pc + 3) ls rest)) : W p l e R s m args below meth c H locs cells slots Q (F0 m pc ls (.int (zI a) :: rest)) := by
  have hb : (-2147483648 : Int) ≤ 0 ∧ (0 : Int) ≤ 2147483647 := by omega
  have kk : W p l e R s m args below meth c H locs cells slots Q (F0 m pc ls (.int (zI a) :: rest)) := lv_if_lt S.1 S.2.1 hdg ht (fun h => kt ((zI_lt ha hb).mp h)) (fun h => kf (Int.not_lt.mp (fun q => h ((zI_lt ha hb).mpr q))))
  exact kk
theorem z_icmp_ge (S : CallFix p m c cc nL s args Ts own) {a b : Int} {off : Int} {tgt : Nat} (hdg : decode cc pc = .ok (.if_icmp .ge off, 3)) (ht : (pc : Int) + off = (tgt : Int)) (ha : -2147483648 ≤ a ∧ a ≤ 2147483647) (hb : -2147483648 ≤ b ∧ b ≤ 2147483647) (kt : b ≤ a → W p l e R s m args below meth c H locs cells slots Q (F0 m tgt ls rest)) (kf : a < b → W p l e R s m args below meth c H locs cells slots Q (F0 m (pc + 3) ls rest)) : W p l e R s m args below meth c H locs cells slots Q (F0 m pc ls (.int (zI b) :: .int (zI a) :: rest)) := lv_icmp_ge S.1 S.2.1 hdg ht (fun h => kt ((zI_le hb ha).mp h)) (fun h => kf (Int.not_le.mp (fun q => h ((zI_le hb ha).mpr q))))
theorem z_if_ge (S : CallFix p m c cc nL s args Ts own) {a : Int} {off : Int} {tgt : Nat} (hdg : decode cc pc = .ok (.ifCond .ge off, 3)) (ht : (pc : Int) + off = (tgt : Int)) (ha : -2147483648 ≤ a ∧ a ≤ 2147483647) (kt : 0 ≤ a → W p l e R s m args below meth c H locs cells slots Q (F0 m tgt ls rest)) (kf : a < 0 → W p l e R s m args below meth c H locs cells slots Q (F0 m (pc + 3) ls rest)) : W p l e R s m args below meth c H locs cells slots Q (F0 m pc ls (.int (zI a) :: rest)) := by
  have hb : (-2147483648 : Int) ≤ 0 ∧ (0 : Int) ≤ 2147483647 := by omega
  have kk : W p l e R s m args below meth c H locs cells slots Q (F0 m pc ls (.int (zI a) :: rest)) := lv_if_ge S.1 S.2.1 hdg ht (fun h => kt ((zI_le hb ha).mp h)) (fun h => kf (Int.not_le.mp (fun q => h ((zI_le hb ha).mpr q))))
  exact kk
theorem z_icmp_gt (S : CallFix p m c cc nL s args Ts own) {a b : Int} {off : Int} {tgt : Nat} (hdg : decode cc pc = .ok (.if_icmp .gt off, 3)) (ht : (pc : Int) + off = (tgt : Int)) (ha : -2147483648 ≤ a ∧ a ≤ 2147483647) (hb : -2147483648 ≤ b ∧ b ≤ 2147483647) (kt : b < a → W p l e R s m args below meth c H locs cells slots Q (F0 m tgt ls rest)) (kf : a ≤ b → W p l e R s m args below meth c H locs cells slots Q (F0 m (pc + 3) ls rest)) : W p l e R s m args below meth c H locs cells slots Q (F0 m pc ls (.int (zI b) :: .int (zI a) :: rest)) := lv_icmp_gt S.1 S.2.1 hdg ht (fun h => kt ((zI_lt hb ha).mp h)) (fun h => kf (Int.not_lt.mp (fun q => h ((zI_lt hb ha).mpr q))))
theorem z_if_gt (S : CallFix p m c cc nL s args Ts own) {a : Int} {off : Int} {tgt : Nat} (hdg : decode cc pc = .ok (.ifCond .gt off, 3)) (ht : (pc : Int) + off = (tgt : Int)) (ha : -2147483648 ≤ a ∧ a ≤ 2147483647) (kt : 0 < a → W p l e R s m args below meth c H locs cells slots Q (F0 m tgt ls rest)) (kf : a ≤ 0 → W p l e R s m args below meth c H locs cells slots Q (F0 m (pc + 3) ls rest)) : W p l e R s m args below meth c H locs cells slots Q (F0 m pc ls (.int (zI a) :: rest)) := by
  have hb : (-2147483648 : Int) ≤ 0 ∧ (0 : Int) ≤ 2147483647 := by omega
  have kk : W p l e R s m args below meth c H locs cells slots Q (F0 m pc ls (.int (zI a) :: rest)) := lv_if_gt S.1 S.2.1 hdg ht (fun h => kt ((zI_lt hb ha).mp h)) (fun h => kf (Int.not_lt.mp (fun q => h ((zI_lt hb ha).mpr q))))
  exact kk
theorem z_icmp_le (S : CallFix p m c cc nL s args Ts own) {a b : Int} {off : Int} {tgt : Nat} (hdg : decode cc pc = .ok (.if_icmp .le off, 3)) (ht : (pc : Int) + off = (tgt : Int)) (ha : -2147483648 ≤ a ∧ a ≤ 2147483647) (hb : -2147483648 ≤ b ∧ b ≤ 2147483647) (kt : a ≤ b → W p l e R s m args below meth c H locs cells slots Q (F0 m tgt ls rest)) (kf : b < a → W p l e R s m args below meth c H locs cells slots Q (F0 m (pc + 3) ls rest)) : W p l e R s m args below meth c H locs cells slots Q (F0 m pc ls (.int (zI b) :: .int (zI a) :: rest)) := lv_icmp_le S.1 S.2.1 hdg ht (fun h => kt ((zI_le ha hb).mp h)) (fun h => kf (Int.not_le.mp (fun q => h ((zI_le ha hb).mpr q))))
theorem z_if_le (S : CallFix p m c cc nL s args Ts own) {a : Int} {off : Int} {tgt : Nat} (hdg : decode cc pc = .ok (.ifCond .le off, 3)) (ht : (pc : Int) + off = (tgt : Int)) (ha : -2147483648 ≤ a ∧ a ≤ 2147483647) (kt : a ≤ 0 → W p l e R s m args below meth c H locs cells slots Q (F0 m tgt ls rest)) (kf : 0 < a → W p l e R s m args below meth c H locs cells slots Q (F0 m (pc + 3) ls rest)) : W p l e R s m args below meth c H locs cells slots Q (F0 m pc ls (.int (zI a) :: rest)) := by
  have hb : (-2147483648 : Int) ≤ 0 ∧ (0 : Int) ≤ 2147483647 := by omega
  have kk : W p l e R s m args below meth c H locs cells slots Q (F0 m pc ls (.int (zI a) :: rest)) := lv_if_le S.1 S.2.1 hdg ht (fun h => kt ((zI_le ha hb).mp h)) (fun h => kf (Int.not_le.mp (fun q => h ((zI_le ha hb).mpr q))))
  exact kk
variable {D : va_G} {tys : List (ClassId × FieldType)} {A : Nat → Prop} {ws : va_W} {a : Nat}
theorem z_get (S : CallFix p m c cc nL s args Ts own) (w : zW D tys A s ws H locs) (q0 : Nat) {ci : Nat} {fs : List Value} {C ref : String} {T : u_T} {N index : Nat} (he : ws[q0]? = some (a, .inr (ci, fs))) (hc : vwCl[ci]? = some (C, T, N)) (hin : ∀ w ∈ u_ws C T N, w ∈ Ts) (k : Nat) (hk : k < N) (hl : Cond.fieldLink own index ref (T k).2.1 (T k).2.2.1 ∈ Ts) (hr : (T k).1 = ref) {v : Value} (hv : fs[k]? = some v) (hdg : decode cc pc = .ok (.getfield index, 3)) (kk : W p l e R s m args below meth c H locs cells slots Q (F0 m (pc + 3) ls (v :: rest))) : W p l e R s m args below meth c H locs cells slots Q (F0 m pc ls (.ref a :: rest)) := va_get S.1 S.2.1 S.2.2.2.2 hin S.2.2.2.1 w.1 w.2.1 q0 he hc k hk (S.2.2.2.2 _ hl) (fun _ h => hr ▸ h) hv hdg kk
theorem z_put (S : CallFix p m c cc nL s args Ts own) (w : zW D tys A s ws H locs) (q0 : Nat) {ci : Nat} {fs : List Value} {C ref : String} {T : u_T} {N index : Nat} (he : ws[q0]? = some (a, .inr (ci, fs))) (hc : vwCl[ci]? = some (C, T, N)) (hin : ∀ w ∈ u_ws C T N, w ∈ Ts) {ty0 : Nat → FieldType} (hty : ∀ k, k < N → parseFieldDescriptor (T k).2.2.1 = some (ty0 k)) (hnm : ∀ a, a < N → ∀ b, b < N → a ≠ b → (T a).2.1 ≠ (T b).2.1) (k : Nat) (hk : k < N) (hl : Cond.fieldLink own index ref (T k).2.1 (T k).2.2.1 ∈ Ts) (hr : (T k).1 = ref) (hfin : (T k).2.2.2 = false) {v : Value} (hn : narrow (ty0 k) v = v) (hfit : fits (ty0 k) v = true) (hl2 : k < fs.length) (hdg : decode cc pc = .ok (.putfield index, 3)) (kk : ∀ (H : Heap) (locs : List Loc), zW D tys A s (ws.set q0 (a, .inr (ci, fs.set k v))) H locs → W p l e R s m args below meth c H locs cells slots Q (F0 m (pc + 3) ls rest)) : W p l e R s m args below meth c H locs cells slots Q (F0 m pc ls (v :: .ref a :: rest)) := va_put S.1 S.2.1 S.2.2.2.2 hin ty0 hty hnm S.2.2.2.1 w.1 w.2.1 w.2.2.1 w.2.2.2.1 q0 he hc k hk (S.2.2.2.2 _ hl) (fun _ h => hr ▸ h) hfin (hty k hk) hn hfit hl2 hdg (fun H1 l1 h1 h2 h3 => kk H1 l1 ⟨w.1, h1, h2, h3, w.2.2.2.2⟩)
theorem z_putF (S : CallFix p m c cc nL s args Ts own) (w : zW D tys A s ws H locs) (q0 : Nat) {ci : Nat} {fs : List Value} {C ref : String} {T : u_T} {N index : Nat} (he : ws[q0]? = some (a, .inr (ci, fs))) (hc : vwCl[ci]? = some (C, T, N)) (hin : ∀ w ∈ u_ws C T N, w ∈ Ts) {ty0 : Nat → FieldType} (hty : ∀ k, k < N → parseFieldDescriptor (T k).2.2.1 = some (ty0 k)) (hnm : ∀ a, a < N → ∀ b, b < N → a ≠ b → (T a).2.1 ≠ (T b).2.1) (k : Nat) (hk : k < N) (hl : Cond.fieldLink own index ref (T k).2.1 (T k).2.2.1 ∈ Ts) (hr : (T k).1 = ref) (hfin : (T k).2.2.2 = true) (hin2 : meth.name = "<init>") (hdecl : (T k).1 = own) {v : Value} (hn : narrow (ty0 k) v = v) (hfit : fits (ty0 k) v = true) (hl2 : k < fs.length) (hdg : decode cc pc = .ok (.putfield index, 3)) (kk : ∀ (H : Heap) (locs : List Loc), zW D tys A s (ws.set q0 (a, .inr (ci, fs.set k v))) H locs → W p l e R s m args below meth c H locs cells slots Q (F0 m (pc + 3) ls rest)) : W p l e R s m args below meth c H locs cells slots Q (F0 m pc ls (v :: .ref a :: rest)) := va_putF S.1 S.2.1 S.2.2.2.2 hin ty0 hty hnm S.2.2.2.1 w.1 w.2.1 w.2.2.1 w.2.2.2.1 q0 he hc k hk (S.2.2.2.2 _ hl) (fun _ h => hr ▸ h) hfin hin2 hdecl (hty k hk) hn hfit hl2 hdg (fun H1 l1 h1 h2 h3 => kk H1 l1 ⟨w.1, h1, h2, h3, w.2.2.2.2⟩)
theorem z_iald (S : CallFix p m c cc nL s args Ts own) (w : zW D tys A s ws H locs) (q0 t0 : Nat) {cA : ClassId} {n : Nat} {r : Nat → Int} (ha : ws[q0]? = some (a, .inl (cA, n, .inl (zA r)))) (ht : tys[t0]? = some (cA, .int)) {i : Int} (hi : 0 ≤ i ∧ i < (n : Int)) (hn : n ≤ 2147483647) (hdg : decode cc pc = .ok (.iaload, 1)) (kk : W p l e R s m args below meth c H locs cells slots Q (F0 m (pc + 1) ls (.int (zI (r i.toNat)) :: rest))) : W p l e R s m args below meth c H locs cells slots Q (F0 m pc ls (.int (zI i) :: .ref a :: rest)) := va_iald S.1 S.2.1 w.1 w.2.1 q0 t0 ha ht (zI_in hi hn) hdg (by rw [zI_cl (by omega)]; exact kk)
theorem z_bald (S : CallFix p m c cc nL s args Ts own) (w : zW D tys A s ws H locs) (q0 t0 : Nat) {cA : ClassId} {n : Nat} {r : Nat → Int} (ha : ws[q0]? = some (a, .inl (cA, n, .inl (zA r)))) (ht : tys[t0]? = some (cA, .byte)) {i : Int} (hi : 0 ≤ i ∧ i < (n : Int)) (hn : n ≤ 2147483647) (hdg : decode cc pc = .ok (.baload, 1)) (kk : W p l e R s m args below meth c H locs cells slots Q (F0 m (pc + 1) ls (.int (zI (r i.toNat)) :: rest))) : W p l e R s m args below meth c H locs cells slots Q (F0 m pc ls (.int (zI i) :: .ref a :: rest)) := va_bald S.1 S.2.1 w.1 w.2.1 q0 t0 ha ht (zI_in hi hn) hdg (by rw [zI_cl (by omega)]; exact kk)
theorem z_cald (S : CallFix p m c cc nL s args Ts own) (w : zW D tys A s ws H locs) (q0 t0 : Nat) {cA : ClassId} {n : Nat} {r : Nat → Int} (ha : ws[q0]? = some (a, .inl (cA, n, .inl (zA r)))) (ht : tys[t0]? = some (cA, .char)) {i : Int} (hi : 0 ≤ i ∧ i < (n : Int)) (hn : n ≤ 2147483647) (hdg : decode cc pc = .ok (.caload, 1)) (kk : W p l e R s m args below meth c H locs cells slots Q (F0 m (pc + 1) ls (.int (zI (r i.toNat)) :: rest))) : W p l e R s m args below meth c H locs cells slots Q (F0 m pc ls (.int (zI i) :: .ref a :: rest)) := va_cald S.1 S.2.1 w.1 w.2.1 q0 t0 ha ht (zI_in hi hn) hdg (by rw [zI_cl (by omega)]; exact kk)
theorem z_iast (S : CallFix p m c cc nL s args Ts own) (w : zW D tys A s ws H locs) (q0 t0 : Nat) {cA : ClassId} {n : Nat} {r : Nat → Int} (ha : ws[q0]? = some (a, .inl (cA, n, .inl (zA r)))) (ht : tys[t0]? = some (cA, .int)) {i x : Int} (hi : 0 ≤ i ∧ i < (n : Int)) (hn : n ≤ 2147483647)  (hdg : decode cc pc = .ok (.iastore, 1)) (kk : ∀ (H : Heap) (locs : List Loc), zW D tys A s (ws.set q0 (a, .inl (cA, n, .inl (zA (zu r i.toNat x))))) H locs → W p l e R s m args below meth c H locs cells slots Q (F0 m (pc + 1) ls rest)) : W p l e R s m args below meth c H locs cells slots Q (F0 m pc ls (.int (zI x) :: .int (zI i) :: .ref a :: rest)) := va_iast S.1 S.2.1 w.1 w.2.1 w.2.2.1 w.2.2.2.1 q0 t0 ha ht (zI_in hi hn) hdg (fun H1 l1 h1 h2 h3 => kk H1 l1 (by rw [zI_cl (by omega), zA_upd] at h1 h2; exact ⟨w.1, h1, h2, h3, w.2.2.2.2⟩))
theorem z_bast (S : CallFix p m c cc nL s args Ts own) (w : zW D tys A s ws H locs) (q0 t0 : Nat) {cA : ClassId} {n : Nat} {r : Nat → Int} (ha : ws[q0]? = some (a, .inl (cA, n, .inl (zA r)))) (ht : tys[t0]? = some (cA, .byte)) {i x : Int} (hi : 0 ≤ i ∧ i < (n : Int)) (hn : n ≤ 2147483647) (hx : -128 ≤ x ∧ x ≤ 127) (hdg : decode cc pc = .ok (.bastore, 1)) (kk : ∀ (H : Heap) (locs : List Loc), zW D tys A s (ws.set q0 (a, .inl (cA, n, .inl (zA (zu r i.toNat x))))) H locs → W p l e R s m args below meth c H locs cells slots Q (F0 m (pc + 1) ls rest)) : W p l e R s m args below meth c H locs cells slots Q (F0 m pc ls (.int (zI x) :: .int (zI i) :: .ref a :: rest)) := va_bast S.1 S.2.1 w.1 w.2.1 w.2.2.1 w.2.2.2.1 q0 t0 ha ht (zI_in hi hn) hdg (fun H1 l1 h1 h2 h3 => kk H1 l1 (by rw [zI_cl (by omega), zI_nb hx, zA_upd] at h1 h2; exact ⟨w.1, h1, h2, h3, w.2.2.2.2⟩))
theorem z_cast (S : CallFix p m c cc nL s args Ts own) (w : zW D tys A s ws H locs) (q0 t0 : Nat) {cA : ClassId} {n : Nat} {r : Nat → Int} (ha : ws[q0]? = some (a, .inl (cA, n, .inl (zA r)))) (ht : tys[t0]? = some (cA, .char)) {i x : Int} (hi : 0 ≤ i ∧ i < (n : Int)) (hn : n ≤ 2147483647) (hx : 0 ≤ x ∧ x ≤ 65535) (hdg : decode cc pc = .ok (.castore, 1)) (kk : ∀ (H : Heap) (locs : List Loc), zW D tys A s (ws.set q0 (a, .inl (cA, n, .inl (zA (zu r i.toNat x))))) H locs → W p l e R s m args below meth c H locs cells slots Q (F0 m (pc + 1) ls rest)) : W p l e R s m args below meth c H locs cells slots Q (F0 m pc ls (.int (zI x) :: .int (zI i) :: .ref a :: rest)) := va_cast S.1 S.2.1 w.1 w.2.1 w.2.2.1 w.2.2.2.1 q0 t0 ha ht (zI_in hi hn) hdg (fun H1 l1 h1 h2 h3 => kk H1 l1 (by rw [zI_cl (by omega), zI_nc hx, zA_upd] at h1 h2; exact ⟨w.1, h1, h2, h3, w.2.2.2.2⟩))
theorem z_alen (S : CallFix p m c cc nL s args Ts own) (w : zW D tys A s ws H locs) (q0 t0 : Nat) {cA : ClassId} {n : Nat} {x : (Nat → Int32) ⊕ (Nat → Int64) ⊕ (Nat → UInt32) ⊕ (Nat → UInt64) ⊕ (Nat → Option Nat)} (ha : ws[q0]? = some (a, .inl (cA, n, x))) {ty : FieldType} (ht : tys[t0]? = some (cA, ty)) (hdg : decode cc pc = .ok (.arraylength, 1)) (kk : W p l e R s m args below meth c H locs cells slots Q (F0 m (pc + 1) ls (.int (zI (n : Int)) :: rest))) : W p l e R s m args below meth c H locs cells slots Q (F0 m pc ls (.ref a :: rest)) := va_alen S.1 S.2.1 w.1 w.2.1 q0 t0 ha ht (zI_nI n).symm hdg kk
theorem z_iand (S : CallFix p m c cc nL s args Ts own) {a b : Int} (hdg : decode cc pc = .ok (.iand, 1)) {v : Int} (hv : zI a &&& zI b = zI v) (k : W p l e R s m args below meth c H locs cells slots Q (F0 m (pc + 1) ls (.int (zI v) :: rest))) : W p l e R s m args below meth c H locs cells slots Q (F0 m pc ls (.int (zI b) :: .int (zI a) :: rest)) := lv_iand S.1 S.2.1 hdg (by rw [hv]; exact k)
theorem z_land (S : CallFix p m c cc nL s args Ts own) {a b : Int} (hdg : decode cc pc = .ok (.land, 1)) {v : Int} (hv : lI a &&& lI b = lI v) (k : W p l e R s m args below meth c H locs cells slots Q (F0 m (pc + 1) ls (.long (lI v) :: rest))) : W p l e R s m args below meth c H locs cells slots Q (F0 m pc ls (.long (lI b) :: .long (lI a) :: rest)) := lv_land S.1 S.2.1 hdg (by rw [hv]; exact k)
theorem z_lor (S : CallFix p m c cc nL s args Ts own) {a b : Int} (hdg : decode cc pc = .ok (.lor, 1)) {v : Int} (hv : lI a ||| lI b = lI v) (k : W p l e R s m args below meth c H locs cells slots Q (F0 m (pc + 1) ls (.long (lI v) :: rest))) : W p l e R s m args below meth c H locs cells slots Q (F0 m pc ls (.long (lI b) :: .long (lI a) :: rest)) := lv_lor S.1 S.2.1 hdg (by rw [hv]; exact k)
theorem z_lushr (S : CallFix p m c cc nL s args Ts own) {a b : Int} (hdg : decode cc pc = .ok (.lushr, 1)) {v : Int} (hv : ((lI a).toUInt64 >>> ((zI b).toInt64.toUInt64 &&& Int64.toUInt64 63)).toInt64 = lI v) (k : W p l e R s m args below meth c H locs cells slots Q (F0 m (pc + 1) ls (.long (lI v) :: rest))) : W p l e R s m args below meth c H locs cells slots Q (F0 m pc ls (.int (zI b) :: .long (lI a) :: rest)) := lv_lushr S.1 S.2.1 hdg hv k
theorem z_lshr (S : CallFix p m c cc nL s args Ts own) {a b : Int} (hdg : decode cc pc = .ok (.lshr, 1)) {v : Int} (hv : lI a >>> ((zI b).toInt64 &&& 63) = lI v) (k : W p l e R s m args below meth c H locs cells slots Q (F0 m (pc + 1) ls (.long (lI v) :: rest))) : W p l e R s m args below meth c H locs cells slots Q (F0 m pc ls (.int (zI b) :: .long (lI a) :: rest)) := lv_lshr S.1 S.2.1 hdg hv k
theorem z_mmax (S : CallFix p m c cc nL s args Ts own) {index : Nat} (h1 : Cond.methodLink own index Lib.Math.max.name ∈ Ts) (h2 : Cond.static Lib.Math.max.name ∈ Ts) (h3 : Cond.initialized "java/lang/Math" ∈ Ts) (h4 : Cond.code Lib.Math.max.name Lib.Math.max.code 2 (some .int) ∈ Ts) (hsz : ls.size = nL) (hframes : 1 ≤ R.frames) (hlocals : (rest.map fun v => v.category).sum + 13 ≤ R.locals) (hc : cells ≤ R.cells) (hs : slots ≤ R.slots) {x y : Int} (hdg : decode cc pc = .ok (.invokestatic index, 3)) (hx : -2147483648 ≤ x ∧ x ≤ 2147483647) (hy : -2147483648 ≤ y ∧ y ≤ 2147483647) (kk : ∀ z : Int, ((x < y ∧ z = y) ∨ (y ≤ x ∧ z = x)) → W p l e R s m args below meth c H locs cells slots Q (F0 m (pc + 3) ls (.int (zI z) :: rest))) : W p l e R s m args below meth c H locs cells slots Q (F0 m pc ls (.int (zI y) :: .int (zI x) :: rest)) := va_mmax S.1 S.2.1 (S.2.2.1.trans hsz.symm) S.2.2.2.1 (S.2.2.2.2 _ h1) (S.2.2.2.2 _ h2) (S.2.2.2.2 _ h3) (S.2.2.2.2 _ h4) hframes hlocals hc hs hdg (by
  have e : (if zI x < zI y then zI y else zI x) = zI (if x < y then y else x) := by
    by_cases h : x < y
    · rw [if_pos h, if_pos ((zI_lt hx hy).mpr h)]
    · rw [if_neg h, if_neg (fun q => h ((zI_lt hx hy).mp q))]
  rw [e]
  apply kk
  by_cases h : x < y
  · rw [if_pos h]; exact Or.inl ⟨h, rfl⟩
  · rw [if_neg h]; exact Or.inr ⟨by omega, rfl⟩)
theorem z_mabs (S : CallFix p m c cc nL s args Ts own) {index : Nat} (h1 : Cond.methodLink own index Lib.Math.abs.name ∈ Ts) (h2 : Cond.static Lib.Math.abs.name ∈ Ts) (h3 : Cond.initialized "java/lang/Math" ∈ Ts) (h4 : Cond.code Lib.Math.abs.name Lib.Math.abs.code 1 (some .int) ∈ Ts) (hsz : ls.size = nL) (hframes : 1 ≤ R.frames) (hlocals : (rest.map fun v => v.category).sum + 13 ≤ R.locals) (hc : cells ≤ R.cells) (hs : slots ≤ R.slots) {x : Int} (hdg : decode cc pc = .ok (.invokestatic index, 3)) (hx : -2147483648 ≤ x ∧ x ≤ 2147483647) (kk : ∀ z : Int, ((0 ≤ x ∧ z = x) ∨ (x < 0 ∧ z = -x)) → W p l e R s m args below meth c H locs cells slots Q (F0 m (pc + 3) ls (.int (zI z) :: rest))) : W p l e R s m args below meth c H locs cells slots Q (F0 m pc ls (.int (zI x) :: rest)) := va_mabs S.1 S.2.1 (S.2.2.1.trans hsz.symm) S.2.2.2.1 (S.2.2.2.2 _ h1) (S.2.2.2.2 _ h2) (S.2.2.2.2 _ h3) (S.2.2.2.2 _ h4) hframes hlocals hc hs hdg (by
  have e : (if 0 ≤ zI x then zI x else 0 - zI x) = zI (if 0 ≤ x then x else -x) := by
    have h0 : (0 ≤ zI x) ↔ 0 ≤ x := zI_le (a := 0) (by omega) hx
    by_cases h : 0 ≤ x
    · rw [if_pos h, if_pos (h0.mpr h)]
    · rw [if_neg h, if_neg (fun q => h (h0.mp q)), ← zI_0, zI_sub, Int.zero_sub]
  rw [e]
  apply kk
  by_cases h : 0 ≤ x
  · rw [if_pos h]; exact Or.inl ⟨h, rfl⟩
  · rw [if_neg h]; exact Or.inr ⟨by omega, rfl⟩)
theorem zNar_bool {z : Int} (h : z = 0 ∨ z = 1) : narrow .boolean (.int (zI z)) = .int (zI z) := by rcases h with rfl | rfl <;> rfl
theorem zW.sub {H : Heap} {locs : List Loc} {ws ws' : va_W} (w : zW D tys A s ws H locs) (is : List Nat) (hn : va_nd is = true) (hs : is.map (fun i => ws[i]?) = ws'.map some) : zW D tys A s ws' H locs := ⟨w.1, fun k q h => by
  have h1 : (ws'.map some)[k]? = some (some q) := by rw [List.getElem?_map, h]; rfl
  rw [← hs, List.getElem?_map] at h1
  match hk : is[k]? with
  | none => rw [hk] at h1; exact absurd h1 (by simp)
  | some i => rw [hk] at h1; exact w.2.1 i q (by simpa using h1), w.2.2.1.sub is hn hs, w.2.2.2.1, w.2.2.2.2⟩
end ZR
end
section
def zPre (D : va_G) (tys : List (ClassId × FieldType)) (wc : va_W) (sz : Nat) : State → Prop := fun U => U.heap.size = sz ∧ va_P D vwCl wc U.heap ∧ va_K D vwCl tys U ∧ va_D (fun _ => True) wc ∧ zN U
def zEnd {T : Type} (D : va_G) (tys : List (ClassId × FieldType)) (wc : va_W) (sz : Nat) (wf : T → va_W) : T → State → Prop := fun u t => va_P D vwCl (wf u) t.heap ∧ va_K D vwCl tys t ∧ va_D (va_A wc sz) (wf u)
def zQv {T : Type} (D : va_G) (tys : List (ClassId × FieldType)) (wc : va_W) (sz : Nat) (post : T → Prop) (wf : T → va_W) : Array Value → State → Outcome → State → Prop := va_Qv post (zEnd D tys wc sz wf) (va_A wc sz)
def zQi {T : Type} (D : va_G) (tys : List (ClassId × FieldType)) (wc : va_W) (sz : Nat) (post : Int → T → Prop) (wf : T → va_W) : Array Value → State → Outcome → State → Prop := va_Qi (fun r u => ∃ z : Int, r = zI z ∧ post z u) (zEnd D tys wc sz wf) (va_A wc sz)
/-- a void method's contract -/
def zMv {T : Type} (l : Launch) (y : MethodName) (wds : List Cond) (rm : Room) (D : va_G) (tys : List (ClassId × FieldType)) (av : List Value) (wc : va_W) (post : T → Prop) (wf : T → va_W) (mc ms : Nat) : Prop :=
  ∀ sz : Nat, Met l y wds rm (va_Pc av (zPre D tys wc sz)) (zQv D tys wc sz post wf) mc ms (va_A wc sz)
/-- an int method's contract -/
def zMi {T : Type} (l : Launch) (y : MethodName) (wds : List Cond) (rm : Room) (D : va_G) (tys : List (ClassId × FieldType)) (av : List Value) (wc : va_W) (post : Int → T → Prop) (wf : T → va_W) (mc ms : Nat) : Prop :=
  ∀ sz : Nat, Met l y wds rm (va_Pc av (zPre D tys wc sz)) (zQi D tys wc sz post wf) mc ms (va_A wc sz)
theorem zPre.blind (D : va_G) (tys : List (ClassId × FieldType)) (av : List Value) (wc : va_W) (sz : Nat) : FrameBlind (va_Pc av (zPre D tys wc sz)) := by
  intro a U g mk q
  obtain ⟨q0, q1, qP, qK, qD, qN⟩ := q
  exact ⟨q0, q1, qP, va_K.moved (u := U) (U := U.calling g mk a) (Vm.Alike.refl U.vm) qK, qD, va_Nw.same (u := U) (U := U.calling g mk a) rfl rfl qN⟩
theorem zPre.at {D : va_G} {tys tysC : List (ClassId × FieldType)} {A : Nat → Prop} {s : State} {ws wc : va_W} {H : Heap} {locs : List Loc} (w : zW D tys A s ws H locs) (av : List Value) (isT isC : List Nat) (hT : isT.filterMap (fun i => tys[i]?) = tysC) (hC : isC.map (fun i => ws[i]?) = wc.map some) (hCn : va_nd isC = true) : ∀ U : State, U.heap = H → s.WarmedH U.vm → va_Pc av (zPre D tysC wc H.size) av.toArray U := by
  intro U hU hW
  have hc := w.sub isC hCn hC
  exact ⟨rfl, by rw [hU], by rw [hU]; exact hc.2.1, va_K.moved hW.alike (w.1.sub isT hT), hc.2.2.1.weaken (fun _ _ _ _ => trivial), va_Nw.warmM hW w.2.2.2.2.2⟩
theorem zW.join {T : Type} {D : va_G} {tys tysC : List (ClassId × FieldType)} {A : Nat → Prop} {s t : State} {H H1 : Heap} {locs locs1 : List Loc} {ws wc wr : va_W} {wf wn : T → va_W} (w : zW D tys A s ws H locs) (isC isR isN : List Nat) (hC : isC.map (fun i => ws[i]?) = wc.map some) (hRr : isR.map (fun i => ws[i]?) = wr.map some) (hRn : va_nd isR = true) (hdis : ∀ i ∈ isR, i ∉ isC) (hN : ∀ u, isN.map (fun i => (wr ++ wf u)[i]?) = (wn u).map some) (hNn : va_nd isN = true) (u : T) (ht : t.heap = H1) (hB : zEnd D tysC wc H.size wf u t) (hk1 : ∀ q : Nat, q < H.size → ¬ va_A wc H.size q → H1[q]? = H[q]?) (hS1 : va_S A s.heap H1 locs1) : zW D tys A s (wn u) H1 locs1 := by
  obtain ⟨hP1, hK1, hD1⟩ := hB
  rw [ht] at hP1
  obtain ⟨hP2, hD2⟩ := va_join (wr := wr) (w1 := wf u) w.2.1 w.2.2.1 isC isR hC hRr hRn hdis hk1 (va_free (wc := wc) w.2.2.1 w.2.2.2.1 w.2.2.2.2.1 isC hC) hP1 hD1
  exact zW.sub ⟨w.1, hP2, hD2, hS1, w.2.2.2.2⟩ isN hNn (hN u)
section ZC
variable {p : Program} {l : Launch} {e : Env} {R : Room} {s : State} {m : MethodId} {args : Array Value} {below : List Frame} {meth : Method} {c : Code} {H : Heap} {locs : List Loc} {cells slots : Nat} {Q : State → Prop} {cc : ByteArray} {nL : Nat} {Ts : List Cond} {own : String} {pc : Nat} {ls : Array Slot} {rest : List Value} {D : va_G} {tys tysC : List (ClassId × FieldType)} {A : Nat → Prop} {ws wc wr : va_W}
  {T : Type} {wf wn : T → va_W} {y : MethodName} {wds ws' : List Cond} {rm : Room} {index maxL mc ms n b ci : Nat} {bytes : ByteArray} {ret : Option FieldType} {As st : List Value} {C : String} {fs : List Value} {qc : vw_C}
theorem z_callvV {post : T → Prop} (S : CallFix p m c cc nL s args Ts own) (w : zW D tys A s ws H locs) (hM : zMv l y wds rm D tysC (.ref b :: As) wc post wf mc ms) (hG : GoodIn Ts (wsV own index C y wds)) (hd : y.cls = C ∧ y.cls ≠ "java/lang/invoke/MethodHandle" ∧ y.cls ≠ "java/lang/invoke/VarHandle" ∧ (parseMethodDescriptor y.desc).map (fun d => d.parameters.length) = some n) (hwy : wds = Cond.code y bytes maxL ret :: ws') (hrm : rm.cells = mc ∧ rm.slots = ms) (hR : rm.frames + 1 ≤ R.frames ∧ 8 + (maxL + 11) + rm.locals ≤ R.locals) (isT isC isR isN : List Nat) (hT : isT.filterMap (fun i => tys[i]?) = tysC) (hC : isC.map (fun i => ws[i]?) = wc.map some) (hCn : va_nd isC = true) (hRr : isR.map (fun i => ws[i]?) = wr.map some) (hRn : va_nd isR = true) (hdis : ∀ i ∈ isR, i ∉ isC) (hN : ∀ u, isN.map (fun i => (wr ++ wf u)[i]?) = (wn u).map some) (hNn : va_nd isN = true) (hrec : wc[0]? = some (b, .inr (ci, fs))) (hci : vwCl[ci]? = some qc) (hq : qc.1 = C) (hn : As.length = n) (hsz : ls.size = nL) (hcat : (rest.map fun v => v.category).sum ≤ 8) (hf : cells + mc ≤ R.cells ∧ slots + ms ≤ R.slots) (hst : st = As.reverse ++ .ref b :: rest) (hdg : decode cc pc = .ok (.invokevirtual index, 3)) (kk : ∀ (u : T) (H : Heap) (locs : List Loc), post u → zW D tys A s (wn u) H locs → W p l e R s m args below meth c H locs (cells + mc) (slots + ms) Q (F0 m (pc + 3) ls rest)) : W p l e R s m args below meth c H locs cells slots Q (F0 m pc ls st) := by
  subst hst
  have hrv := va_recv (w.1.sub isT hT) (w.sub isC hCn hC).2.1 hci hrec
  rw [hq] at hrv
  exact va_callv (va_runV (As := As) (rest := rest) S (hM H.size) (cwV n S.2.2.2.2 hG hwy hrm.1 hrm.2 hd hR) ⟨zPre.blind D tysC _ wc H.size, hrv, zPre.at w _ isT isC hT hC hCn⟩ rfl hn hsz rfl (lv_room hcat) hdg hf) w.2.2.2.1 (fun q _ h => (va_free (wc := wc) w.2.2.1 w.2.2.2.1 w.2.2.2.2.1 isC hC) q h) (va_free (wc := wc) w.2.2.1 w.2.2.2.1 w.2.2.2.2.1 isC hC) (fun u t H1 locs1 ht hvm hw hB hz1 hk1 hS1 => kk u H1 locs1 hw (w.join isC isR isN hC hRr hRn hdis hN hNn u ht hB hk1 hS1))
theorem z_callvS {post : T → Prop} (S : CallFix p m c cc nL s args Ts own) (w : zW D tys A s ws H locs) (hM : zMv l y wds rm D tysC As wc post wf mc ms) (hG : GoodIn Ts (va_wsS own index y wds)) (hd : y.cls ≠ "java/lang/invoke/MethodHandle" ∧ y.cls ≠ "java/lang/invoke/VarHandle" ∧ (parseMethodDescriptor y.desc).map (fun d => d.parameters.length) = some n) (hwy : wds = Cond.code y bytes maxL ret :: ws') (hrm : rm.cells = mc ∧ rm.slots = ms) (hR : rm.frames + 1 ≤ R.frames ∧ 8 + (maxL + 11) + rm.locals ≤ R.locals) (isT isC isR isN : List Nat) (hT : isT.filterMap (fun i => tys[i]?) = tysC) (hC : isC.map (fun i => ws[i]?) = wc.map some) (hCn : va_nd isC = true) (hRr : isR.map (fun i => ws[i]?) = wr.map some) (hRn : va_nd isR = true) (hdis : ∀ i ∈ isR, i ∉ isC) (hN : ∀ u, isN.map (fun i => (wr ++ wf u)[i]?) = (wn u).map some) (hNn : va_nd isN = true) (hn : As.length = n) (hsz : ls.size = nL) (hcat : (rest.map fun v => v.category).sum ≤ 8) (hf : cells + mc ≤ R.cells ∧ slots + ms ≤ R.slots) (hst : st = As.reverse ++ rest) (hdg : decode cc pc = .ok (.invokestatic index, 3)) (kk : ∀ (u : T) (H : Heap) (locs : List Loc), post u → zW D tys A s (wn u) H locs → W p l e R s m args below meth c H locs (cells + mc) (slots + ms) Q (F0 m (pc + 3) ls rest)) : W p l e R s m args below meth c H locs cells slots Q (F0 m pc ls st) := by
  subst hst
  exact va_callv (va_runS (As := As) (rest := rest) S (hM H.size) (va_cwS n S.2.2.2.2 hG hwy hrm.1 hrm.2 hd hR) ⟨zPre.blind D tysC _ wc H.size, zPre.at w _ isT isC hT hC hCn⟩ rfl hn hsz rfl (lv_room hcat) hdg hf) w.2.2.2.1 (fun q _ h => (va_free (wc := wc) w.2.2.1 w.2.2.2.1 w.2.2.2.2.1 isC hC) q h) (va_free (wc := wc) w.2.2.1 w.2.2.2.1 w.2.2.2.2.1 isC hC) (fun u t H1 locs1 ht hvm hw hB hz1 hk1 hS1 => kk u H1 locs1 hw (w.join isC isR isN hC hRr hRn hdis hN hNn u ht hB hk1 hS1))
theorem z_callvI {post : T → Prop} (S : CallFix p m c cc nL s args Ts own) (w : zW D tys A s ws H locs) (hM : zMv l y wds rm D tysC (.ref b :: As) wc post wf mc ms) (hG : GoodIn Ts wds) (hlk : Cond.methodLink own index y ∈ Ts) (him : Cond.instanceMethod y ∈ Ts) (hini : Cond.initialized y.cls ∈ Ts) (hnm : y.name = "<init>") (hd : y.cls ≠ "java/lang/invoke/MethodHandle" ∧ y.cls ≠ "java/lang/invoke/VarHandle" ∧ (parseMethodDescriptor y.desc).map (fun d => d.parameters.length) = some n) (hwy : wds = Cond.code y bytes maxL none :: ws') (hrm : rm.cells = mc ∧ rm.slots = ms) (hR : rm.frames + 1 ≤ R.frames ∧ 8 + (maxL + 11) + rm.locals ≤ R.locals) (isT isC isR isN : List Nat) (hT : isT.filterMap (fun i => tys[i]?) = tysC) (hC : isC.map (fun i => ws[i]?) = wc.map some) (hCn : va_nd isC = true) (hRr : isR.map (fun i => ws[i]?) = wr.map some) (hRn : va_nd isR = true) (hdis : ∀ i ∈ isR, i ∉ isC) (hN : ∀ u, isN.map (fun i => (wr ++ wf u)[i]?) = (wn u).map some) (hNn : va_nd isN = true) (hn : As.length = n) (hsz : ls.size = nL) (hcat : (rest.map fun v => v.category).sum ≤ 8) (hf : cells + mc ≤ R.cells ∧ slots + ms ≤ R.slots) (hst : st = As.reverse ++ .ref b :: rest) (hdg : decode cc pc = .ok (.invokespecial index, 3)) (kk : ∀ (u : T) (H : Heap) (locs : List Loc), post u → zW D tys A s (wn u) H locs → W p l e R s m args below meth c H locs (cells + mc) (slots + ms) Q (F0 m (pc + 3) ls rest)) : W p l e R s m args below meth c H locs cells slots Q (F0 m pc ls st) := by
  subst hst
  exact va_callv (va_runI (As := As) (rest := rest) S (hM H.size) (cwI n S.2.2.2.2 hG hwy hrm.1 hrm.2 (S.2.2.2.2 _ hini) (S.2.2.2.2 _ hlk) (S.2.2.2.2 _ him) hnm hd hR) ⟨zPre.blind D tysC _ wc H.size, zPre.at w _ isT isC hT hC hCn⟩ rfl hn hsz rfl (lv_room hcat) hdg hf) w.2.2.2.1 (fun q _ h => (va_free (wc := wc) w.2.2.1 w.2.2.2.1 w.2.2.2.2.1 isC hC) q h) (va_free (wc := wc) w.2.2.1 w.2.2.2.1 w.2.2.2.2.1 isC hC) (fun u t H1 locs1 ht hvm hw hB hz1 hk1 hS1 => kk u H1 locs1 hw (w.join isC isR isN hC hRr hRn hdis hN hNn u ht hB hk1 hS1))
theorem z_calliV {post : Int → T → Prop} (S : CallFix p m c cc nL s args Ts own) (w : zW D tys A s ws H locs) (hM : zMi l y wds rm D tysC (.ref b :: As) wc post wf mc ms) (hG : GoodIn Ts (wsV own index C y wds)) (hd : y.cls = C ∧ y.cls ≠ "java/lang/invoke/MethodHandle" ∧ y.cls ≠ "java/lang/invoke/VarHandle" ∧ (parseMethodDescriptor y.desc).map (fun d => d.parameters.length) = some n) (hwy : wds = Cond.code y bytes maxL ret :: ws') (hrm : rm.cells = mc ∧ rm.slots = ms) (hR : rm.frames + 1 ≤ R.frames ∧ 8 + (maxL + 11) + rm.locals ≤ R.locals) (isT isC isR isN : List Nat) (hT : isT.filterMap (fun i => tys[i]?) = tysC) (hC : isC.map (fun i => ws[i]?) = wc.map some) (hCn : va_nd isC = true) (hRr : isR.map (fun i => ws[i]?) = wr.map some) (hRn : va_nd isR = true) (hdis : ∀ i ∈ isR, i ∉ isC) (hN : ∀ u, isN.map (fun i => (wr ++ wf u)[i]?) = (wn u).map some) (hNn : va_nd isN = true) (hrec : wc[0]? = some (b, .inr (ci, fs))) (hci : vwCl[ci]? = some qc) (hq : qc.1 = C) (hn : As.length = n) (hsz : ls.size = nL) (hcat : (rest.map fun v => v.category).sum ≤ 8) (hf : cells + mc ≤ R.cells ∧ slots + ms ≤ R.slots) (hst : st = As.reverse ++ .ref b :: rest) (hdg : decode cc pc = .ok (.invokevirtual index, 3)) (kk : ∀ (z : Int) (u : T) (H : Heap) (locs : List Loc), post z u → zW D tys A s (wn u) H locs → W p l e R s m args below meth c H locs (cells + mc) (slots + ms) Q (F0 m (pc + 3) ls (.int (zI z) :: rest))) : W p l e R s m args below meth c H locs cells slots Q (F0 m pc ls st) := by
  subst hst
  have hrv := va_recv (w.1.sub isT hT) (w.sub isC hCn hC).2.1 hci hrec
  rw [hq] at hrv
  exact va_calli (va_runV (As := As) (rest := rest) S (hM H.size) (cwV n S.2.2.2.2 hG hwy hrm.1 hrm.2 hd hR) ⟨zPre.blind D tysC _ wc H.size, hrv, zPre.at w _ isT isC hT hC hCn⟩ rfl hn hsz rfl (lv_room hcat) hdg hf) w.2.2.2.1 (fun q _ h => (va_free (wc := wc) w.2.2.1 w.2.2.2.1 w.2.2.2.2.1 isC hC) q h) (va_free (wc := wc) w.2.2.1 w.2.2.2.1 w.2.2.2.2.1 isC hC) (fun r u t H1 locs1 ht hvm hw hB hz1 hk1 hS1 => by
    obtain ⟨z, rfl, hz⟩ := hw
    exact kk z u H1 locs1 hz (w.join isC isR isN hC hRr hRn hdis hN hNn u ht hB hk1 hS1))
theorem z_calliS {post : Int → T → Prop} (S : CallFix p m c cc nL s args Ts own) (w : zW D tys A s ws H locs) (hM : zMi l y wds rm D tysC As wc post wf mc ms) (hG : GoodIn Ts (va_wsS own index y wds)) (hd : y.cls ≠ "java/lang/invoke/MethodHandle" ∧ y.cls ≠ "java/lang/invoke/VarHandle" ∧ (parseMethodDescriptor y.desc).map (fun d => d.parameters.length) = some n) (hwy : wds = Cond.code y bytes maxL ret :: ws') (hrm : rm.cells = mc ∧ rm.slots = ms) (hR : rm.frames + 1 ≤ R.frames ∧ 8 + (maxL + 11) + rm.locals ≤ R.locals) (isT isC isR isN : List Nat) (hT : isT.filterMap (fun i => tys[i]?) = tysC) (hC : isC.map (fun i => ws[i]?) = wc.map some) (hCn : va_nd isC = true) (hRr : isR.map (fun i => ws[i]?) = wr.map some) (hRn : va_nd isR = true) (hdis : ∀ i ∈ isR, i ∉ isC) (hN : ∀ u, isN.map (fun i => (wr ++ wf u)[i]?) = (wn u).map some) (hNn : va_nd isN = true) (hn : As.length = n) (hsz : ls.size = nL) (hcat : (rest.map fun v => v.category).sum ≤ 8) (hf : cells + mc ≤ R.cells ∧ slots + ms ≤ R.slots) (hst : st = As.reverse ++ rest) (hdg : decode cc pc = .ok (.invokestatic index, 3)) (kk : ∀ (z : Int) (u : T) (H : Heap) (locs : List Loc), post z u → zW D tys A s (wn u) H locs → W p l e R s m args below meth c H locs (cells + mc) (slots + ms) Q (F0 m (pc + 3) ls (.int (zI z) :: rest))) : W p l e R s m args below meth c H locs cells slots Q (F0 m pc ls st) := by
  subst hst
  exact va_calli (va_runS (As := As) (rest := rest) S (hM H.size) (va_cwS n S.2.2.2.2 hG hwy hrm.1 hrm.2 hd hR) ⟨zPre.blind D tysC _ wc H.size, zPre.at w _ isT isC hT hC hCn⟩ rfl hn hsz rfl (lv_room hcat) hdg hf) w.2.2.2.1 (fun q _ h => (va_free (wc := wc) w.2.2.1 w.2.2.2.1 w.2.2.2.2.1 isC hC) q h) (va_free (wc := wc) w.2.2.1 w.2.2.2.1 w.2.2.2.2.1 isC hC) (fun r u t H1 locs1 ht hvm hw hB hz1 hk1 hS1 => by
    obtain ⟨z, rfl, hz⟩ := hw
    exact kk z u H1 locs1 hz (w.join isC isR isN hC hRr hRn hdis hN hNn u ht hB hk1 hS1))
theorem z_calliSN {post : Int → T → Prop} (S : CallFix p m c cc nL s args Ts own) (w : zW D tys A s ws H locs) (hM : zMi l yX2_exponentField wds rm D tysC As wc post wf mc ms) (hG : GoodIn Ts wds) (hst8 : Cond.static yX2_exponentField ∈ Ts) (hini : Cond.initialized RX2 ∈ Ts) (hown8 : own = RX1) (hn1 : n = 1) (hwy : wds = Cond.code yX2_exponentField bytes maxL ret :: ws') (hrm : rm.cells = mc ∧ rm.slots = ms) (hR : rm.frames + 1 ≤ R.frames ∧ 8 + (maxL + 11) + rm.locals ≤ R.locals) (isT isC isR isN : List Nat) (hT : isT.filterMap (fun i => tys[i]?) = tysC) (hC : isC.map (fun i => ws[i]?) = wc.map some) (hCn : va_nd isC = true) (hRr : isR.map (fun i => ws[i]?) = wr.map some) (hRn : va_nd isR = true) (hdis : ∀ i ∈ isR, i ∉ isC) (hN : ∀ u, isN.map (fun i => (wr ++ wf u)[i]?) = (wn u).map some) (hNn : va_nd isN = true) (hn : As.length = n) (hsz : ls.size = nL) (hcat : (rest.map fun v => v.category).sum ≤ 8) (hf : cells + mc ≤ R.cells ∧ slots + ms ≤ R.slots) (hst : st = As.reverse ++ rest) (hdg : decode cc pc = .ok (.invokestatic 28, 3)) (kk : ∀ (z : Int) (u : T) (H : Heap) (locs : List Loc), post z u → zW D tys A s (wn u) H locs → W p l e R s m args below meth c H locs (cells + mc) (slots + ms) Q (F0 m (pc + 3) ls (.int (zI z) :: rest))) : W p l e R s m args below meth c H locs cells slots Q (F0 m pc ls st) := by
  subst hst
  subst hown8
  subst hn1
  exact va_calli (va_runSN (host := "DecimalText") (As := As) (rest := rest) S (hM H.size) ⟨va_cnB 1 S.2.2.2.2 hG hwy hrm.1 hrm.2 w.2.2.2.2.2 (S.2.2.2.2 _ hini) (by decide +kernel) hR, S.2.2.2.2 _ hst8, trivial⟩ ⟨zPre.blind D tysC _ wc H.size, zPre.at w _ isT isC hT hC hCn⟩ rfl hn hsz rfl (lv_room hcat) hdg hf) w.2.2.2.1 (fun q _ h => (va_free (wc := wc) w.2.2.1 w.2.2.2.1 w.2.2.2.2.1 isC hC) q h) (va_free (wc := wc) w.2.2.1 w.2.2.2.1 w.2.2.2.2.1 isC hC) (fun r u t H1 locs1 ht hvm hw hB hz1 hk1 hS1 => by
    obtain ⟨z, rfl, hz⟩ := hw
    exact kk z u H1 locs1 hz (w.join isC isR isN hC hRr hRn hdis hN hNn u ht hB hk1 hS1))
theorem zMv.of  {post : T → Prop} {av : List Value} (hy : plainName y.cls = true) (hwy : wds = Cond.code y bytes nL (none) :: ws') (ho : y.cls = own) (hav : (lg_sl av).length ≤ nL) (body : ∀ (p : Program) (e : Env) (s : State) (m : MethodId) (below : List Frame) (meth : Method) (c : Code) (ls : Array Slot), CallFix p m c bytes nL s av.toArray wds own → meth.sig.returnType = none → meth.locks = false → meth.name = y.name → zW D tys (va_A wc s.heap.size) s wc s.heap [] → lv_has ls nL (lv_args 0 av) → W p l e rm s m av.toArray below meth c s.heap [] 0 0 (MQ below (zQv D tys wc s.heap.size post wf) av.toArray s mc ms (va_A wc s.heap.size)) (F0 m 0 ls [])) : zMv l y wds rm D tys av wc post wf mc ms := by
  intro sz
  refine Met.ofW (cc := bytes) (maxL := nL) (ret := none) hy hwy ?_
  intro p e s m args below meth c s₁ B hml hv
  obtain ⟨rfl, hsz, hP, hK, hD0, hNs⟩ := hv
  subst hsz
  have hown : s.vm.findClass y.cls = some m.cls := findClass_of_methodNamed B.named
  rw [ho] at hown
  have hl := lv_entry av (n := nL) hav
  rw [lg_entry_eq]
  exact body p e s m below meth c _ ⟨B.exec, B.bytes, hml, hown, atoms_spec (ws := wds) B.pre⟩ B.returns B.notSynchronized (name_of_methodNamed B.named B.method).1 ⟨hK, hP, hD0.self (sz := s.heap.size), va_S.rf, fun q h => Or.inr h, hNs⟩ hl
theorem zMi.of {rty : FieldType} {post : Int → T → Prop} {av : List Value} (hy : plainName y.cls = true) (hwy : wds = Cond.code y bytes nL (some rty) :: ws') (ho : y.cls = own) (hav : (lg_sl av).length ≤ nL) (body : ∀ (p : Program) (e : Env) (s : State) (m : MethodId) (below : List Frame) (meth : Method) (c : Code) (ls : Array Slot), CallFix p m c bytes nL s av.toArray wds own → meth.sig.returnType = some rty → meth.locks = false → meth.name = y.name → zW D tys (va_A wc s.heap.size) s wc s.heap [] → lv_has ls nL (lv_args 0 av) → W p l e rm s m av.toArray below meth c s.heap [] 0 0 (MQ below (zQi D tys wc s.heap.size post wf) av.toArray s mc ms (va_A wc s.heap.size)) (F0 m 0 ls [])) : zMi l y wds rm D tys av wc post wf mc ms := by
  intro sz
  refine Met.ofW (cc := bytes) (maxL := nL) (ret := some rty) hy hwy ?_
  intro p e s m args below meth c s₁ B hml hv
  obtain ⟨rfl, hsz, hP, hK, hD0, hNs⟩ := hv
  subst hsz
  have hown : s.vm.findClass y.cls = some m.cls := findClass_of_methodNamed B.named
  rw [ho] at hown
  have hl := lv_entry av (n := nL) hav
  rw [lg_entry_eq]
  exact body p e s m below meth c _ ⟨B.exec, B.bytes, hml, hown, atoms_spec (ws := wds) B.pre⟩ B.returns B.notSynchronized (name_of_methodNamed B.named B.method).1 ⟨hK, hP, hD0.self (sz := s.heap.size), va_S.rf, fun q h => Or.inr h, hNs⟩ hl
theorem z_vret {post : T → Prop} (S : CallFix p m c cc nL s args Ts own) (hr : meth.sig.returnType = none) (hlk : meth.locks = false) {wsE : va_W} (w : zW D tys (va_A wc s.heap.size) s wsE H locs) (u : T) (hu : post u) (hw : wsE = wf u) (hdg : decode cc pc = .ok (.return_, 1)) : W p l e R s m args below meth c H locs cells slots (MQ below (zQv D tys wc s.heap.size post wf) args s cells slots (va_A wc s.heap.size)) (F0 m pc ls []) := by
  subst hw
  exact W.vret S.1 S.2.1 hr (fun t ht hW => ⟨⟨u, rfl, hu, by rw [ht]; exact w.2.1, va_K.moved hW.alike w.1, w.2.2.1⟩, w.2.2.2.1.F ht⟩) w.2.2.2.1.2.2 hdg hlk
theorem z_iret {rty : FieldType} {post : Int → T → Prop} (S : CallFix p m c cc nL s args Ts own) (hr : meth.sig.returnType = some rty) (hlk : meth.locks = false) {wsE : va_W} (w : zW D tys (va_A wc s.heap.size) s wsE H locs) {z : Int} (hnr : narrow rty (.int (zI z)) = .int (zI z)) (u : T) (hu : post z u) (hw : wsE = wf u) (hdg : decode cc pc = .ok (.ireturn, 1)) : W p l e R s m args below meth c H locs cells slots (MQ below (zQi D tys wc s.heap.size post wf) args s cells slots (va_A wc s.heap.size)) (F0 m pc ls [.int (zI z)]) := by
  subst hw
  exact W.zret S.1 S.2.1 hr hnr (fun t ht hW => ⟨⟨zI z, u, rfl, ⟨z, rfl, hu⟩, by rw [ht]; exact w.2.1, va_K.moved hW.alike w.1, w.2.2.1⟩, w.2.2.2.1.F ht⟩) w.2.2.2.1.2.2 hdg hlk
theorem zNar_int (z : Int) : narrow .int (.int (zI z)) = .int (zI z) := vp_nar_int _
theorem zNar_b0 : narrow .boolean (.int (zI 0)) = .int (zI 0) := rfl
theorem zNar_b1 : narrow .boolean (.int (zI 1)) = .int (zI 1) := rfl
end ZC
end
section
/-! pure numbers: digits, lengths, rounding, limbs -/
def dg (n j : Nat) : Nat := n / 10 ^ j % 10
theorem dg_lt (n j : Nat) : dg n j < 10 := Nat.mod_lt _ (by decide)
theorem p10_pos (j : Nat) : 0 < 10 ^ j := Nat.pow_pos (by decide)
theorem dg_big {n j : Nat} (h : n < 10 ^ j) : dg n j = 0 := by
  unfold dg
  rw [Nat.div_eq_of_lt h]
theorem dg_add (n a j : Nat) : dg n (a + j) = dg (n / 10 ^ a) j := by
  unfold dg
  rw [Nat.pow_add, Nat.div_div_eq_div_mul]
theorem dg_mul (n a j : Nat) : dg (n * 10 ^ a) (a + j) = dg n j := by
  rw [dg_add, Nat.mul_div_cancel _ (p10_pos a)]
theorem dg_mul_lt (n : Nat) {a j : Nat} (h : j < a) : dg (n * 10 ^ a) j = 0 := by
  unfold dg
  obtain ⟨k, rfl⟩ : ∃ k, a = j + (k + 1) := ⟨a - j - 1, by omega⟩
  have e : n * 10 ^ (j + (k + 1)) = (n * 10 ^ k * 10) * 10 ^ j := by
    rw [Nat.pow_add, Nat.pow_succ]; grind
  rw [e, Nat.mul_div_cancel _ (p10_pos j), Nat.mul_mod_left]
theorem dg_low {lo a j : Nat} (hi : Nat) (h : j < a) : dg (lo + hi * 10 ^ a) j = dg lo j := by
  unfold dg
  obtain ⟨k, rfl⟩ : ∃ k, a = j + (k + 1) := ⟨a - j - 1, by omega⟩
  have e : lo + hi * 10 ^ (j + (k + 1)) = lo + (hi * 10 ^ k * 10) * 10 ^ j := by
    rw [Nat.pow_add, Nat.pow_succ]; grind
  rw [e, Nat.add_mul_div_right _ _ (p10_pos j), Nat.add_mul_mod_self_right]
theorem dg_high {lo hi a : Nat} (hlo : lo < 10 ^ a) (j : Nat) : dg (lo + hi * 10 ^ a) (a + j) = dg hi j := by
  rw [dg_add, Nat.add_mul_div_right _ _ (p10_pos a), Nat.div_eq_of_lt hlo, Nat.zero_add]
/-- the number of decimal digits; 0 has none -/
def ln (n : Nat) : Nat := if h : n = 0 then 0 else ln (n / 10) + 1
termination_by n
decreasing_by exact Nat.div_lt_self (Nat.pos_of_ne_zero h) (by decide)
theorem ln_0 : ln 0 = 0 := by unfold ln; rfl
theorem ln_pos {n : Nat} (h : 0 < n) : ln n = ln (n / 10) + 1 := by
  rw [ln, dif_neg (by omega)]
theorem ln_lt (n : Nat) : n < 10 ^ ln n := by
  induction n using Nat.strongRecOn with
  | _ n ih =>
    rcases Nat.eq_zero_or_pos n with rfl | h
    · rw [ln_0]; decide
    · rw [ln_pos h, Nat.pow_succ]
      have := ih (n / 10) (Nat.div_lt_self h (by decide))
      omega
theorem ln_le {n : Nat} (h : 0 < n) : 10 ^ (ln n - 1) ≤ n := by
  induction n using Nat.strongRecOn with
  | _ n ih =>
    rw [ln_pos h, Nat.add_sub_cancel]
    rcases Nat.eq_zero_or_pos (n / 10) with h0 | h0
    · rw [h0, ln_0]; omega
    · have h1 := ih (n / 10) (Nat.div_lt_self h (by decide)) h0
      have h2 : ln (n / 10) = (ln (n / 10) - 1) + 1 := by rw [ln_pos h0]; omega
      rw [h2, Nat.pow_succ]
      omega
theorem ln_le_of {n c : Nat} (h : n < 10 ^ c) : ln n ≤ c := by
  rcases Nat.eq_zero_or_pos n with rfl | h0
  · rw [ln_0]; exact Nat.zero_le _
  · apply Nat.le_of_not_lt
    intro h1
    have h2 := ln_le h0
    have h3 : 10 ^ c ≤ 10 ^ (ln n - 1) := Nat.pow_le_pow_right (by decide) (by omega)
    omega
theorem ln_gt_of {n c : Nat} (h : 10 ^ c ≤ n) : c < ln n := by
  apply Nat.lt_of_not_le
  intro h1
  have h2 := ln_lt n
  have h3 : 10 ^ ln n ≤ 10 ^ c := Nat.pow_le_pow_right (by decide) h1
  omega
theorem ln_eq {n c : Nat} (h1 : 10 ^ c ≤ n) (h2 : n < 10 ^ (c + 1)) : ln n = c + 1 := by
  have a := ln_le_of h2
  have b := ln_gt_of h1
  omega
theorem ln_mul {n : Nat} (h : 0 < n) (a : Nat) : ln (n * 10 ^ a) = ln n + a := by
  have h1 := ln_le h
  have h2 := ln_lt n
  have h3 : ln n = (ln n - 1) + 1 := by rw [ln_pos h]; omega
  have h4 : ln (n * 10 ^ a) = (ln n - 1 + a) + 1 := by
    apply ln_eq
    · rw [Nat.pow_add]; exact Nat.mul_le_mul_right _ h1
    · have e : ln n - 1 + a + 1 = ln n + a := by omega
      rw [e, Nat.pow_add]; exact Nat.mul_lt_mul_of_pos_right h2 (p10_pos a)
  omega
theorem ln_top {n : Nat} (h : 0 < n) : dg n (ln n - 1) ≠ 0 := by
  have h1 := ln_le h
  have h2 := ln_lt n
  have h3 : ln n = (ln n - 1) + 1 := by rw [ln_pos h]; omega
  unfold dg
  have h4 : n / 10 ^ (ln n - 1) < 10 := by
    apply Nat.div_lt_of_lt_mul
    rw [← Nat.pow_succ, Nat.succ_eq_add_one, ← h3]; exact h2
  have h5 : 1 ≤ n / 10 ^ (ln n - 1) := (Nat.le_div_iff_mul_le (p10_pos _)).mpr (by omega)
  rw [Nat.mod_eq_of_lt h4]; omega
/-- to the nearest of a / b, ties to even -/
def rq (a b : Nat) : Nat := if b < 2 * (a % b) ∨ (2 * (a % b) = b ∧ a / b % 2 = 1) then a / b + 1 else a / b
theorem rq_mul (a b c : Nat) (hc : 0 < c) : rq (a * c) (b * c) = rq a b := by
  unfold rq
  rw [Nat.mul_div_mul_right _ _ hc, Nat.mul_mod_mul_right]
  have e1 : (b * c < 2 * (a % b * c)) ↔ b < 2 * (a % b) := by
    rw [← Nat.mul_assoc]; exact Nat.mul_lt_mul_right hc
  have e2 : (2 * (a % b * c) = b * c) ↔ 2 * (a % b) = b := by
    rw [← Nat.mul_assoc]; exact Nat.mul_left_inj (by omega)
  simp only [e1, e2]
/-- rounded to a multiple of 10 ^ c -/
def rX (n c : Nat) : Nat := rq n (10 ^ c) * 10 ^ c
theorem rX_mul (n c a : Nat) : rX (n * 10 ^ a) (c + a) = rX n c * 10 ^ a := by
  unfold rX
  rw [Nat.pow_add, rq_mul _ _ _ (p10_pos a), Nat.mul_assoc]
theorem rq_1 (a : Nat) : rq a 1 = a := by
  unfold rq
  rw [Nat.mod_one, Nat.div_one, if_neg (by omega)]
theorem rX_0 (n : Nat) : rX n 0 = n := by unfold rX; rw [Nat.pow_zero, rq_1, Nat.mul_one]
/-- limbs of nine digits, the lowest first -/
def vL (L : Nat → Int) : Nat → Int
  | 0 => 0
  | n + 1 => vL L n + L n * 1000000000 ^ n
theorem vL_congr {L M : Nat → Int} : ∀ {n : Nat}, (∀ j, j < n → L j = M j) → vL L n = vL M n
  | 0, _ => rfl
  | n + 1, h => by rw [vL, vL, vL_congr (n := n) (fun j q => h j (by omega)), h n (by omega)]
theorem b9_pos (n : Nat) : (0 : Int) < 1000000000 ^ n := Int.pow_pos (by decide)
theorem vL_nonneg {L : Nat → Int} : ∀ {n : Nat}, (∀ j, j < n → 0 ≤ L j) → 0 ≤ vL L n
  | 0, _ => Int.le_refl 0
  | n + 1, h => by
    rw [vL]
    have h1 := vL_nonneg (n := n) (fun j q => h j (by omega))
    have h2 := Int.mul_nonneg (h n (by omega)) (Int.le_of_lt (b9_pos n))
    omega
theorem vL_lt {L : Nat → Int} : ∀ {n : Nat}, (∀ j, j < n → 0 ≤ L j ∧ L j < 1000000000) → vL L n < 1000000000 ^ n
  | 0, _ => by rw [vL, Int.pow_zero]; decide
  | n + 1, h => by
    rw [vL, Int.pow_succ]
    have h1 := vL_lt (n := n) (fun j q => h j (by omega))
    have h2 := h n (by omega)
    have h3 : L n * 1000000000 ^ n ≤ 999999999 * 1000000000 ^ n := Int.mul_le_mul_of_nonneg_right (by omega) (Int.le_of_lt (b9_pos n))
    omega
theorem mul_step {v1 cr v f b nw c2 x : Int} (h1 : v1 + cr * b = v * f) (h2 : nw + c2 * 1000000000 = x * f + cr) : v1 + nw * b + c2 * (b * 1000000000) = (v + x * b) * f := by
  have h3 : (nw + c2 * 1000000000) * b = (x * f + cr) * b := by rw [h2]
  grind
end
section
/-! pure numbers for Worth: the row of a number, its lengths, rounding by digits -/
theorem ln_high {lo hi a : Nat} (hlo : lo < 10 ^ a) (hhi : 0 < hi) : ln (lo + hi * 10 ^ a) = a + ln hi := by
  have h1 := ln_le hhi
  have h2 := ln_lt hi
  have h3 : ln hi = (ln hi - 1) + 1 := by rw [ln_pos hhi]; omega
  have h4 : ln (lo + hi * 10 ^ a) = (ln hi - 1 + a) + 1 := by
    apply ln_eq
    · have : 10 ^ (ln hi - 1) * 10 ^ a ≤ hi * 10 ^ a := Nat.mul_le_mul_right _ h1
      rw [Nat.pow_add]; omega
    · have e : ln hi - 1 + a + 1 = ln hi + a := by omega
      rw [e, Nat.pow_add]
      have : (hi + 1) * 10 ^ a ≤ 10 ^ ln hi * 10 ^ a := Nat.mul_le_mul_right _ h2
      rw [Nat.add_mul, Nat.one_mul] at this
      omega
  omega
theorem dg_succ (n j : Nat) : dg n (j + 1) = dg (n / 10) j := by
  rw [Nat.add_comm, dg_add, Nat.pow_one]
theorem dg_zero (n : Nat) : dg n 0 = n % 10 := by unfold dg; rw [Nat.pow_zero, Nat.div_one]
/-- one more: the nines at the end become zeros, the first other digit grows -/
theorem inc_dg : ∀ (s q : Nat), (∀ t, t < s → dg q t = 9) → dg q s ≠ 9 → (∀ t, t < s → dg (q + 1) t = 0) ∧ dg (q + 1) s = dg q s + 1 ∧ (∀ t, s < t → dg (q + 1) t = dg q t) ∧ ln (q + 1) = max (ln q) (s + 1)
  | 0, q, _, h => by
    rw [dg_zero] at h
    have e1 : (q + 1) / 10 = q / 10 := by omega
    refine ⟨fun t ht => by omega, ?_, ?_, ?_⟩
    · rw [dg_zero, dg_zero]; omega
    · intro t ht
      obtain ⟨k, rfl⟩ : ∃ k, t = k + 1 := ⟨t - 1, by omega⟩
      rw [dg_succ, dg_succ, e1]
    · rw [ln_pos (by omega), e1]
      rcases Nat.eq_zero_or_pos q with rfl | h0
      · rw [ln_0]; decide
      · rw [ln_pos h0]; omega
  | s + 1, q, h, h2 => by
    have h0 := h 0 (by omega)
    rw [dg_zero] at h0
    have e1 : (q + 1) / 10 = q / 10 + 1 := by omega
    obtain ⟨a1, a2, a3, a4⟩ := inc_dg s (q / 10) (fun t ht => by rw [← dg_succ]; exact h (t + 1) (by omega)) (by rw [← dg_succ]; exact h2)
    refine ⟨?_, ?_, ?_, ?_⟩
    · intro t ht
      rcases Nat.eq_zero_or_pos t with rfl | ht0
      · rw [dg_zero]; omega
      · obtain ⟨k, rfl⟩ : ∃ k, t = k + 1 := ⟨t - 1, by omega⟩
        rw [dg_succ, e1]; exact a1 k (by omega)
    · rw [dg_succ, e1, a2, dg_succ]
    · intro t ht
      obtain ⟨k, rfl⟩ : ∃ k, t = k + 1 := ⟨t - 1, by omega⟩
      rw [dg_succ, e1, dg_succ]; exact a3 k (by omega)
    · rw [ln_pos (by omega), e1, a4, ln_pos (n := q) (by omega)]; omega
theorem mod_succ (n m : Nat) : n % 10 ^ (m + 1) = n % 10 ^ m + 10 ^ m * dg n m := by
  unfold dg; exact Nat.mod_pow_succ
theorem mod_zero_iff (n : Nat) : ∀ m, n % 10 ^ m = 0 ↔ ∀ j, j < m → dg n j = 0
  | 0 => by rw [Nat.pow_zero, Nat.mod_one]; exact ⟨fun _ j h => by omega, fun _ => rfl⟩
  | m + 1 => by
    rw [mod_succ]
    have ih := mod_zero_iff n m
    have hp := p10_pos m
    constructor
    · intro h j hj
      have h1 : n % 10 ^ m = 0 := by omega
      have h2 : 10 ^ m * dg n m = 0 := by omega
      rcases Nat.lt_succ_iff_lt_or_eq.mp hj with h3 | rfl
      · exact ih.mp h1 j h3
      · rcases Nat.mul_eq_zero.mp h2 with h4 | h4
        · omega
        · exact h4
    · intro h
      rw [ih.mpr (fun j hj => h j (by omega)), h m (by omega), Nat.mul_zero]
/-- rounding by the digits -/
theorem up_iff (n m : Nat) : (10 ^ (m + 1) < 2 * (n % 10 ^ (m + 1)) ∨ (2 * (n % 10 ^ (m + 1)) = 10 ^ (m + 1) ∧ n / 10 ^ (m + 1) % 2 = 1)) ↔ (5 < dg n m ∨ (dg n m = 5 ∧ ((∃ j, j < m ∧ dg n j ≠ 0) ∨ dg n (m + 1) % 2 = 1))) := by
  have hp := p10_pos m
  have hl : n % 10 ^ m < 10 ^ m := Nat.mod_lt _ hp
  have hd := dg_lt n m
  have e2 : dg n (m + 1) % 2 = n / 10 ^ (m + 1) % 2 := by unfold dg; omega
  have e3 : (∃ j, j < m ∧ dg n j ≠ 0) ↔ n % 10 ^ m ≠ 0 := by
    rw [Ne, mod_zero_iff]
    constructor
    · rintro ⟨j, h1, h2⟩ h3; exact h2 (h3 j h1)
    · intro h
      apply Classical.byContradiction
      intro h1
      exact h (fun j hj => Classical.byContradiction (fun h2 => h1 ⟨j, hj, h2⟩))
  rw [e2, e3, mod_succ, Nat.pow_succ]
  generalize n % 10 ^ m = low at hl
  generalize n / (10 ^ m * 10) % 2 = par
  generalize 10 ^ m = q at hp hl
  generalize dg n m = d at hd
  have hdq : d = 0 ∨ d = 1 ∨ d = 2 ∨ d = 3 ∨ d = 4 ∨ d = 5 ∨ d = 6 ∨ d = 7 ∨ d = 8 ∨ d = 9 := by omega
  rcases hdq with rfl | rfl | rfl | rfl | rfl | rfl | rfl | rfl | rfl | rfl <;> omega
theorem rq_up (n m : Nat) : rq n (10 ^ (m + 1)) = if (5 < dg n m ∨ (dg n m = 5 ∧ ((∃ j, j < m ∧ dg n j ≠ 0) ∨ dg n (m + 1) % 2 = 1))) then n / 10 ^ (m + 1) + 1 else n / 10 ^ (m + 1) := by
  unfold rq
  have h := up_iff n m
  by_cases k : (10 ^ (m + 1) < 2 * (n % 10 ^ (m + 1)) ∨ (2 * (n % 10 ^ (m + 1)) = 10 ^ (m + 1) ∧ n / 10 ^ (m + 1) % 2 = 1))
  · rw [if_pos k, if_pos (h.mp k)]
  · rw [if_neg k, if_neg (fun q => k (h.mpr q))]
/-- the parts of a double by its bits as a signed number -/
def xE (z : Int) : Int := z / 4503599627370496 % 2048
def xM (z : Int) : Int := z % 4503599627370496 + (if xE z = 0 then 0 else 4503599627370496)
def xP (z : Int) : Int := if xE z = 0 then -1074 else xE z - 1075
/-- its worth without sign, times 10 ^ 1200: a whole number -/
def xX (z : Int) : Nat := (xM z).toNat * 2 ^ (xP z + 1200).toNat * 5 ^ 1200
end
section
/-! bits and masks over Ints -/
theorem lI_nat (a : Int) : (lI a).toBitVec.toNat = (a % 18446744073709551616).toNat := by
  show (BitVec.ofInt 64 a).toNat = _
  rw [BitVec.toNat_ofInt]; rfl
theorem lI_ext {x : Int64} {a : Int} (h : x.toBitVec.toNat = (a % 18446744073709551616).toNat) : x = lI a := by
  apply Int64.toBitVec_inj.mp
  apply BitVec.eq_of_toNat_eq
  rw [lI_nat]; exact h
theorem zI_nat (a : Int) : (zI a).toBitVec.toNat = (a % 4294967296).toNat := by
  show (BitVec.ofInt 32 a).toNat = _
  rw [BitVec.toNat_ofInt]; rfl
theorem zI_ext {x : Int32} {a : Int} (h : x.toBitVec.toNat = (a % 4294967296).toNat) : x = zI a := by
  apply Int32.toBitVec_inj.mp
  apply BitVec.eq_of_toNat_eq
  rw [zI_nat]; exact h
theorem lI_m52 (a : Int) : lI a &&& lI 4503599627370495 = lI (a % 4503599627370496) := by
  apply lI_ext
  rw [Int64.toBitVec_and, BitVec.toNat_and, lI_nat, lI_nat]
  have h : ((4503599627370495 : Int) % 18446744073709551616).toNat = 2 ^ 52 - 1 := by decide
  rw [h, Nat.and_two_pow_sub_one_eq_mod]; omega
theorem lI_m11 (a : Int) : lI a &&& lI 2047 = lI (a % 2048) := by
  apply lI_ext
  rw [Int64.toBitVec_and, BitVec.toNat_and, lI_nat, lI_nat]
  have h : ((2047 : Int) % 18446744073709551616).toNat = 2 ^ 11 - 1 := by decide
  rw [h, Nat.and_two_pow_sub_one_eq_mod]; omega
theorem lI_m1 (a : Int) : lI a &&& lI 1 = lI (a % 2) := by
  apply lI_ext
  rw [Int64.toBitVec_and, BitVec.toNat_and, lI_nat, lI_nat]
  have h : ((1 : Int) % 18446744073709551616).toNat = 2 ^ 1 - 1 := by decide
  rw [h, Nat.and_two_pow_sub_one_eq_mod]; omega
theorem zI_m11 (a : Int) : zI a &&& zI 2047 = zI (a % 2048) := by
  apply zI_ext
  rw [Int32.toBitVec_and, BitVec.toNat_and, zI_nat, zI_nat]
  have h : ((2047 : Int) % 4294967296).toNat = 2 ^ 11 - 1 := by decide
  rw [h, Nat.and_two_pow_sub_one_eq_mod]; omega
theorem zI_m2 (a : Int) : zI a &&& zI 3 = zI (a % 4) := by
  apply zI_ext
  rw [Int32.toBitVec_and, BitVec.toNat_and, zI_nat, zI_nat]
  have h : ((3 : Int) % 4294967296).toNat = 2 ^ 2 - 1 := by decide
  rw [h, Nat.and_two_pow_sub_one_eq_mod]; omega
theorem lI_u52 (a : Int) : ((lI a).toUInt64 >>> ((zI 52).toInt64.toUInt64 &&& Int64.toUInt64 63)).toInt64 = lI (a % 18446744073709551616 / 4503599627370496) := by
  apply lI_ext
  show ((lI a).toUInt64 >>> ((zI 52).toInt64.toUInt64 &&& Int64.toUInt64 63)).toNat = _
  have h : ((zI 52).toInt64.toUInt64 &&& Int64.toUInt64 63).toNat % 64 = 52 := by decide
  rw [UInt64.toNat_shiftRight, Nat.shiftRight_eq_div_pow, h]
  show (lI a).toBitVec.toNat / 2 ^ 52 = _
  rw [lI_nat]; omega
theorem lI_s52 {a : Int} (ha : -9223372036854775808 ≤ a ∧ a ≤ 9223372036854775807) : lI a >>> ((zI 52).toInt64 &&& 63) = lI (a / 4503599627370496) := by
  apply lI_eq_of
  have hD : (((zI 52).toInt64 &&& 63).toBitVec.smod 64).toNat = 52 := by decide
  have e : (lI a >>> ((zI 52).toInt64 &&& 63)).toInt = (lI a).toInt >>> 52 := by
    rw [← hD]
    exact BitVec.toInt_sshiftRight ..
  rw [e, Int.shiftRight_eq_div_pow, lI_toInt ha]; rfl
theorem lI_s1 {a : Int} (ha : -9223372036854775808 ≤ a ∧ a ≤ 9223372036854775807) : lI a >>> ((zI 1).toInt64 &&& 63) = lI (a / 2) := by
  apply lI_eq_of
  have hD : (((zI 1).toInt64 &&& 63).toBitVec.smod 64).toNat = 1 := by decide
  have e : (lI a >>> ((zI 1).toInt64 &&& 63)).toInt = (lI a).toInt >>> 1 := by
    rw [← hD]
    exact BitVec.toInt_sshiftRight ..
  rw [e, Int.shiftRight_eq_div_pow, lI_toInt ha]; rfl
theorem zI_flagF : ∀ f : Fin 32, ∀ k ∈ ([1, 2, 4, 8, 16] : List Int), zI (f.val : Int) &&& zI k = zI (k * ((f.val : Int) / k % 2)) := by decide +kernel
theorem zI_flag {f k : Int} (hf : 0 ≤ f ∧ f ≤ 31) (hk : k ∈ ([1, 2, 4, 8, 16] : List Int)) : zI f &&& zI k = zI (k * (f / k % 2)) := by
  have h := zI_flagF ⟨f.toNat, by omega⟩ k hk
  have e : ((f.toNat : Nat) : Int) = f := by omega
  simp only [e] at h
  exact h
theorem ten_pow (k : Nat) : 10 ^ k = 2 ^ k * 5 ^ k := by rw [← Nat.mul_pow]
/-- rounding down keeps the digits from the cut on -/
theorem rnd_down {N c : Nat} (hq : rq N (10 ^ c) = N / 10 ^ c) : (∀ j, c ≤ j → dg (rX N c) j = dg N j) ∧ (0 < rX N c → ln N = ln (rX N c)) ∧ (rX N c = 0 → ln N ≤ c) := by
  have hp := p10_pos c
  have hm : N % 10 ^ c < 10 ^ c := Nat.mod_lt _ hp
  have e : N = N % 10 ^ c + N / 10 ^ c * 10 ^ c := by
    have := Nat.div_add_mod N (10 ^ c); rw [Nat.mul_comm] at this; omega
  unfold rX
  rw [hq]
  refine ⟨?_, ?_, ?_⟩
  · intro j hj
    obtain ⟨t, rfl⟩ : ∃ t, j = c + t := ⟨j - c, by omega⟩
    rw [dg_mul, dg_add]
  · intro h
    have h1 : 0 < N / 10 ^ c := by
      rcases Nat.eq_zero_or_pos (N / 10 ^ c) with h0 | h0
      · rw [h0, Nat.zero_mul] at h; omega
      · exact h0
    rw [ln_mul h1]
    have h2 := ln_high hm h1
    rw [← e] at h2; omega
  · intro h
    have h1 : N / 10 ^ c = 0 := by
      rcases Nat.mul_eq_zero.mp h with h0 | h0
      · exact h0
      · omega
    rw [h1, Nat.zero_mul, Nat.add_zero] at e
    exact ln_le_of (by omega)
theorem rnd_up {N c k : Nat} (hq : rq N (10 ^ c) = N / 10 ^ c + 1) (hk : c ≤ k) (h9 : ∀ j, c ≤ j → j < k → dg N j = 9) (hn : dg N k ≠ 9) : (∀ j, c ≤ j → j < k → dg (rX N c) j = 0) ∧ dg (rX N c) k = dg N k + 1 ∧ (∀ j, k < j → dg (rX N c) j = dg N j) ∧ 0 < rX N c ∧ ln (rX N c) = max (ln N) (k + 1) := by
  have hp := p10_pos c
  have hm : N % 10 ^ c < 10 ^ c := Nat.mod_lt _ hp
  have e : N = N % 10 ^ c + N / 10 ^ c * 10 ^ c := by
    have := Nat.div_add_mod N (10 ^ c); rw [Nat.mul_comm] at this; omega
  obtain ⟨s, rfl⟩ : ∃ s, k = c + s := ⟨k - c, by omega⟩
  obtain ⟨a1, a2, a3, a4⟩ := inc_dg s (N / 10 ^ c) (fun t ht => by rw [← dg_add]; exact h9 _ (by omega) (by omega)) (by rw [← dg_add]; exact hn)
  unfold rX
  rw [hq]
  refine ⟨?_, ?_, ?_, ?_, ?_⟩
  · intro j h1 h2
    obtain ⟨t, rfl⟩ : ∃ t, j = c + t := ⟨j - c, by omega⟩
    rw [dg_mul]; exact a1 t (by omega)
  · rw [dg_mul, a2, dg_add]
  · intro j h1
    obtain ⟨t, rfl⟩ : ∃ t, j = c + t := ⟨j - c, by omega⟩
    rw [dg_mul, dg_add]; exact a3 t (by omega)
  · exact Nat.mul_pos (Nat.succ_pos _) hp
  · rw [ln_mul (Nat.succ_pos _), a4]
    rcases Nat.eq_zero_or_pos (N / 10 ^ c) with h0 | h0
    · rw [h0, ln_0]
      rw [h0, Nat.zero_mul, Nat.add_zero] at e
      have h2 : ln N ≤ c := ln_le_of (by omega)
      omega
    · have h2 := ln_high hm h0
      rw [← e] at h2; omega
end
section
/-! texts: what a row of codes holds, and what the texts are -/
def tRep (C : Nat → Int) (len : Int) (T : List Int) : Prop := len = (T.length : Int) ∧ ∀ i : Nat, i < T.length → T[i]? = some (C i)
theorem tRep_put {C : Nat → Int} {len : Int} {T : List Int} (h : tRep C len T) (x : Int) : tRep (zu C len.toNat x) (len + 1) (T ++ [x]) := by
  obtain ⟨h1, h2⟩ := h
  have e : len.toNat = T.length := by omega
  refine ⟨by rw [List.length_append, List.length_singleton]; omega, fun i hi => ?_⟩
  rw [List.length_append, List.length_singleton] at hi
  by_cases k : i = T.length
  · subst k
    rw [List.getElem?_append_right (Nat.le_refl _), Nat.sub_self, e, zu_s]; rfl
  · rw [List.getElem?_append_left (by omega), zu_n _ _ (by omega)]; exact h2 i (by omega)
theorem tRep_put' {C C' : Nat → Int} {len len' : Int} {T : List Int} {x : Int} (h : tRep C len T) (hp : C' = zu C len.toNat x ∧ len' = len + 1) : tRep C' len' (T ++ [x]) := by
  rw [hp.1, hp.2]; exact tRep_put h x
theorem tRep_nil (C : Nat → Int) : tRep C 0 [] := ⟨rfl, fun i h => absurd h (Nat.not_lt_zero i)⟩
theorem tRep_ins {C C' : Nat → Int} {len pl am x : Int} {T : List Int} (h : tRep C len T) (hpl : 0 ≤ pl ∧ pl ≤ len) (ham : 0 < am) (hC : ∀ j : Nat, (j : Int) < len + am → C' j = if (j : Int) < pl then C j else if (j : Int) < pl + am then x else C (j - am.toNat)) : tRep C' (len + am) (T.take pl.toNat ++ List.replicate am.toNat x ++ T.drop pl.toNat) := by
  obtain ⟨h1, h2⟩ := h
  have l1 : (T.take pl.toNat).length = pl.toNat := by rw [List.length_take]; omega
  have l2 : (T.take pl.toNat ++ List.replicate am.toNat x).length = pl.toNat + am.toNat := by rw [List.length_append, l1, List.length_replicate]
  refine ⟨by rw [List.length_append, l2, List.length_drop]; omega, fun i hi => ?_⟩
  rw [List.length_append, l2, List.length_drop] at hi
  rw [hC i (by omega)]
  by_cases k1 : (i : Int) < pl
  · rw [if_pos k1, List.getElem?_append_left (by omega), List.getElem?_append_left (by omega), List.getElem?_take_of_lt (by omega)]
    exact h2 i (by omega)
  · rw [if_neg k1]
    by_cases k2 : (i : Int) < pl + am
    · rw [if_pos k2, List.getElem?_append_left (by omega), List.getElem?_append_right (by omega), l1, List.getElem?_replicate, if_pos (by omega)]
    · rw [if_neg k2, List.getElem?_append_right (by omega), l2, List.getElem?_drop]
      have e : pl.toNat + (i - (pl.toNat + am.toNat)) = i - am.toNat := by omega
      rw [e]; exact h2 _ (by omega)
theorem tRep_rng {C : Nat → Int} {len : Int} {T : List Int} (h : tRep C len T) (hR : ∀ x ∈ T, 0 ≤ x ∧ x ≤ 65535) : ∀ j : Nat, (j : Int) < len → 0 ≤ C j ∧ C j ≤ 65535 := by
  intro j hj
  have h2 := h.2 j (by have := h.1; omega)
  exact hR _ (List.mem_of_getElem? h2)
/-- the codes of the digits from the power a down to b -/
def dT (f : Int → Int) (a b : Int) : List Int := (List.range (a - b + 1).toNat).map (fun (k : Nat) => 48 + f (a - (k : Int)))
theorem dT_nil (f : Int → Int) {a b : Int} (h : a < b) : dT f a b = [] := by
  unfold dT
  have e : (a - b + 1).toNat = 0 := by omega
  rw [e]; rfl
theorem dT_snoc (f : Int → Int) {a b : Int} (h : b ≤ a) : dT f a b = dT f a (b + 1) ++ [48 + f b] := by
  unfold dT
  have e : (a - b + 1).toNat = (a - (b + 1) + 1).toNat + 1 := by omega
  rw [e, List.range_succ, List.map_append, List.map_singleton]
  have e2 : a - (((a - (b + 1) + 1).toNat : Nat) : Int) = b := by omega
  rw [e2]
theorem dT_one (f : Int → Int) (a : Int) : dT f a a = [48 + f a] := by
  rw [dT_snoc f (Int.le_refl a), dT_nil f (by omega), List.nil_append]
theorem dT_len (f : Int → Int) (a b : Int) : (dT f a b).length = (a - b + 1).toNat := by
  unfold dT; rw [List.length_map, List.length_range]
theorem dT_congr {f g : Int → Int} {a b : Int} (h : ∀ q, b ≤ q → q ≤ a → f q = g q) : dT f a b = dT g a b := by
  unfold dT
  apply List.map_congr_left
  intro k hk
  rw [List.mem_range] at hk
  rw [h _ (by omega) (by omega)]
theorem dT_rng {f : Int → Int} {a b : Int} (h : ∀ q, 0 ≤ f q ∧ f q ≤ 9) : ∀ x ∈ dT f a b, 0 ≤ x ∧ x ≤ 65535 := by
  intro x hx
  unfold dT at hx
  obtain ⟨k, -, rfl⟩ := List.mem_map.mp hx
  have := h (a - (k : Int))
  omega
def ptT (pt : Int) : List Int := if pt = 1 then [46] else []
/-- the digit of Y / 10 ^ 1200 at a power -/
def gX (Y : Nat) (q : Int) : Int := (dg Y (q + 1200).toNat : Int)
theorem gX_9 (Y : Nat) (q : Int) : 0 ≤ gX Y q ∧ gX Y q ≤ 9 := by
  unfold gX
  have := dg_lt Y (q + 1200).toNat
  omega
def sgT (bz fl : Int) : List Int := if bz < 0 then [45] else if fl / 2 % 2 = 1 then [43] else if fl / 4 % 2 = 1 then [32] else []
def exA (po : Int) : Int := if 0 ≤ po then po else -po
def exT (po mk : Int) : List Int := [mk, if po < 0 then 45 else 43] ++ (if 100 ≤ exA po then [48 + exA po / 100] else []) ++ [48 + exA po / 10 % 10, 48 + exA po % 10]
/-- the power of the first digit; 0 of 0 -/
def hiX (Y : Nat) : Int := if Y = 0 then 0 else (ln Y : Int) - 1201
def plT (X : Nat) (p pt : Int) : List Int := dT (gX (rX X (1200 - p).toNat)) (if 0 < hiX (rX X (1200 - p).toNat) then hiX (rX X (1200 - p).toNat) else 0) 0 ++ ptT pt ++ dT (gX (rX X (1200 - p).toNat)) (-1) (-p)
/-- rounded to its first p + 1 digits -/
def eY (X : Nat) (p : Int) : Nat := rX X ((ln X : Int) - 1 - p).toNat
def epT (X : Nat) (p pt mk : Int) : List Int := dT (gX (eY X p)) (hiX (eY X p)) (hiX (eY X p)) ++ ptT pt ++ dT (gX (eY X p)) (hiX (eY X p) - 1) (hiX (eY X p) - p) ++ exT (hiX (eY X p)) mk
def boT (bz how p pt : Int) : List Int := if xE bz = 2047 then [105, 110, 102] else if how = 0 then plT (xX bz) p pt else epT (xX bz) p pt (if how = 2 then 69 else 101)
def padT (T : List Int) (bs mi fin fl : Int) : List Int := if mi ≤ 0 then T else if fl % 2 = 1 then T ++ List.replicate mi.toNat 32 else if fl / 8 % 2 = 1 ∧ fin = 1 then T.take bs.toNat ++ List.replicate mi.toNat 48 ++ T.drop bs.toNat else List.replicate mi.toNat 32 ++ T
def ptF (p fl : Int) : Int := if 0 < p ∨ fl / 16 % 2 = 1 then 1 else 0
def bare (bz how p fl : Int) : List Int := sgT bz fl ++ boT bz how p (ptF p fl)
def mkT (bz how p wd fl : Int) : List Int := padT (bare bz how p fl) ((sgT bz fl).length : Int) (wd - ((bare bz how p fl).length : Int)) (if xE bz = 2047 then 0 else 1) fl
def okF (bz how p wd fl : Int) : Prop := (0 ≤ how ∧ how ≤ 2) ∧ (0 ≤ p ∧ p ≤ 15) ∧ (0 ≤ wd ∧ wd ≤ 400) ∧ (0 ≤ fl ∧ fl ≤ 31) ∧ ¬ (xE bz = 2047 ∧ bz % 4503599627370496 ≠ 0)
theorem padT_len (T : List Int) {bs mi fin fl : Int} (hb : 0 ≤ bs ∧ bs ≤ (T.length : Int)) : ((padT T bs mi fin fl).length : Int) = (T.length : Int) + (if 0 < mi then mi else 0) := by
  unfold padT
  by_cases h1 : mi ≤ 0
  · rw [if_pos h1, if_neg (show ¬ 0 < mi by omega)]; omega
  · rw [if_neg h1, if_pos (show 0 < mi by omega)]
    by_cases h2 : fl % 2 = 1
    · rw [if_pos h2, List.length_append, List.length_replicate]; omega
    · rw [if_neg h2]
      by_cases h3 : fl / 8 % 2 = 1 ∧ fin = 1
      · rw [if_pos h3, List.length_append, List.length_append, List.length_replicate, List.length_take, List.length_drop]; omega
      · rw [if_neg h3, List.length_append, List.length_replicate]; omega
end
section
set_option maxRecDepth 20000 in
theorem ln_X0_length_15 : Cond.fieldLink RX0 15 "DecimalText$Line" "length" "I" ∈ wsX0_length := by decide +kernel
theorem in_X0_length_X0 : ∀ w ∈ u_ws RX0 TX0 2, w ∈ wsX0_length := by decide +kernel
set_option maxHeartbeats 4000000 in
set_option maxRecDepth 100000 in
theorem c_X0_length (l : Launch) (D : va_G) (cC : ClassId) (h : Nat) (hc : Nat) (C : Nat → Int) (len : Int)  : zMi (T := Unit) l yX0_length wsX0_length ({ frames := 0, cells := 0, slots := 0, locals := 0 } : Room) D [(cC, .char)] [.ref h] [(h, .inr (0, [.ref hc, .int (zI len)])), (hc, .inl (cC, 400, .inl (zA C)))] (fun (z : Int) (u : Unit) => z = len) (fun (u : Unit) => [(h, .inr (0, [.ref hc, .int (zI len)])), (hc, .inl (cC, 400, .inl (zA C)))]) 0 0 := by
  refine zMi.of (bytes := cX0_length) (nL := 1) (own := RX0) (by decide) rfl rfl (Nat.le_of_ble_eq_true rfl) ?_
  intro p e s m below meth c ls S hr hlk hnm w hl
  have hl : lv_has ls 1 [(0, .ref h)] := hl
  refine lv_aload_n S.1 S.2.1 dX0_length_0 rfl (lv_at hl 0 rfl) ?_
  refine z_get (ci := 0) (C := RX0) (T := TX0) (N := 2) S w 0 rfl rfl in_X0_length_X0 1 (by decide) ln_X0_length_15 rfl rfl dX0_length_1 ?_
  exact z_iret S hr hlk w (zNar_int _) () rfl rfl dX0_length_4

set_option maxRecDepth 20000 in
theorem ln_X0_codeAt_15 : Cond.fieldLink RX0 15 "DecimalText$Line" "length" "I" ∈ wsX0_codeAt := by decide +kernel
theorem in_X0_codeAt_X0 : ∀ w ∈ u_ws RX0 TX0 2, w ∈ wsX0_codeAt := by decide +kernel
set_option maxRecDepth 20000 in
theorem ln_X0_codeAt_9 : Cond.fieldLink RX0 9 "DecimalText$Line" "codes" "[C" ∈ wsX0_codeAt := by decide +kernel
set_option maxHeartbeats 4000000 in
set_option maxRecDepth 100000 in
theorem c_X0_codeAt (l : Launch) (D : va_G) (cC : ClassId) (h : Nat) (hc : Nat) (C : Nat → Int) (len : Int) (i : Int) (hlen : 0 ≤ len ∧ len ≤ 400) (hi : -2147483648 ≤ i ∧ i ≤ 2147483647) : zMi (T := Unit) l yX0_codeAt wsX0_codeAt ({ frames := 0, cells := 0, slots := 0, locals := 0 } : Room) D [(cC, .char)] [.ref h, .int (zI i)] [(h, .inr (0, [.ref hc, .int (zI len)])), (hc, .inl (cC, 400, .inl (zA C)))] (fun (z : Int) (u : Unit) => z = (if 0 ≤ i ∧ i < len then C i.toNat else -1)) (fun (u : Unit) => [(h, .inr (0, [.ref hc, .int (zI len)])), (hc, .inl (cC, 400, .inl (zA C)))]) 0 0 := by
  refine zMi.of (bytes := cX0_codeAt) (nL := 2) (own := RX0) (by decide) rfl rfl (Nat.le_of_ble_eq_true rfl) ?_
  intro p e s m below meth c ls S hr hlk hnm w hl
  have hl : lv_has ls 2 [(0, .ref h), (1, .int (zI i))] := hl
  refine lv_iload_n S.1 S.2.1 dX0_codeAt_0 rfl (lv_at hl 1 rfl) ?_
  refine z_if_lt (tgt := 21) S dX0_codeAt_1 (by decide) (by omega) (fun h1 => ?_) (fun h1 => ?_)
  · skip
    refine z_iconst S dX0_codeAt_21 ?_
    exact z_iret S hr hlk w (zNar_int _) () (by rw [if_neg (by omega)]) rfl dX0_codeAt_22
  · skip
    refine lv_iload_n S.1 S.2.1 dX0_codeAt_4 rfl (lv_at hl 1 rfl) ?_
    refine lv_aload_n S.1 S.2.1 dX0_codeAt_5 rfl (lv_at hl 0 rfl) ?_
    refine z_get (ci := 0) (C := RX0) (T := TX0) (N := 2) S w 0 rfl rfl in_X0_codeAt_X0 1 (by decide) ln_X0_codeAt_15 rfl rfl dX0_codeAt_6 ?_
    refine z_icmp_ge (tgt := 21) S dX0_codeAt_9 (by decide) (by omega) (by omega) (fun h9 => ?_) (fun h9 => ?_)
    · skip
      refine z_iconst S dX0_codeAt_21 ?_
      exact z_iret S hr hlk w (zNar_int _) () (by rw [if_neg (by omega)]) rfl dX0_codeAt_22
    · skip
      refine lv_iload_n S.1 S.2.1 dX0_codeAt_12 rfl (lv_at hl 1 rfl) ?_
      refine lv_aload_n S.1 S.2.1 dX0_codeAt_13 rfl (lv_at hl 0 rfl) ?_
      refine z_get (ci := 0) (C := RX0) (T := TX0) (N := 2) S w 0 rfl rfl in_X0_codeAt_X0 0 (by decide) ln_X0_codeAt_9 rfl rfl dX0_codeAt_14 ?_
      refine z_alen (n := 400) S w 1 0 rfl rfl dX0_codeAt_17 ?_
      refine z_icmp_lt (tgt := 23) S dX0_codeAt_18 (by decide) (by omega) (by omega) (fun h18 => ?_) (fun h18 => ?_)
      · skip
        refine lv_aload_n S.1 S.2.1 dX0_codeAt_23 rfl (lv_at hl 0 rfl) ?_
        refine z_get (ci := 0) (C := RX0) (T := TX0) (N := 2) S w 0 rfl rfl in_X0_codeAt_X0 0 (by decide) ln_X0_codeAt_9 rfl rfl dX0_codeAt_24 ?_
        refine lv_iload_n S.1 S.2.1 dX0_codeAt_27 rfl (lv_at hl 1 rfl) ?_
        refine z_cald S w 1 0 rfl rfl (by omega) (by decide) dX0_codeAt_28 ?_
        exact z_iret S hr hlk w (zNar_int _) () (by rw [if_pos (by omega)]) rfl dX0_codeAt_29
      · skip
        refine z_iconst S dX0_codeAt_21 ?_
        exact z_iret S hr hlk w (zNar_int _) () (by rw [if_neg (by omega)]) rfl dX0_codeAt_22

set_option maxRecDepth 20000 in
theorem ln_X0_clear_15 : Cond.fieldLink RX0 15 "DecimalText$Line" "length" "I" ∈ wsX0_clear := by decide +kernel
theorem in_X0_clear_X0 : ∀ w ∈ u_ws RX0 TX0 2, w ∈ wsX0_clear := by decide +kernel
set_option maxHeartbeats 4000000 in
set_option maxRecDepth 100000 in
theorem c_X0_clear (l : Launch) (D : va_G) (cC : ClassId) (h : Nat) (hc : Nat) (C : Nat → Int) (len : Int)  : zMv (T := Int) l yX0_clear wsX0_clear ({ frames := 0, cells := 0, slots := 0, locals := 0 } : Room) D [(cC, .char)] [.ref h] [(h, .inr (0, [.ref hc, .int (zI len)])), (hc, .inl (cC, 400, .inl (zA C)))] (fun (u : Int) => u = 0) (fun (u : Int) => [(h, .inr (0, [.ref hc, .int (zI u)])), (hc, .inl (cC, 400, .inl (zA C)))]) 0 0 := by
  refine zMv.of (bytes := cX0_clear) (nL := 1) (own := RX0) (by decide) rfl rfl (Nat.le_of_ble_eq_true rfl) ?_
  intro p e s m below meth c ls S hr hlk hnm w hl
  have hl : lv_has ls 1 [(0, .ref h)] := hl
  refine lv_aload_n S.1 S.2.1 dX0_clear_0 rfl (lv_at hl 0 rfl) ?_
  refine z_iconst S dX0_clear_1 ?_
  refine z_put (ci := 0) (C := RX0) (T := TX0) (N := 2) S w 0 rfl rfl in_X0_clear_X0 tyX0_ok nmX0 1 (by decide) ln_X0_clear_15 rfl rfl rfl rfl (Nat.le_of_ble_eq_true rfl) dX0_clear_2 (fun H locs w => ?_)
  have w : zW D _ _ s [(h, .inr (0, [.ref hc, .int (zI 0)])), (hc, .inl (cC, 400, .inl (zA C)))] H locs := w
  exact z_vret S hr hlk w 0 rfl rfl dX0_clear_5

set_option maxRecDepth 20000 in
theorem ln_X0_put_15 : Cond.fieldLink RX0 15 "DecimalText$Line" "length" "I" ∈ wsX0_put := by decide +kernel
theorem in_X0_put_X0 : ∀ w ∈ u_ws RX0 TX0 2, w ∈ wsX0_put := by decide +kernel
set_option maxRecDepth 20000 in
theorem ln_X0_put_9 : Cond.fieldLink RX0 9 "DecimalText$Line" "codes" "[C" ∈ wsX0_put := by decide +kernel
set_option maxHeartbeats 4000000 in
set_option maxRecDepth 100000 in
theorem c_X0_put (l : Launch) (D : va_G) (cC : ClassId) (h : Nat) (hc : Nat) (C : Nat → Int) (len : Int) (x : Int) (hlen : 0 ≤ len ∧ len < 400) (hx : 0 ≤ x ∧ x ≤ 65535) : zMv (T := (Nat → Int) × Int) l yX0_put wsX0_put ({ frames := 0, cells := 0, slots := 0, locals := 0 } : Room) D [(cC, .char)] [.ref h, .int (zI x)] [(h, .inr (0, [.ref hc, .int (zI len)])), (hc, .inl (cC, 400, .inl (zA C)))] (fun (u : (Nat → Int) × Int) => u.1 = zu C len.toNat x ∧ u.2 = len + 1) (fun (u : (Nat → Int) × Int) => [(h, .inr (0, [.ref hc, .int (zI u.2)])), (hc, .inl (cC, 400, .inl (zA u.1)))]) 0 0 := by
  refine zMv.of (bytes := cX0_put) (nL := 2) (own := RX0) (by decide) rfl rfl (Nat.le_of_ble_eq_true rfl) ?_
  intro p e s m below meth c ls S hr hlk hnm w hl
  have hl : lv_has ls 2 [(0, .ref h), (1, .int (zI x))] := hl
  refine lv_aload_n S.1 S.2.1 dX0_put_0 rfl (lv_at hl 0 rfl) ?_
  refine z_get (ci := 0) (C := RX0) (T := TX0) (N := 2) S w 0 rfl rfl in_X0_put_X0 1 (by decide) ln_X0_put_15 rfl rfl dX0_put_1 ?_
  refine z_if_lt (tgt := 39) S dX0_put_4 (by decide) (by omega) (fun h4 => ?_) (fun h4 => ?_)
  · skip
    exfalso; omega
  · skip
    refine lv_aload_n S.1 S.2.1 dX0_put_7 rfl (lv_at hl 0 rfl) ?_
    refine z_get (ci := 0) (C := RX0) (T := TX0) (N := 2) S w 0 rfl rfl in_X0_put_X0 1 (by decide) ln_X0_put_15 rfl rfl dX0_put_8 ?_
    refine lv_aload_n S.1 S.2.1 dX0_put_11 rfl (lv_at hl 0 rfl) ?_
    refine z_get (ci := 0) (C := RX0) (T := TX0) (N := 2) S w 0 rfl rfl in_X0_put_X0 0 (by decide) ln_X0_put_9 rfl rfl dX0_put_12 ?_
    refine z_alen (n := 400) S w 1 0 rfl rfl dX0_put_15 ?_
    refine z_icmp_ge (tgt := 39) S dX0_put_16 (by decide) (by omega) (by omega) (fun h16 => ?_) (fun h16 => ?_)
    · skip
      exfalso; omega
    · skip
      refine lv_aload_n S.1 S.2.1 dX0_put_19 rfl (lv_at hl 0 rfl) ?_
      refine z_get (ci := 0) (C := RX0) (T := TX0) (N := 2) S w 0 rfl rfl in_X0_put_X0 0 (by decide) ln_X0_put_9 rfl rfl dX0_put_20 ?_
      refine lv_aload_n S.1 S.2.1 dX0_put_23 rfl (lv_at hl 0 rfl) ?_
      refine z_get (ci := 0) (C := RX0) (T := TX0) (N := 2) S w 0 rfl rfl in_X0_put_X0 1 (by decide) ln_X0_put_15 rfl rfl dX0_put_24 ?_
      refine lv_iload_n S.1 S.2.1 dX0_put_27 rfl (lv_at hl 1 rfl) ?_
      refine z_cast S w 1 0 rfl rfl (by omega) (by decide) (by omega) dX0_put_28 (fun H locs w => ?_)
      have w : zW D _ _ s [(h, .inr (0, [.ref hc, .int (zI len)])), (hc, .inl (cC, 400, .inl (zA (zu C len.toNat x))))] H locs := w
      refine lv_aload_n S.1 S.2.1 dX0_put_29 rfl (lv_at hl 0 rfl) ?_
      refine lv_dup S.1 S.2.1 dX0_put_30 rfl ?_
      refine z_get (ci := 0) (C := RX0) (T := TX0) (N := 2) S w 0 rfl rfl in_X0_put_X0 1 (by decide) ln_X0_put_15 rfl rfl dX0_put_31 ?_
      refine z_iconst S dX0_put_34 ?_
      refine z_iadd S dX0_put_35 ?_
      refine z_put (ci := 0) (C := RX0) (T := TX0) (N := 2) S w 0 rfl rfl in_X0_put_X0 tyX0_ok nmX0 1 (by decide) ln_X0_put_15 rfl rfl rfl rfl (Nat.le_of_ble_eq_true rfl) dX0_put_36 (fun H locs w => ?_)
      have w : zW D _ _ s [(h, .inr (0, [.ref hc, .int (zI (len + 1))])), (hc, .inl (cC, 400, .inl (zA (zu C len.toNat x))))] H locs := w
      exact z_vret S hr hlk w (zu C len.toNat x, len + 1) ⟨rfl, rfl⟩ rfl dX0_put_39

set_option maxRecDepth 20000 in
theorem ln_X0_insert_15 : Cond.fieldLink RX0 15 "DecimalText$Line" "length" "I" ∈ wsX0_insert := by decide +kernel
theorem in_X0_insert_X0 : ∀ w ∈ u_ws RX0 TX0 2, w ∈ wsX0_insert := by decide +kernel
set_option maxRecDepth 20000 in
theorem ln_X0_insert_9 : Cond.fieldLink RX0 9 "DecimalText$Line" "codes" "[C" ∈ wsX0_insert := by decide +kernel
set_option maxHeartbeats 4000000 in
set_option maxRecDepth 100000 in
theorem c_X0_insert (l : Launch) (D : va_G) (cC : ClassId) (h : Nat) (hc : Nat) (C : Nat → Int) (len : Int) (pl : Int) (am : Int) (x : Int) (hlen : 0 ≤ len ∧ len ≤ 400) (hpl : 0 ≤ pl ∧ pl ≤ len) (ham : -1000 ≤ am ∧ am ≤ 400 - len) (hx : 0 ≤ x ∧ x ≤ 65535) (hC : ∀ j : Nat, (j : Int) < len → 0 ≤ C j ∧ C j ≤ 65535) : zMv (T := (Nat → Int) × Int) l yX0_insert wsX0_insert ({ frames := 0, cells := 0, slots := 0, locals := 0 } : Room) D [(cC, .char)] [.ref h, .int (zI pl), .int (zI am), .int (zI x)] [(h, .inr (0, [.ref hc, .int (zI len)])), (hc, .inl (cC, 400, .inl (zA C)))] (fun (u : (Nat → Int) × Int) => (am ≤ 0 → u.1 = C ∧ u.2 = len) ∧ (0 < am → u.2 = len + am ∧ ∀ j : Nat, (j : Int) < len + am → u.1 j = if (j : Int) < pl then C j else if (j : Int) < pl + am then x else C (j - am.toNat))) (fun (u : (Nat → Int) × Int) => [(h, .inr (0, [.ref hc, .int (zI u.2)])), (hc, .inl (cC, 400, .inl (zA u.1)))]) 0 0 := by
  refine zMv.of (bytes := cX0_insert) (nL := 5) (own := RX0) (by decide) rfl rfl (Nat.le_of_ble_eq_true rfl) ?_
  intro p e s m below meth c ls S hr hlk hnm w hl
  have lab70 : ∀ (n : Nat) (C2 : Nat → Int) (i : Int), (pl + am - i).toNat < n → (0 < am) → (pl ≤ i ∧ i ≤ pl + am) → (∀ j : Nat, (j : Int) < pl → C2 j = C j) → (∀ j : Nat, pl ≤ (j : Int) → (j : Int) < i → C2 j = x) → (∀ j : Nat, pl ≤ (j : Int) → (j : Int) < len → C2 (j + am.toNat) = C j) → ∀ (H : Heap) (locs : List Loc) (ls : Array Slot), zW D [(cC, .char)] (va_A [(h, .inr (0, [.ref hc, .int (zI len)])), (hc, .inl (cC, 400, .inl (zA C)))] s.heap.size) s [(h, .inr (0, [.ref hc, .int (zI len)])), (hc, .inl (cC, 400, .inl (zA C2)))] H locs → lv_has ls 5 [(0, .ref h), (1, .int (zI pl)), (2, .int (zI am)), (3, .int (zI x)), (4, .int (zI i))] → W p l e ({ frames := 0, cells := 0, slots := 0, locals := 0 } : Room) s m ([.ref h, .int (zI pl), .int (zI am), .int (zI x)] : List Value).toArray below meth c H locs 0 0 (MQ below (zQv D [(cC, .char)] [(h, .inr (0, [.ref hc, .int (zI len)])), (hc, .inl (cC, 400, .inl (zA C)))] s.heap.size (fun (u : (Nat → Int) × Int) => (am ≤ 0 → u.1 = C ∧ u.2 = len) ∧ (0 < am → u.2 = len + am ∧ ∀ j : Nat, (j : Int) < len + am → u.1 j = if (j : Int) < pl then C j else if (j : Int) < pl + am then x else C (j - am.toNat))) (fun (u : (Nat → Int) × Int) => [(h, .inr (0, [.ref hc, .int (zI u.2)])), (hc, .inl (cC, 400, .inl (zA u.1)))])) ([.ref h, .int (zI pl), .int (zI am), .int (zI x)] : List Value).toArray s 0 0 (va_A [(h, .inr (0, [.ref hc, .int (zI len)])), (hc, .inl (cC, 400, .inl (zA C)))] s.heap.size)) (F0 m 70 ls []) := by
    intro n
    induction n with
    | zero => intro C2 i hm; exact absurd hm (Nat.not_lt_zero _)
    | succ n ih =>
      intro C2 i hm hm hi e1 e2 e3 H locs ls w hl
      refine lv_iload S.1 S.2.1 dX0_insert_70 (lv_at hl 4 rfl) ?_
      refine lv_iload_n S.1 S.2.1 dX0_insert_72 rfl (lv_at hl 1 rfl) ?_
      refine lv_iload_n S.1 S.2.1 dX0_insert_73 rfl (lv_at hl 2 rfl) ?_
      refine z_iadd S dX0_insert_74 ?_
      refine z_icmp_ge (tgt := 92) S dX0_insert_75 (by decide) (by omega) (by omega) (fun h75 => ?_) (fun h75 => ?_)
      · skip
        refine lv_aload_n S.1 S.2.1 dX0_insert_92 rfl (lv_at hl 0 rfl) ?_
        refine lv_dup S.1 S.2.1 dX0_insert_93 rfl ?_
        refine z_get (ci := 0) (C := RX0) (T := TX0) (N := 2) S w 0 rfl rfl in_X0_insert_X0 1 (by decide) ln_X0_insert_15 rfl rfl dX0_insert_94 ?_
        refine lv_iload_n S.1 S.2.1 dX0_insert_97 rfl (lv_at hl 2 rfl) ?_
        refine z_iadd S dX0_insert_98 ?_
        refine z_put (ci := 0) (C := RX0) (T := TX0) (N := 2) S w 0 rfl rfl in_X0_insert_X0 tyX0_ok nmX0 1 (by decide) ln_X0_insert_15 rfl rfl rfl rfl (Nat.le_of_ble_eq_true rfl) dX0_insert_99 (fun H locs w => ?_)
        have w : zW D _ _ s [(h, .inr (0, [.ref hc, .int (zI (len + am))])), (hc, .inl (cC, 400, .inl (zA C2)))] H locs := w
        have k1_ : (am ≤ 0 → C2 = C ∧ (len + am) = len) ∧ (0 < am → (len + am) = len + am ∧ ∀ j : Nat, (j : Int) < len + am → C2 j = if (j : Int) < pl then C j else if (j : Int) < pl + am then x else C (j - am.toNat)) := by
          refine ⟨fun q => by omega, fun _ => ⟨rfl, ?_⟩⟩
          intro j q
          by_cases q1 : (j : Int) < pl
          · rw [if_pos q1]; exact e1 j q1
          · rw [if_neg q1]
            by_cases q2 : (j : Int) < pl + am
            · rw [if_pos q2]; exact e2 j (by omega) (by omega)
            · rw [if_neg q2]
              have q3 := e3 (j - am.toNat) (by omega) (by omega)
              have q4 : j - am.toNat + am.toNat = j := by omega
              rw [q4] at q3; exact q3
        exact z_vret S hr hlk w (C2, len + am) k1_ rfl dX0_insert_102
      · skip
        refine lv_aload_n S.1 S.2.1 dX0_insert_78 rfl (lv_at hl 0 rfl) ?_
        refine z_get (ci := 0) (C := RX0) (T := TX0) (N := 2) S w 0 rfl rfl in_X0_insert_X0 0 (by decide) ln_X0_insert_9 rfl rfl dX0_insert_79 ?_
        refine lv_iload S.1 S.2.1 dX0_insert_82 (lv_at hl 4 rfl) ?_
        refine lv_iload_n S.1 S.2.1 dX0_insert_84 rfl (lv_at hl 3 rfl) ?_
        refine z_cast S w 1 0 rfl rfl (by omega) (by decide) (by omega) dX0_insert_85 (fun H locs w => ?_)
        have w : zW D _ _ s [(h, .inr (0, [.ref hc, .int (zI len)])), (hc, .inl (cC, 400, .inl (zA (zu C2 i.toNat x))))] H locs := w
        refine lv_iinc (v := zI (i + 1)) (lv' := [(4, .int (zI (i + 1))), (0, .ref h), (1, .int (zI pl)), (2, .int (zI am)), (3, .int (zI x))]) S.1 S.2.1 dX0_insert_86 hl (k := 4) rfl (zI_add i 1) (by decide) rfl (fun ls hl => ?_)
        refine lv_goto (tgt := 70) S.1 S.2.1 dX0_insert_89 (by decide) ?_
        have k2_ : ∀ j : Nat, pl ≤ (j : Int) → (j : Int) < (i + 1) → (zu C2 i.toNat x) j = x := by
          intro j q1 q2; by_cases q3 : (j : Int) = i
          · have q4 : i.toNat = j := by omega
            rw [q4, zu_s]
          · rw [zu_n _ _ (by omega)]; exact e2 j q1 (by omega)
        exact ih (zu C2 i.toNat x) (i + 1) (by omega) (by omega) (by omega) (by intro j q; rw [zu_n _ _ (by omega)]; exact e1 j q) k2_ (by intro j q1 q2; rw [zu_n _ _ (by omega)]; exact e3 j q1 q2) _ _ _ w (lv_sub hl [1, 2, 3, 4, 0] rfl)
  have lab39 : ∀ (n : Nat) (C1 : Nat → Int) (i : Int), (i + 1).toNat < n → (0 < am) → (pl - 1 ≤ i ∧ i ≤ len - 1) → (∀ j : Nat, (j : Int) ≤ i → C1 j = C j) → (∀ j : Nat, i < (j : Int) → (j : Int) < len → C1 (j + am.toNat) = C j) → ∀ (H : Heap) (locs : List Loc) (ls : Array Slot), zW D [(cC, .char)] (va_A [(h, .inr (0, [.ref hc, .int (zI len)])), (hc, .inl (cC, 400, .inl (zA C)))] s.heap.size) s [(h, .inr (0, [.ref hc, .int (zI len)])), (hc, .inl (cC, 400, .inl (zA C1)))] H locs → lv_has ls 5 [(0, .ref h), (1, .int (zI pl)), (2, .int (zI am)), (3, .int (zI x)), (4, .int (zI i))] → W p l e ({ frames := 0, cells := 0, slots := 0, locals := 0 } : Room) s m ([.ref h, .int (zI pl), .int (zI am), .int (zI x)] : List Value).toArray below meth c H locs 0 0 (MQ below (zQv D [(cC, .char)] [(h, .inr (0, [.ref hc, .int (zI len)])), (hc, .inl (cC, 400, .inl (zA C)))] s.heap.size (fun (u : (Nat → Int) × Int) => (am ≤ 0 → u.1 = C ∧ u.2 = len) ∧ (0 < am → u.2 = len + am ∧ ∀ j : Nat, (j : Int) < len + am → u.1 j = if (j : Int) < pl then C j else if (j : Int) < pl + am then x else C (j - am.toNat))) (fun (u : (Nat → Int) × Int) => [(h, .inr (0, [.ref hc, .int (zI u.2)])), (hc, .inl (cC, 400, .inl (zA u.1)))])) ([.ref h, .int (zI pl), .int (zI am), .int (zI x)] : List Value).toArray s 0 0 (va_A [(h, .inr (0, [.ref hc, .int (zI len)])), (hc, .inl (cC, 400, .inl (zA C)))] s.heap.size)) (F0 m 39 ls []) := by
    intro n
    induction n with
    | zero => intro C1 i hm; exact absurd hm (Nat.not_lt_zero _)
    | succ n ih =>
      intro C1 i hm hm hi e1 e3 H locs ls w hl
      refine lv_iload S.1 S.2.1 dX0_insert_39 (lv_at hl 4 rfl) ?_
      refine lv_iload_n S.1 S.2.1 dX0_insert_41 rfl (lv_at hl 1 rfl) ?_
      refine z_icmp_lt (tgt := 67) S dX0_insert_42 (by decide) (by omega) (by omega) (fun h42 => ?_) (fun h42 => ?_)
      · skip
        refine lv_iload_n S.1 S.2.1 dX0_insert_67 rfl (lv_at hl 1 rfl) ?_
        refine lv_istore (lv' := [(4, .int (zI pl)), (0, .ref h), (1, .int (zI pl)), (2, .int (zI am)), (3, .int (zI x))]) S.1 S.2.1 dX0_insert_68 hl (by decide) rfl (fun ls hl => ?_)
        exact lab70 _ C1 pl (Nat.lt_succ_self _) (by omega) (by omega) (fun j q => e1 j (by omega)) (by intro j q1 q2; omega) (fun j q1 q2 => e3 j (by omega) q2) _ _ _ w (lv_sub hl [1, 2, 3, 4, 0] rfl)
      · skip
        refine lv_aload_n S.1 S.2.1 dX0_insert_45 rfl (lv_at hl 0 rfl) ?_
        refine z_get (ci := 0) (C := RX0) (T := TX0) (N := 2) S w 0 rfl rfl in_X0_insert_X0 0 (by decide) ln_X0_insert_9 rfl rfl dX0_insert_46 ?_
        refine lv_iload S.1 S.2.1 dX0_insert_49 (lv_at hl 4 rfl) ?_
        refine lv_iload_n S.1 S.2.1 dX0_insert_51 rfl (lv_at hl 2 rfl) ?_
        refine z_iadd S dX0_insert_52 ?_
        refine lv_aload_n S.1 S.2.1 dX0_insert_53 rfl (lv_at hl 0 rfl) ?_
        refine z_get (ci := 0) (C := RX0) (T := TX0) (N := 2) S w 0 rfl rfl in_X0_insert_X0 0 (by decide) ln_X0_insert_9 rfl rfl dX0_insert_54 ?_
        refine lv_iload S.1 S.2.1 dX0_insert_57 (lv_at hl 4 rfl) ?_
        refine z_cald S w 1 0 rfl rfl (by omega) (by decide) dX0_insert_59 ?_
        refine z_cast S w 1 0 rfl rfl (by omega) (by decide) (by have := hC i.toNat (by omega); rw [e1 i.toNat (by omega)]; exact this) dX0_insert_60 (fun H locs w => ?_)
        have w : zW D _ _ s [(h, .inr (0, [.ref hc, .int (zI len)])), (hc, .inl (cC, 400, .inl (zA (zu C1 (i + am).toNat (C1 i.toNat)))))] H locs := w
        refine lv_iinc (v := zI (i + (-1))) (lv' := [(4, .int (zI (i + (-1)))), (0, .ref h), (1, .int (zI pl)), (2, .int (zI am)), (3, .int (zI x))]) S.1 S.2.1 dX0_insert_61 hl (k := 4) rfl (zI_add i (-1)) (by decide) rfl (fun ls hl => ?_)
        refine lv_goto (tgt := 39) S.1 S.2.1 dX0_insert_64 (by decide) ?_
        have k3_ : ∀ j : Nat, (i + (-1)) < (j : Int) → (j : Int) < len → (zu C1 (i + am).toNat (C1 i.toNat)) (j + am.toNat) = C j := by
          intro j q1 q2; by_cases q3 : (j : Int) = i
          · have q4 : j + am.toNat = (i + am).toNat := by omega
            have q5 : i.toNat = j := by omega
            rw [q4, zu_s, q5]; exact e1 j (by omega)
          · rw [zu_n _ _ (by omega)]; exact e3 j (by omega) q2
        exact ih (zu C1 (i + am).toNat (C1 i.toNat)) (i + (-1)) (by omega) (by omega) (by omega) (by intro j q; rw [zu_n _ _ (by omega)]; exact e1 j (by omega)) k3_ _ _ _ w (lv_sub hl [1, 2, 3, 4, 0] rfl)
  have hl : lv_has ls 5 [(0, .ref h), (1, .int (zI pl)), (2, .int (zI am)), (3, .int (zI x))] := hl
  refine lv_iload_n S.1 S.2.1 dX0_insert_0 rfl (lv_at hl 2 rfl) ?_
  refine z_if_le (tgt := 30) S dX0_insert_1 (by decide) (by omega) (fun h1 => ?_) (fun h1 => ?_)
  · skip
    exact z_vret S hr hlk w (C, len) ⟨fun _ => ⟨rfl, rfl⟩, fun q => by omega⟩ rfl dX0_insert_30
  · skip
    refine lv_iload_n S.1 S.2.1 dX0_insert_4 rfl (lv_at hl 2 rfl) ?_
    refine lv_aload_n S.1 S.2.1 dX0_insert_5 rfl (lv_at hl 0 rfl) ?_
    refine z_get (ci := 0) (C := RX0) (T := TX0) (N := 2) S w 0 rfl rfl in_X0_insert_X0 0 (by decide) ln_X0_insert_9 rfl rfl dX0_insert_6 ?_
    refine z_alen (n := 400) S w 1 0 rfl rfl dX0_insert_9 ?_
    refine lv_aload_n S.1 S.2.1 dX0_insert_10 rfl (lv_at hl 0 rfl) ?_
    refine z_get (ci := 0) (C := RX0) (T := TX0) (N := 2) S w 0 rfl rfl in_X0_insert_X0 1 (by decide) ln_X0_insert_15 rfl rfl dX0_insert_11 ?_
    refine z_isub S dX0_insert_14 ?_
    refine z_icmp_gt (tgt := 30) S dX0_insert_15 (by decide) (by omega) (by omega) (fun h15 => ?_) (fun h15 => ?_)
    · skip
      exfalso; omega
    · skip
      refine lv_iload_n S.1 S.2.1 dX0_insert_18 rfl (lv_at hl 1 rfl) ?_
      refine z_if_lt (tgt := 30) S dX0_insert_19 (by decide) (by omega) (fun h19 => ?_) (fun h19 => ?_)
      · skip
        exfalso; omega
      · skip
        refine lv_iload_n S.1 S.2.1 dX0_insert_22 rfl (lv_at hl 1 rfl) ?_
        refine lv_aload_n S.1 S.2.1 dX0_insert_23 rfl (lv_at hl 0 rfl) ?_
        refine z_get (ci := 0) (C := RX0) (T := TX0) (N := 2) S w 0 rfl rfl in_X0_insert_X0 1 (by decide) ln_X0_insert_15 rfl rfl dX0_insert_24 ?_
        refine z_icmp_le (tgt := 31) S dX0_insert_27 (by decide) (by omega) (by omega) (fun h27 => ?_) (fun h27 => ?_)
        · skip
          refine lv_aload_n S.1 S.2.1 dX0_insert_31 rfl (lv_at hl 0 rfl) ?_
          refine z_get (ci := 0) (C := RX0) (T := TX0) (N := 2) S w 0 rfl rfl in_X0_insert_X0 1 (by decide) ln_X0_insert_15 rfl rfl dX0_insert_32 ?_
          refine z_iconst S dX0_insert_35 ?_
          refine z_isub S dX0_insert_36 ?_
          refine lv_istore (lv' := [(4, .int (zI (len - 1))), (0, .ref h), (1, .int (zI pl)), (2, .int (zI am)), (3, .int (zI x))]) S.1 S.2.1 dX0_insert_37 hl (by decide) rfl (fun ls hl => ?_)
          exact lab39 _ C (len - 1) (Nat.lt_succ_self _) (by omega) (by omega) (fun j _ => rfl) (by intro j q1 q2; omega) _ _ _ w (lv_sub hl [1, 2, 3, 4, 0] rfl)
        · skip
          exfalso; omega
end
section
/-- the digit at a place of the row, 0 outside of it -/
def dI (r : Nat → Int) (i : Int) : Int := if 0 ≤ i ∧ i < 774 then r i.toNat else 0
theorem dI_9 {r : Nat → Int} (h : ∀ j : Nat, j < 774 → 0 ≤ r j ∧ r j ≤ 9) (i : Int) : 0 ≤ dI r i ∧ dI r i ≤ 9 := by
  unfold dI
  by_cases k : 0 ≤ i ∧ i < 774
  · rw [if_pos k]; exact h _ (by omega)
  · rw [if_neg k]; omega

set_option maxRecDepth 20000 in
theorem ln_X1_digitIn_19 : Cond.fieldLink RX1 19 "DecimalText$Worth" "row" "[I" ∈ wsX1_digitIn := by decide +kernel
theorem in_X1_digitIn_X1 : ∀ w ∈ u_ws RX1 TX1 5, w ∈ wsX1_digitIn := by decide +kernel
set_option maxHeartbeats 4000000 in
set_option maxRecDepth 100000 in
theorem c_X1_digitIn (l : Launch) (D : va_G) (cL cR : ClassId) (h : Nat) (ha : Nat) (hr1 : Nat) (L : Nat → Int) (lc : Int) (Rw : Nat → Int) (cnt : Int) (dec : Int) (i : Int) (hi : -2147483648 ≤ i ∧ i ≤ 2147483647) : zMi (T := Unit) l yX1_digitIn wsX1_digitIn ({ frames := 0, cells := 0, slots := 0, locals := 0 } : Room) D [(cL, .int), (cR, .int)] [.ref h, .int (zI i)] [(h, .inr (1, [.ref ha, .int (zI lc), .ref hr1, .int (zI cnt), .int (zI dec)])), (ha, .inl (cL, 86, .inl (zA L))), (hr1, .inl (cR, 774, .inl (zA Rw)))] (fun (z : Int) (u : Unit) => z = dI Rw i) (fun (u : Unit) => [(h, .inr (1, [.ref ha, .int (zI lc), .ref hr1, .int (zI cnt), .int (zI dec)])), (ha, .inl (cL, 86, .inl (zA L))), (hr1, .inl (cR, 774, .inl (zA Rw)))]) 0 0 := by
  refine zMi.of (bytes := cX1_digitIn) (nL := 2) (own := RX1) (by decide) rfl rfl (Nat.le_of_ble_eq_true rfl) ?_
  intro p e s m below meth c ls S hr hlk hnm w hl
  have hl : lv_has ls 2 [(0, .ref h), (1, .int (zI i))] := hl
  refine lv_iload_n S.1 S.2.1 dX1_digitIn_0 rfl (lv_at hl 1 rfl) ?_
  refine z_if_lt (tgt := 13) S dX1_digitIn_1 (by decide) (by omega) (fun h1 => ?_) (fun h1 => ?_)
  · skip
    refine z_iconst S dX1_digitIn_13 ?_
    exact z_iret S hr hlk w (zNar_int _) () (by unfold dI; rw [if_neg (by omega)]) rfl dX1_digitIn_14
  · skip
    refine lv_iload_n S.1 S.2.1 dX1_digitIn_4 rfl (lv_at hl 1 rfl) ?_
    refine lv_aload_n S.1 S.2.1 dX1_digitIn_5 rfl (lv_at hl 0 rfl) ?_
    refine z_get (ci := 1) (C := RX1) (T := TX1) (N := 5) S w 0 rfl rfl in_X1_digitIn_X1 2 (by decide) ln_X1_digitIn_19 rfl rfl dX1_digitIn_6 ?_
    refine z_alen (n := 774) S w 2 1 rfl rfl dX1_digitIn_9 ?_
    refine z_icmp_lt (tgt := 15) S dX1_digitIn_10 (by decide) (by omega) (by omega) (fun h10 => ?_) (fun h10 => ?_)
    · skip
      refine lv_aload_n S.1 S.2.1 dX1_digitIn_15 rfl (lv_at hl 0 rfl) ?_
      refine z_get (ci := 1) (C := RX1) (T := TX1) (N := 5) S w 0 rfl rfl in_X1_digitIn_X1 2 (by decide) ln_X1_digitIn_19 rfl rfl dX1_digitIn_16 ?_
      refine lv_iload_n S.1 S.2.1 dX1_digitIn_19 rfl (lv_at hl 1 rfl) ?_
      refine z_iald S w 2 1 rfl rfl (by omega) (by decide) dX1_digitIn_20 ?_
      exact z_iret S hr hlk w (zNar_int _) () (by unfold dI; rw [if_pos (by omega)]) rfl dX1_digitIn_21
    · skip
      refine z_iconst S dX1_digitIn_13 ?_
      exact z_iret S hr hlk w (zNar_int _) () (by unfold dI; rw [if_neg (by omega)]) rfl dX1_digitIn_14

set_option maxRecDepth 20000 in
theorem ln_X1_lowestIndex_22 : Cond.fieldLink RX1 22 "DecimalText$Worth" "count" "I" ∈ wsX1_lowestIndex := by decide +kernel
theorem in_X1_lowestIndex_X1 : ∀ w ∈ u_ws RX1 TX1 5, w ∈ wsX1_lowestIndex := by decide +kernel
set_option maxHeartbeats 4000000 in
set_option maxRecDepth 100000 in
theorem c_X1_lowestIndex (l : Launch) (D : va_G) (cL cR : ClassId) (h : Nat) (ha : Nat) (hr1 : Nat) (L : Nat → Int) (lc : Int) (Rw : Nat → Int) (cnt : Int) (dec : Int) (hcnt : 0 ≤ cnt ∧ cnt ≤ 774) (h9 : ∀ j : Nat, j < 774 → 0 ≤ Rw j ∧ Rw j ≤ 9) : zMi (T := Unit) l yX1_lowestIndex wsX1_lowestIndex ({ frames := 1, cells := 0, slots := 0, locals := 21 } : Room) D [(cL, .int), (cR, .int)] [.ref h] [(h, .inr (1, [.ref ha, .int (zI lc), .ref hr1, .int (zI cnt), .int (zI dec)])), (ha, .inl (cL, 86, .inl (zA L))), (hr1, .inl (cR, 774, .inl (zA Rw)))] (fun (z : Int) (u : Unit) => (0 ≤ z ∧ z ≤ cnt) ∧ (∀ j : Nat, (j : Int) < z → Rw j = 0) ∧ (z < cnt → Rw (z).toNat ≠ 0)) (fun (u : Unit) => [(h, .inr (1, [.ref ha, .int (zI lc), .ref hr1, .int (zI cnt), .int (zI dec)])), (ha, .inl (cL, 86, .inl (zA L))), (hr1, .inl (cR, 774, .inl (zA Rw)))]) 0 0 := by
  refine zMi.of (bytes := cX1_lowestIndex) (nL := 2) (own := RX1) (by decide) rfl rfl (Nat.le_of_ble_eq_true rfl) ?_
  intro p e s m below meth c ls S hr hlk hnm w hl
  have lab2 : ∀ (n : Nat) (i : Int), (cnt - i).toNat < n → (0 ≤ i ∧ i ≤ cnt) → (∀ j : Nat, (j : Int) < i → Rw j = 0) → ∀ (H : Heap) (locs : List Loc) (ls : Array Slot), zW D [(cL, .int), (cR, .int)] (va_A [(h, .inr (1, [.ref ha, .int (zI lc), .ref hr1, .int (zI cnt), .int (zI dec)])), (ha, .inl (cL, 86, .inl (zA L))), (hr1, .inl (cR, 774, .inl (zA Rw)))] s.heap.size) s [(h, .inr (1, [.ref ha, .int (zI lc), .ref hr1, .int (zI cnt), .int (zI dec)])), (ha, .inl (cL, 86, .inl (zA L))), (hr1, .inl (cR, 774, .inl (zA Rw)))] H locs → lv_has ls 2 [(0, .ref h), (1, .int (zI i))] → W p l e ({ frames := 1, cells := 0, slots := 0, locals := 21 } : Room) s m ([.ref h] : List Value).toArray below meth c H locs 0 0 (MQ below (zQi D [(cL, .int), (cR, .int)] [(h, .inr (1, [.ref ha, .int (zI lc), .ref hr1, .int (zI cnt), .int (zI dec)])), (ha, .inl (cL, 86, .inl (zA L))), (hr1, .inl (cR, 774, .inl (zA Rw)))] s.heap.size (fun (z : Int) (u : Unit) => (0 ≤ z ∧ z ≤ cnt) ∧ (∀ j : Nat, (j : Int) < z → Rw j = 0) ∧ (z < cnt → Rw (z).toNat ≠ 0)) (fun (u : Unit) => [(h, .inr (1, [.ref ha, .int (zI lc), .ref hr1, .int (zI cnt), .int (zI dec)])), (ha, .inl (cL, 86, .inl (zA L))), (hr1, .inl (cR, 774, .inl (zA Rw)))])) ([.ref h] : List Value).toArray s 0 0 (va_A [(h, .inr (1, [.ref ha, .int (zI lc), .ref hr1, .int (zI cnt), .int (zI dec)])), (ha, .inl (cL, 86, .inl (zA L))), (hr1, .inl (cR, 774, .inl (zA Rw)))] s.heap.size)) (F0 m 2 ls []) := by
    intro n
    induction n with
    | zero => intro i hm; exact absurd hm (Nat.not_lt_zero _)
    | succ n ih =>
      intro i hm hi e1 H locs ls w hl
      refine lv_iload_n S.1 S.2.1 dX1_lowestIndex_2 rfl (lv_at hl 1 rfl) ?_
      refine lv_aload_n S.1 S.2.1 dX1_lowestIndex_3 rfl (lv_at hl 0 rfl) ?_
      refine z_get (ci := 1) (C := RX1) (T := TX1) (N := 5) S w 0 rfl rfl in_X1_lowestIndex_X1 3 (by decide) ln_X1_lowestIndex_22 rfl rfl dX1_lowestIndex_4 ?_
      refine z_icmp_ge (tgt := 24) S dX1_lowestIndex_7 (by decide) (by omega) (by omega) (fun h7 => ?_) (fun h7 => ?_)
      · skip
        refine lv_iload_n S.1 S.2.1 dX1_lowestIndex_24 rfl (lv_at hl 1 rfl) ?_
        have k1_ : (0 ≤ (i : Int) ∧ (i : Int) ≤ cnt) ∧ (∀ j : Nat, (j : Int) < (i : Int) → Rw j = 0) ∧ ((i : Int) < cnt → Rw ((i : Int)).toNat ≠ 0) := by
          refine ⟨hi, e1, fun q => ?_⟩
          first
            | (exfalso; omega)
            | (have q4 : dI Rw i = Rw i.toNat := if_pos (by omega)
               rw [← q4, ← p12]; exact h15)
        exact z_iret S hr hlk w (zNar_int _) () k1_ rfl dX1_lowestIndex_25
      · skip
        refine lv_aload_n S.1 S.2.1 dX1_lowestIndex_10 rfl (lv_at hl 0 rfl) ?_
        refine lv_iload_n S.1 S.2.1 dX1_lowestIndex_11 rfl (lv_at hl 1 rfl) ?_
        refine z_calliV (C := RX1) (n := 1) (As := [.int (zI i)]) (rest := []) (wr := []) (wn := (fun (u : Unit) => [(h, .inr (1, [.ref ha, .int (zI lc), .ref hr1, .int (zI cnt), .int (zI dec)])), (ha, .inl (cL, 86, .inl (zA L))), (hr1, .inl (cR, 774, .inl (zA Rw)))])) S w (c_X1_digitIn l D cL cR h ha hr1 L lc Rw cnt dec i (by omega)) gX1_lowestIndex_X1_digitIn (by decide +kernel) rfl ⟨rfl, rfl⟩ ⟨Nat.le_of_ble_eq_true rfl, Nat.le_of_ble_eq_true rfl⟩ [0, 1] [0, 1, 2] [] [0, 1, 2] rfl rfl rfl rfl rfl (by decide) (fun u => rfl) rfl rfl rfl rfl rfl hl.1 (Nat.le_of_ble_eq_true rfl) ⟨Nat.le_of_ble_eq_true rfl, Nat.le_of_ble_eq_true rfl⟩ rfl dX1_lowestIndex_12 (fun z12 _ H locs p12 w => ?_)
        have p12 : z12 = dI Rw i := p12
        have w : zW D _ _ s [(h, .inr (1, [.ref ha, .int (zI lc), .ref hr1, .int (zI cnt), .int (zI dec)])), (ha, .inl (cL, 86, .inl (zA L))), (hr1, .inl (cR, 774, .inl (zA Rw)))] H locs := w
        refine z_if_ne (tgt := 24) S dX1_lowestIndex_15 (by decide) (by have := dI_9 h9 i; omega) (fun h15 => ?_) (fun h15 => ?_)
        · skip
          refine lv_iload_n S.1 S.2.1 dX1_lowestIndex_24 rfl (lv_at hl 1 rfl) ?_
          have k2_ : (0 ≤ (i : Int) ∧ (i : Int) ≤ cnt) ∧ (∀ j : Nat, (j : Int) < (i : Int) → Rw j = 0) ∧ ((i : Int) < cnt → Rw ((i : Int)).toNat ≠ 0) := by
            refine ⟨hi, e1, fun q => ?_⟩
            first
              | (exfalso; omega)
              | (have q4 : dI Rw i = Rw i.toNat := if_pos (by omega)
                 rw [← q4, ← p12]; exact h15)
          exact z_iret S hr hlk w (zNar_int _) () k2_ rfl dX1_lowestIndex_25
        · skip
          refine lv_iinc (v := zI (i + 1)) (lv' := [(1, .int (zI (i + 1))), (0, .ref h)]) S.1 S.2.1 dX1_lowestIndex_18 hl (k := 1) rfl (zI_add i 1) (by decide) rfl (fun ls hl => ?_)
          refine lv_goto (tgt := 2) S.1 S.2.1 dX1_lowestIndex_21 (by decide) ?_
          have k3_ : ∀ j : Nat, (j : Int) < (i + 1) → Rw j = 0 := by
            intro j q
            by_cases q2 : (j : Int) = i
            · have q3 : i.toNat = j := by omega
              have q4 : dI Rw i = Rw i.toNat := if_pos (by omega)
              rw [← q3, ← q4, ← p12]; exact h15
            · exact e1 j (by omega)
          exact ih (i + 1) (by omega) (by omega) k3_ _ _ _ w (lv_sub hl [1, 0] rfl)
  have hl : lv_has ls 2 [(0, .ref h)] := hl
  refine z_iconst S dX1_lowestIndex_0 ?_
  refine lv_istore_n (lv' := [(1, .int (zI 0)), (0, .ref h)]) S.1 S.2.1 dX1_lowestIndex_1 rfl hl (by decide) rfl (fun ls hl => ?_)
  exact lab2 _ 0 (Nat.lt_succ_self _) (by omega) (fun j q => by omega) _ _ _ w (lv_sub hl [1, 0] rfl)

set_option maxRecDepth 20000 in
theorem ln_X1_digitCount_22 : Cond.fieldLink RX1 22 "DecimalText$Worth" "count" "I" ∈ wsX1_digitCount := by decide +kernel
theorem in_X1_digitCount_X1 : ∀ w ∈ u_ws RX1 TX1 5, w ∈ wsX1_digitCount := by decide +kernel
set_option maxHeartbeats 4000000 in
set_option maxRecDepth 100000 in
theorem c_X1_digitCount (l : Launch) (D : va_G) (cL cR : ClassId) (h : Nat) (ha : Nat) (hr1 : Nat) (L : Nat → Int) (lc : Int) (Rw : Nat → Int) (cnt : Int) (dec : Int) (hcnt : 0 ≤ cnt ∧ cnt ≤ 774) (h9 : ∀ j : Nat, j < 774 → 0 ≤ Rw j ∧ Rw j ≤ 9) : zMi (T := Unit) l yX1_digitCount wsX1_digitCount ({ frames := 2, cells := 0, slots := 0, locals := 42 } : Room) D [(cL, .int), (cR, .int)] [.ref h] [(h, .inr (1, [.ref ha, .int (zI lc), .ref hr1, .int (zI cnt), .int (zI dec)])), (ha, .inl (cL, 86, .inl (zA L))), (hr1, .inl (cR, 774, .inl (zA Rw)))] (fun (z : Int) (u : Unit) => ∃ k : Int, z = cnt - k ∧ (0 ≤ k ∧ k ≤ cnt) ∧ (∀ j : Nat, (j : Int) < k → Rw j = 0) ∧ (k < cnt → Rw k.toNat ≠ 0)) (fun (u : Unit) => [(h, .inr (1, [.ref ha, .int (zI lc), .ref hr1, .int (zI cnt), .int (zI dec)])), (ha, .inl (cL, 86, .inl (zA L))), (hr1, .inl (cR, 774, .inl (zA Rw)))]) 0 0 := by
  refine zMi.of (bytes := cX1_digitCount) (nL := 1) (own := RX1) (by decide) rfl rfl (Nat.le_of_ble_eq_true rfl) ?_
  intro p e s m below meth c ls S hr hlk hnm w hl
  have hl : lv_has ls 1 [(0, .ref h)] := hl
  refine lv_aload_n S.1 S.2.1 dX1_digitCount_0 rfl (lv_at hl 0 rfl) ?_
  refine z_get (ci := 1) (C := RX1) (T := TX1) (N := 5) S w 0 rfl rfl in_X1_digitCount_X1 3 (by decide) ln_X1_digitCount_22 rfl rfl dX1_digitCount_1 ?_
  refine lv_aload_n S.1 S.2.1 dX1_digitCount_4 rfl (lv_at hl 0 rfl) ?_
  refine z_calliV (C := RX1) (n := 0) (As := []) (rest := [.int (zI cnt)]) (wr := []) (wn := (fun (u : Unit) => [(h, .inr (1, [.ref ha, .int (zI lc), .ref hr1, .int (zI cnt), .int (zI dec)])), (ha, .inl (cL, 86, .inl (zA L))), (hr1, .inl (cR, 774, .inl (zA Rw)))])) S w (c_X1_lowestIndex l D cL cR h ha hr1 L lc Rw cnt dec (by omega) h9) gX1_digitCount_X1_lowestIndex (by decide +kernel) rfl ⟨rfl, rfl⟩ ⟨Nat.le_of_ble_eq_true rfl, Nat.le_of_ble_eq_true rfl⟩ [0, 1] [0, 1, 2] [] [0, 1, 2] rfl rfl rfl rfl rfl (by decide) (fun u => rfl) rfl rfl rfl rfl rfl hl.1 (Nat.le_of_ble_eq_true rfl) ⟨Nat.le_of_ble_eq_true rfl, Nat.le_of_ble_eq_true rfl⟩ rfl dX1_digitCount_5 (fun z5 _ H locs p5 w => ?_)
  have p5 : (0 ≤ z5 ∧ z5 ≤ cnt) ∧ (∀ j : Nat, (j : Int) < z5 → Rw j = 0) ∧ (z5 < cnt → Rw (z5).toNat ≠ 0) := p5
  have w : zW D _ _ s [(h, .inr (1, [.ref ha, .int (zI lc), .ref hr1, .int (zI cnt), .int (zI dec)])), (ha, .inl (cL, 86, .inl (zA L))), (hr1, .inl (cR, 774, .inl (zA Rw)))] H locs := w
  refine z_isub S dX1_digitCount_8 ?_
  exact z_iret S hr hlk w (zNar_int _) () ⟨z5, rfl, p5⟩ rfl dX1_digitCount_9

set_option maxRecDepth 20000 in
theorem ln_X1_highestPower_22 : Cond.fieldLink RX1 22 "DecimalText$Worth" "count" "I" ∈ wsX1_highestPower := by decide +kernel
theorem in_X1_highestPower_X1 : ∀ w ∈ u_ws RX1 TX1 5, w ∈ wsX1_highestPower := by decide +kernel
set_option maxRecDepth 20000 in
theorem ln_X1_highestPower_25 : Cond.fieldLink RX1 25 "DecimalText$Worth" "decimals" "I" ∈ wsX1_highestPower := by decide +kernel
set_option maxHeartbeats 4000000 in
set_option maxRecDepth 100000 in
theorem c_X1_highestPower (l : Launch) (D : va_G) (cL cR : ClassId) (h : Nat) (ha : Nat) (hr1 : Nat) (L : Nat → Int) (lc : Int) (Rw : Nat → Int) (cnt : Int) (dec : Int) (hcnt : 0 ≤ cnt ∧ cnt ≤ 774) (hdec : 0 ≤ dec ∧ dec ≤ 1074) : zMi (T := Unit) l yX1_highestPower wsX1_highestPower ({ frames := 0, cells := 0, slots := 0, locals := 0 } : Room) D [(cL, .int), (cR, .int)] [.ref h] [(h, .inr (1, [.ref ha, .int (zI lc), .ref hr1, .int (zI cnt), .int (zI dec)])), (ha, .inl (cL, 86, .inl (zA L))), (hr1, .inl (cR, 774, .inl (zA Rw)))] (fun (z : Int) (u : Unit) => z = (if cnt = 0 then 0 else cnt - 1 - dec)) (fun (u : Unit) => [(h, .inr (1, [.ref ha, .int (zI lc), .ref hr1, .int (zI cnt), .int (zI dec)])), (ha, .inl (cL, 86, .inl (zA L))), (hr1, .inl (cR, 774, .inl (zA Rw)))]) 0 0 := by
  refine zMi.of (bytes := cX1_highestPower) (nL := 1) (own := RX1) (by decide) rfl rfl (Nat.le_of_ble_eq_true rfl) ?_
  intro p e s m below meth c ls S hr hlk hnm w hl
  have hl : lv_has ls 1 [(0, .ref h)] := hl
  refine lv_aload_n S.1 S.2.1 dX1_highestPower_0 rfl (lv_at hl 0 rfl) ?_
  refine z_get (ci := 1) (C := RX1) (T := TX1) (N := 5) S w 0 rfl rfl in_X1_highestPower_X1 3 (by decide) ln_X1_highestPower_22 rfl rfl dX1_highestPower_1 ?_
  refine z_if_ne (tgt := 11) S dX1_highestPower_4 (by decide) (by omega) (fun h4 => ?_) (fun h4 => ?_)
  · skip
    refine lv_aload_n S.1 S.2.1 dX1_highestPower_11 rfl (lv_at hl 0 rfl) ?_
    refine z_get (ci := 1) (C := RX1) (T := TX1) (N := 5) S w 0 rfl rfl in_X1_highestPower_X1 3 (by decide) ln_X1_highestPower_22 rfl rfl dX1_highestPower_12 ?_
    refine z_iconst S dX1_highestPower_15 ?_
    refine z_isub S dX1_highestPower_16 ?_
    refine lv_aload_n S.1 S.2.1 dX1_highestPower_17 rfl (lv_at hl 0 rfl) ?_
    refine z_get (ci := 1) (C := RX1) (T := TX1) (N := 5) S w 0 rfl rfl in_X1_highestPower_X1 4 (by decide) ln_X1_highestPower_25 rfl rfl dX1_highestPower_18 ?_
    refine z_isub S dX1_highestPower_21 ?_
    exact z_iret S hr hlk w (zNar_int _) () (by rw [if_neg (by omega)]) rfl dX1_highestPower_22
  · skip
    refine z_iconst S dX1_highestPower_7 ?_
    refine lv_goto (tgt := 22) S.1 S.2.1 dX1_highestPower_8 (by decide) ?_
    exact z_iret S hr hlk w (zNar_int _) () (by rw [if_pos (by omega)]) rfl dX1_highestPower_22

set_option maxRecDepth 20000 in
theorem ln_X1_digitOf_25 : Cond.fieldLink RX1 25 "DecimalText$Worth" "decimals" "I" ∈ wsX1_digitOf := by decide +kernel
theorem in_X1_digitOf_X1 : ∀ w ∈ u_ws RX1 TX1 5, w ∈ wsX1_digitOf := by decide +kernel
set_option maxHeartbeats 4000000 in
set_option maxRecDepth 100000 in
theorem c_X1_digitOf (l : Launch) (D : va_G) (cL cR : ClassId) (h : Nat) (ha : Nat) (hr1 : Nat) (L : Nat → Int) (lc : Int) (Rw : Nat → Int) (cnt : Int) (dec : Int) (po : Int) (hpo : -2000 ≤ po ∧ po ≤ 2000) (hdec : 0 ≤ dec ∧ dec ≤ 1074) : zMi (T := Unit) l yX1_digitOf wsX1_digitOf ({ frames := 1, cells := 0, slots := 0, locals := 21 } : Room) D [(cL, .int), (cR, .int)] [.ref h, .int (zI po)] [(h, .inr (1, [.ref ha, .int (zI lc), .ref hr1, .int (zI cnt), .int (zI dec)])), (ha, .inl (cL, 86, .inl (zA L))), (hr1, .inl (cR, 774, .inl (zA Rw)))] (fun (z : Int) (u : Unit) => z = dI Rw (po + dec)) (fun (u : Unit) => [(h, .inr (1, [.ref ha, .int (zI lc), .ref hr1, .int (zI cnt), .int (zI dec)])), (ha, .inl (cL, 86, .inl (zA L))), (hr1, .inl (cR, 774, .inl (zA Rw)))]) 0 0 := by
  refine zMi.of (bytes := cX1_digitOf) (nL := 2) (own := RX1) (by decide) rfl rfl (Nat.le_of_ble_eq_true rfl) ?_
  intro p e s m below meth c ls S hr hlk hnm w hl
  have hl : lv_has ls 2 [(0, .ref h), (1, .int (zI po))] := hl
  refine lv_aload_n S.1 S.2.1 dX1_digitOf_0 rfl (lv_at hl 0 rfl) ?_
  refine lv_iload_n S.1 S.2.1 dX1_digitOf_1 rfl (lv_at hl 1 rfl) ?_
  refine lv_aload_n S.1 S.2.1 dX1_digitOf_2 rfl (lv_at hl 0 rfl) ?_
  refine z_get (ci := 1) (C := RX1) (T := TX1) (N := 5) S w 0 rfl rfl in_X1_digitOf_X1 4 (by decide) ln_X1_digitOf_25 rfl rfl dX1_digitOf_3 ?_
  refine z_iadd S dX1_digitOf_6 ?_
  refine z_calliV (C := RX1) (n := 1) (As := [.int (zI (po + dec))]) (rest := []) (wr := []) (wn := (fun (u : Unit) => [(h, .inr (1, [.ref ha, .int (zI lc), .ref hr1, .int (zI cnt), .int (zI dec)])), (ha, .inl (cL, 86, .inl (zA L))), (hr1, .inl (cR, 774, .inl (zA Rw)))])) S w (c_X1_digitIn l D cL cR h ha hr1 L lc Rw cnt dec (po + dec) (by omega)) gX1_digitOf_X1_digitIn (by decide +kernel) rfl ⟨rfl, rfl⟩ ⟨Nat.le_of_ble_eq_true rfl, Nat.le_of_ble_eq_true rfl⟩ [0, 1] [0, 1, 2] [] [0, 1, 2] rfl rfl rfl rfl rfl (by decide) (fun u => rfl) rfl rfl rfl rfl rfl hl.1 (Nat.le_of_ble_eq_true rfl) ⟨Nat.le_of_ble_eq_true rfl, Nat.le_of_ble_eq_true rfl⟩ rfl dX1_digitOf_7 (fun z7 _ H locs p7 w => ?_)
  have p7 : z7 = dI Rw (po + dec) := p7
  have w : zW D _ _ s [(h, .inr (1, [.ref ha, .int (zI lc), .ref hr1, .int (zI cnt), .int (zI dec)])), (ha, .inl (cL, 86, .inl (zA L))), (hr1, .inl (cR, 774, .inl (zA Rw)))] H locs := w
  exact z_iret S hr hlk w (zNar_int _) () p7 rfl dX1_digitOf_10

set_option maxHeartbeats 4000000 in
set_option maxRecDepth 100000 in
theorem c_X1_isNearerAbove (l : Launch) (D : va_G) (cL cR : ClassId) (h : Nat) (ha : Nat) (hr1 : Nat) (L : Nat → Int) (lc : Int) (Rw : Nat → Int) (cnt : Int) (dec : Int) (cut : Int) (hcut : 0 < cut ∧ cut ≤ 3000) (hcnt : 0 ≤ cnt ∧ cnt ≤ 774) (h9 : ∀ j : Nat, j < 774 → 0 ≤ Rw j ∧ Rw j ≤ 9) (hz : ∀ j : Nat, cnt ≤ (j : Int) → j < 774 → Rw j = 0) : zMi (T := Unit) l yX1_isNearerAbove wsX1_isNearerAbove ({ frames := 2, cells := 0, slots := 0, locals := 42 } : Room) D [(cL, .int), (cR, .int)] [.ref h, .int (zI cut)] [(h, .inr (1, [.ref ha, .int (zI lc), .ref hr1, .int (zI cnt), .int (zI dec)])), (ha, .inl (cL, 86, .inl (zA L))), (hr1, .inl (cR, 774, .inl (zA Rw)))] (fun (z : Int) (u : Unit) => (z = 1 ∧ (5 < dI Rw (cut - 1) ∨ (dI Rw (cut - 1) = 5 ∧ ((∃ j : Nat, (j : Int) < cut - 1 ∧ Rw j ≠ 0) ∨ dI Rw cut % 2 = 1)))) ∨ (z = 0 ∧ ¬ (5 < dI Rw (cut - 1) ∨ (dI Rw (cut - 1) = 5 ∧ ((∃ j : Nat, (j : Int) < cut - 1 ∧ Rw j ≠ 0) ∨ dI Rw cut % 2 = 1))))) (fun (u : Unit) => [(h, .inr (1, [.ref ha, .int (zI lc), .ref hr1, .int (zI cnt), .int (zI dec)])), (ha, .inl (cL, 86, .inl (zA L))), (hr1, .inl (cR, 774, .inl (zA Rw)))]) 0 0 := by
  refine zMi.of (bytes := cX1_isNearerAbove) (nL := 4) (own := RX1) (by decide) rfl rfl (Nat.le_of_ble_eq_true rfl) ?_
  intro p e s m below meth c ls S hr hlk hnm w hl
  have hl : lv_has ls 4 [(0, .ref h), (1, .int (zI cut))] := hl
  refine lv_aload_n S.1 S.2.1 dX1_isNearerAbove_0 rfl (lv_at hl 0 rfl) ?_
  refine lv_iload_n S.1 S.2.1 dX1_isNearerAbove_1 rfl (lv_at hl 1 rfl) ?_
  refine z_iconst S dX1_isNearerAbove_2 ?_
  refine z_isub S dX1_isNearerAbove_3 ?_
  refine z_calliV (C := RX1) (n := 1) (As := [.int (zI (cut - 1))]) (rest := []) (wr := []) (wn := (fun (u : Unit) => [(h, .inr (1, [.ref ha, .int (zI lc), .ref hr1, .int (zI cnt), .int (zI dec)])), (ha, .inl (cL, 86, .inl (zA L))), (hr1, .inl (cR, 774, .inl (zA Rw)))])) S w (c_X1_digitIn l D cL cR h ha hr1 L lc Rw cnt dec (cut - 1) (by omega)) gX1_isNearerAbove_X1_digitIn (by decide +kernel) rfl ⟨rfl, rfl⟩ ⟨Nat.le_of_ble_eq_true rfl, Nat.le_of_ble_eq_true rfl⟩ [0, 1] [0, 1, 2] [] [0, 1, 2] rfl rfl rfl rfl rfl (by decide) (fun u => rfl) rfl rfl rfl rfl rfl hl.1 (Nat.le_of_ble_eq_true rfl) ⟨Nat.le_of_ble_eq_true rfl, Nat.le_of_ble_eq_true rfl⟩ rfl dX1_isNearerAbove_4 (fun z4 _ H locs p4 w => ?_)
  have p4 : z4 = dI Rw (cut - 1) := p4
  have w : zW D _ _ s [(h, .inr (1, [.ref ha, .int (zI lc), .ref hr1, .int (zI cnt), .int (zI dec)])), (ha, .inl (cL, 86, .inl (zA L))), (hr1, .inl (cR, 774, .inl (zA Rw)))] H locs := w
  have b4 := dI_9 h9 (cut - 1)
  rw [← p4] at b4
  refine lv_istore_n (lv' := [(2, .int (zI z4)), (0, .ref h), (1, .int (zI cut))]) S.1 S.2.1 dX1_isNearerAbove_7 rfl hl (by decide) rfl (fun ls hl => ?_)
  refine lv_iload_n S.1 S.2.1 dX1_isNearerAbove_8 rfl (lv_at hl 0 rfl) ?_
  refine z_iconst S dX1_isNearerAbove_9 ?_
  refine z_icmp_eq (tgt := 24) S dX1_isNearerAbove_10 (by decide) (by omega) (by omega) (fun h10 => ?_) (fun h10 => ?_)
  · skip
    refine lv_aload_n S.1 S.2.1 dX1_isNearerAbove_24 rfl (lv_at hl 1 rfl) ?_
    refine z_calliV (C := RX1) (n := 0) (As := []) (rest := []) (wr := []) (wn := (fun (u : Unit) => [(h, .inr (1, [.ref ha, .int (zI lc), .ref hr1, .int (zI cnt), .int (zI dec)])), (ha, .inl (cL, 86, .inl (zA L))), (hr1, .inl (cR, 774, .inl (zA Rw)))])) S w (c_X1_lowestIndex l D cL cR h ha hr1 L lc Rw cnt dec (by omega) h9) gX1_isNearerAbove_X1_lowestIndex (by decide +kernel) rfl ⟨rfl, rfl⟩ ⟨Nat.le_of_ble_eq_true rfl, Nat.le_of_ble_eq_true rfl⟩ [0, 1] [0, 1, 2] [] [0, 1, 2] rfl rfl rfl rfl rfl (by decide) (fun u => rfl) rfl rfl rfl rfl rfl hl.1 (Nat.le_of_ble_eq_true rfl) ⟨Nat.le_of_ble_eq_true rfl, Nat.le_of_ble_eq_true rfl⟩ rfl dX1_isNearerAbove_25 (fun z25 _ H locs p25 w => ?_)
    have p25 : (0 ≤ z25 ∧ z25 ≤ cnt) ∧ (∀ j : Nat, (j : Int) < z25 → Rw j = 0) ∧ (z25 < cnt → Rw (z25).toNat ≠ 0) := p25
    have w : zW D _ _ s [(h, .inr (1, [.ref ha, .int (zI lc), .ref hr1, .int (zI cnt), .int (zI dec)])), (ha, .inl (cL, 86, .inl (zA L))), (hr1, .inl (cR, 774, .inl (zA Rw)))] H locs := w
    obtain ⟨l1, l2, l3⟩ := p25
    refine lv_iload_n S.1 S.2.1 dX1_isNearerAbove_28 rfl (lv_at hl 2 rfl) ?_
    refine z_iconst S dX1_isNearerAbove_29 ?_
    refine z_isub S dX1_isNearerAbove_30 ?_
    refine z_icmp_ne (tgt := 38) S dX1_isNearerAbove_31 (by decide) (by omega) (by omega) (fun h31 => ?_) (fun h31 => ?_)
    · skip
      refine z_iconst S dX1_isNearerAbove_38 ?_
      refine lv_istore_n (lv' := [(3, .int (zI 0)), (2, .int (zI z4)), (0, .ref h), (1, .int (zI cut))]) S.1 S.2.1 dX1_isNearerAbove_39 rfl hl (by decide) rfl (fun ls hl => ?_)
      refine lv_iload_n S.1 S.2.1 dX1_isNearerAbove_40 rfl (lv_at hl 0 rfl) ?_
      refine z_if_eq (tgt := 55) S dX1_isNearerAbove_41 (by decide) (by omega) (fun h41 => ?_) (fun h41 => ?_)
      · skip
        refine z_iconst S dX1_isNearerAbove_55 ?_
        refine lv_goto (tgt := 60) S.1 S.2.1 dX1_isNearerAbove_56 (by decide) ?_
        have k1_ : ((1 : Int) = 1 ∧ (5 < dI Rw (cut - 1) ∨ (dI Rw (cut - 1) = 5 ∧ ((∃ j : Nat, (j : Int) < cut - 1 ∧ Rw j ≠ 0) ∨ dI Rw cut % 2 = 1)))) ∨ ((1 : Int) = 0 ∧ ¬ (5 < dI Rw (cut - 1) ∨ (dI Rw (cut - 1) = 5 ∧ ((∃ j : Nat, (j : Int) < cut - 1 ∧ Rw j ≠ 0) ∨ dI Rw cut % 2 = 1)))) := by
          have q : dI Rw (cut - 1) = 5 := by omega
          have qi : (cut - 1).toNat < 774 ∧ Rw (cut - 1).toNat = 5 := by
            unfold dI at q
            by_cases k : 0 ≤ cut - 1 ∧ cut - 1 < 774
            · rw [if_pos k] at q; exact ⟨by omega, q⟩
            · rw [if_neg k] at q; omega
          rw [q]
          first
            | (refine Or.inl ⟨rfl, Or.inr ⟨rfl, Or.inr ?_⟩⟩; rw [← p46]; omega)
            | (refine Or.inr ⟨rfl, fun k => ?_⟩
               rcases k with k | ⟨-, ⟨j, k1, k2⟩ | k⟩
               · omega
               · exact k2 (l2 j (by omega))
               · rw [← p46] at k; omega)
            | (refine Or.inl ⟨rfl, Or.inr ⟨rfl, Or.inl ?_⟩⟩
               have k1 : z25 < cnt := by
                 apply Int.not_le.mp
                 intro k1
                 have k2 : (cut - 1) < cnt := by
                   apply Int.not_le.mp
                   intro k2
                   have := hz (cut - 1).toNat (by omega) qi.1
                   omega
                 have := l2 (cut - 1).toNat (by omega)
                 omega
               have k3 : z25 < cut - 1 := by
                 apply Int.not_le.mp
                 intro k4
                 have := l2 (cut - 1).toNat (by omega)
                 omega
               exact ⟨z25.toNat, by omega, l3 k1⟩)
        exact z_iret S hr hlk w zNar_b1 () k1_ rfl dX1_isNearerAbove_60
      · skip
        refine lv_aload_n S.1 S.2.1 dX1_isNearerAbove_44 rfl (lv_at hl 2 rfl) ?_
        refine lv_iload_n S.1 S.2.1 dX1_isNearerAbove_45 rfl (lv_at hl 3 rfl) ?_
        refine z_calliV (C := RX1) (n := 1) (As := [.int (zI cut)]) (rest := []) (wr := []) (wn := (fun (u : Unit) => [(h, .inr (1, [.ref ha, .int (zI lc), .ref hr1, .int (zI cnt), .int (zI dec)])), (ha, .inl (cL, 86, .inl (zA L))), (hr1, .inl (cR, 774, .inl (zA Rw)))])) S w (c_X1_digitIn l D cL cR h ha hr1 L lc Rw cnt dec cut (by omega)) gX1_isNearerAbove_X1_digitIn (by decide +kernel) rfl ⟨rfl, rfl⟩ ⟨Nat.le_of_ble_eq_true rfl, Nat.le_of_ble_eq_true rfl⟩ [0, 1] [0, 1, 2] [] [0, 1, 2] rfl rfl rfl rfl rfl (by decide) (fun u => rfl) rfl rfl rfl rfl rfl hl.1 (Nat.le_of_ble_eq_true rfl) ⟨Nat.le_of_ble_eq_true rfl, Nat.le_of_ble_eq_true rfl⟩ rfl dX1_isNearerAbove_46 (fun z46 _ H locs p46 w => ?_)
        have p46 : z46 = dI Rw cut := p46
        have w : zW D _ _ s [(h, .inr (1, [.ref ha, .int (zI lc), .ref hr1, .int (zI cnt), .int (zI dec)])), (ha, .inl (cL, 86, .inl (zA L))), (hr1, .inl (cR, 774, .inl (zA Rw)))] H locs := w
        have b46 := dI_9 h9 cut
        rw [← p46] at b46
        refine z_iconst S dX1_isNearerAbove_49 ?_
        refine z_irem S dX1_isNearerAbove_50 (by omega) (by omega) ?_
        refine z_iconst S dX1_isNearerAbove_51 ?_
        refine z_icmp_ne (tgt := 59) S dX1_isNearerAbove_52 (by decide) (by omega) (by omega) (fun h52 => ?_) (fun h52 => ?_)
        · skip
          refine z_iconst S dX1_isNearerAbove_59 ?_
          have k2_ : ((0 : Int) = 1 ∧ (5 < dI Rw (cut - 1) ∨ (dI Rw (cut - 1) = 5 ∧ ((∃ j : Nat, (j : Int) < cut - 1 ∧ Rw j ≠ 0) ∨ dI Rw cut % 2 = 1)))) ∨ ((0 : Int) = 0 ∧ ¬ (5 < dI Rw (cut - 1) ∨ (dI Rw (cut - 1) = 5 ∧ ((∃ j : Nat, (j : Int) < cut - 1 ∧ Rw j ≠ 0) ∨ dI Rw cut % 2 = 1)))) := by
            have q : dI Rw (cut - 1) = 5 := by omega
            have qi : (cut - 1).toNat < 774 ∧ Rw (cut - 1).toNat = 5 := by
              unfold dI at q
              by_cases k : 0 ≤ cut - 1 ∧ cut - 1 < 774
              · rw [if_pos k] at q; exact ⟨by omega, q⟩
              · rw [if_neg k] at q; omega
            rw [q]
            first
              | (refine Or.inl ⟨rfl, Or.inr ⟨rfl, Or.inr ?_⟩⟩; rw [← p46]; omega)
              | (refine Or.inr ⟨rfl, fun k => ?_⟩
                 rcases k with k | ⟨-, ⟨j, k1, k2⟩ | k⟩
                 · omega
                 · exact k2 (l2 j (by omega))
                 · rw [← p46] at k; omega)
              | (refine Or.inl ⟨rfl, Or.inr ⟨rfl, Or.inl ?_⟩⟩
                 have k1 : z25 < cnt := by
                   apply Int.not_le.mp
                   intro k1
                   have k2 : (cut - 1) < cnt := by
                     apply Int.not_le.mp
                     intro k2
                     have := hz (cut - 1).toNat (by omega) qi.1
                     omega
                   have := l2 (cut - 1).toNat (by omega)
                   omega
                 have k3 : z25 < cut - 1 := by
                   apply Int.not_le.mp
                   intro k4
                   have := l2 (cut - 1).toNat (by omega)
                   omega
                 exact ⟨z25.toNat, by omega, l3 k1⟩)
          exact z_iret S hr hlk w zNar_b0 () k2_ rfl dX1_isNearerAbove_60
        · skip
          refine z_iconst S dX1_isNearerAbove_55 ?_
          refine lv_goto (tgt := 60) S.1 S.2.1 dX1_isNearerAbove_56 (by decide) ?_
          have k3_ : ((1 : Int) = 1 ∧ (5 < dI Rw (cut - 1) ∨ (dI Rw (cut - 1) = 5 ∧ ((∃ j : Nat, (j : Int) < cut - 1 ∧ Rw j ≠ 0) ∨ dI Rw cut % 2 = 1)))) ∨ ((1 : Int) = 0 ∧ ¬ (5 < dI Rw (cut - 1) ∨ (dI Rw (cut - 1) = 5 ∧ ((∃ j : Nat, (j : Int) < cut - 1 ∧ Rw j ≠ 0) ∨ dI Rw cut % 2 = 1)))) := by
            have q : dI Rw (cut - 1) = 5 := by omega
            have qi : (cut - 1).toNat < 774 ∧ Rw (cut - 1).toNat = 5 := by
              unfold dI at q
              by_cases k : 0 ≤ cut - 1 ∧ cut - 1 < 774
              · rw [if_pos k] at q; exact ⟨by omega, q⟩
              · rw [if_neg k] at q; omega
            rw [q]
            first
              | (refine Or.inl ⟨rfl, Or.inr ⟨rfl, Or.inr ?_⟩⟩; rw [← p46]; omega)
              | (refine Or.inr ⟨rfl, fun k => ?_⟩
                 rcases k with k | ⟨-, ⟨j, k1, k2⟩ | k⟩
                 · omega
                 · exact k2 (l2 j (by omega))
                 · rw [← p46] at k; omega)
              | (refine Or.inl ⟨rfl, Or.inr ⟨rfl, Or.inl ?_⟩⟩
                 have k1 : z25 < cnt := by
                   apply Int.not_le.mp
                   intro k1
                   have k2 : (cut - 1) < cnt := by
                     apply Int.not_le.mp
                     intro k2
                     have := hz (cut - 1).toNat (by omega) qi.1
                     omega
                   have := l2 (cut - 1).toNat (by omega)
                   omega
                 have k3 : z25 < cut - 1 := by
                   apply Int.not_le.mp
                   intro k4
                   have := l2 (cut - 1).toNat (by omega)
                   omega
                 exact ⟨z25.toNat, by omega, l3 k1⟩)
          exact z_iret S hr hlk w zNar_b1 () k3_ rfl dX1_isNearerAbove_60
    · skip
      refine z_iconst S dX1_isNearerAbove_34 ?_
      refine lv_goto (tgt := 39) S.1 S.2.1 dX1_isNearerAbove_35 (by decide) ?_
      refine lv_istore_n (lv' := [(3, .int (zI 1)), (2, .int (zI z4)), (0, .ref h), (1, .int (zI cut))]) S.1 S.2.1 dX1_isNearerAbove_39 rfl hl (by decide) rfl (fun ls hl => ?_)
      refine lv_iload_n S.1 S.2.1 dX1_isNearerAbove_40 rfl (lv_at hl 0 rfl) ?_
      refine z_if_eq (tgt := 55) S dX1_isNearerAbove_41 (by decide) (by omega) (fun h41 => ?_) (fun h41 => ?_)
      · skip
        refine z_iconst S dX1_isNearerAbove_55 ?_
        refine lv_goto (tgt := 60) S.1 S.2.1 dX1_isNearerAbove_56 (by decide) ?_
        have k4_ : ((1 : Int) = 1 ∧ (5 < dI Rw (cut - 1) ∨ (dI Rw (cut - 1) = 5 ∧ ((∃ j : Nat, (j : Int) < cut - 1 ∧ Rw j ≠ 0) ∨ dI Rw cut % 2 = 1)))) ∨ ((1 : Int) = 0 ∧ ¬ (5 < dI Rw (cut - 1) ∨ (dI Rw (cut - 1) = 5 ∧ ((∃ j : Nat, (j : Int) < cut - 1 ∧ Rw j ≠ 0) ∨ dI Rw cut % 2 = 1)))) := by
          have q : dI Rw (cut - 1) = 5 := by omega
          have qi : (cut - 1).toNat < 774 ∧ Rw (cut - 1).toNat = 5 := by
            unfold dI at q
            by_cases k : 0 ≤ cut - 1 ∧ cut - 1 < 774
            · rw [if_pos k] at q; exact ⟨by omega, q⟩
            · rw [if_neg k] at q; omega
          rw [q]
          first
            | (refine Or.inl ⟨rfl, Or.inr ⟨rfl, Or.inr ?_⟩⟩; rw [← p46]; omega)
            | (refine Or.inr ⟨rfl, fun k => ?_⟩
               rcases k with k | ⟨-, ⟨j, k1, k2⟩ | k⟩
               · omega
               · exact k2 (l2 j (by omega))
               · rw [← p46] at k; omega)
            | (refine Or.inl ⟨rfl, Or.inr ⟨rfl, Or.inl ?_⟩⟩
               have k1 : z25 < cnt := by
                 apply Int.not_le.mp
                 intro k1
                 have k2 : (cut - 1) < cnt := by
                   apply Int.not_le.mp
                   intro k2
                   have := hz (cut - 1).toNat (by omega) qi.1
                   omega
                 have := l2 (cut - 1).toNat (by omega)
                 omega
               have k3 : z25 < cut - 1 := by
                 apply Int.not_le.mp
                 intro k4
                 have := l2 (cut - 1).toNat (by omega)
                 omega
               exact ⟨z25.toNat, by omega, l3 k1⟩)
        exact z_iret S hr hlk w zNar_b1 () k4_ rfl dX1_isNearerAbove_60
      · skip
        refine lv_aload_n S.1 S.2.1 dX1_isNearerAbove_44 rfl (lv_at hl 2 rfl) ?_
        refine lv_iload_n S.1 S.2.1 dX1_isNearerAbove_45 rfl (lv_at hl 3 rfl) ?_
        refine z_calliV (C := RX1) (n := 1) (As := [.int (zI cut)]) (rest := []) (wr := []) (wn := (fun (u : Unit) => [(h, .inr (1, [.ref ha, .int (zI lc), .ref hr1, .int (zI cnt), .int (zI dec)])), (ha, .inl (cL, 86, .inl (zA L))), (hr1, .inl (cR, 774, .inl (zA Rw)))])) S w (c_X1_digitIn l D cL cR h ha hr1 L lc Rw cnt dec cut (by omega)) gX1_isNearerAbove_X1_digitIn (by decide +kernel) rfl ⟨rfl, rfl⟩ ⟨Nat.le_of_ble_eq_true rfl, Nat.le_of_ble_eq_true rfl⟩ [0, 1] [0, 1, 2] [] [0, 1, 2] rfl rfl rfl rfl rfl (by decide) (fun u => rfl) rfl rfl rfl rfl rfl hl.1 (Nat.le_of_ble_eq_true rfl) ⟨Nat.le_of_ble_eq_true rfl, Nat.le_of_ble_eq_true rfl⟩ rfl dX1_isNearerAbove_46 (fun z46 _ H locs p46 w => ?_)
        have p46 : z46 = dI Rw cut := p46
        have w : zW D _ _ s [(h, .inr (1, [.ref ha, .int (zI lc), .ref hr1, .int (zI cnt), .int (zI dec)])), (ha, .inl (cL, 86, .inl (zA L))), (hr1, .inl (cR, 774, .inl (zA Rw)))] H locs := w
        have b46 := dI_9 h9 cut
        rw [← p46] at b46
        refine z_iconst S dX1_isNearerAbove_49 ?_
        refine z_irem S dX1_isNearerAbove_50 (by omega) (by omega) ?_
        refine z_iconst S dX1_isNearerAbove_51 ?_
        refine z_icmp_ne (tgt := 59) S dX1_isNearerAbove_52 (by decide) (by omega) (by omega) (fun h52 => ?_) (fun h52 => ?_)
        · skip
          refine z_iconst S dX1_isNearerAbove_59 ?_
          have k5_ : ((0 : Int) = 1 ∧ (5 < dI Rw (cut - 1) ∨ (dI Rw (cut - 1) = 5 ∧ ((∃ j : Nat, (j : Int) < cut - 1 ∧ Rw j ≠ 0) ∨ dI Rw cut % 2 = 1)))) ∨ ((0 : Int) = 0 ∧ ¬ (5 < dI Rw (cut - 1) ∨ (dI Rw (cut - 1) = 5 ∧ ((∃ j : Nat, (j : Int) < cut - 1 ∧ Rw j ≠ 0) ∨ dI Rw cut % 2 = 1)))) := by
            have q : dI Rw (cut - 1) = 5 := by omega
            have qi : (cut - 1).toNat < 774 ∧ Rw (cut - 1).toNat = 5 := by
              unfold dI at q
              by_cases k : 0 ≤ cut - 1 ∧ cut - 1 < 774
              · rw [if_pos k] at q; exact ⟨by omega, q⟩
              · rw [if_neg k] at q; omega
            rw [q]
            first
              | (refine Or.inl ⟨rfl, Or.inr ⟨rfl, Or.inr ?_⟩⟩; rw [← p46]; omega)
              | (refine Or.inr ⟨rfl, fun k => ?_⟩
                 rcases k with k | ⟨-, ⟨j, k1, k2⟩ | k⟩
                 · omega
                 · exact k2 (l2 j (by omega))
                 · rw [← p46] at k; omega)
              | (refine Or.inl ⟨rfl, Or.inr ⟨rfl, Or.inl ?_⟩⟩
                 have k1 : z25 < cnt := by
                   apply Int.not_le.mp
                   intro k1
                   have k2 : (cut - 1) < cnt := by
                     apply Int.not_le.mp
                     intro k2
                     have := hz (cut - 1).toNat (by omega) qi.1
                     omega
                   have := l2 (cut - 1).toNat (by omega)
                   omega
                 have k3 : z25 < cut - 1 := by
                   apply Int.not_le.mp
                   intro k4
                   have := l2 (cut - 1).toNat (by omega)
                   omega
                 exact ⟨z25.toNat, by omega, l3 k1⟩)
          exact z_iret S hr hlk w zNar_b0 () k5_ rfl dX1_isNearerAbove_60
        · skip
          refine z_iconst S dX1_isNearerAbove_55 ?_
          refine lv_goto (tgt := 60) S.1 S.2.1 dX1_isNearerAbove_56 (by decide) ?_
          have k6_ : ((1 : Int) = 1 ∧ (5 < dI Rw (cut - 1) ∨ (dI Rw (cut - 1) = 5 ∧ ((∃ j : Nat, (j : Int) < cut - 1 ∧ Rw j ≠ 0) ∨ dI Rw cut % 2 = 1)))) ∨ ((1 : Int) = 0 ∧ ¬ (5 < dI Rw (cut - 1) ∨ (dI Rw (cut - 1) = 5 ∧ ((∃ j : Nat, (j : Int) < cut - 1 ∧ Rw j ≠ 0) ∨ dI Rw cut % 2 = 1)))) := by
            have q : dI Rw (cut - 1) = 5 := by omega
            have qi : (cut - 1).toNat < 774 ∧ Rw (cut - 1).toNat = 5 := by
              unfold dI at q
              by_cases k : 0 ≤ cut - 1 ∧ cut - 1 < 774
              · rw [if_pos k] at q; exact ⟨by omega, q⟩
              · rw [if_neg k] at q; omega
            rw [q]
            first
              | (refine Or.inl ⟨rfl, Or.inr ⟨rfl, Or.inr ?_⟩⟩; rw [← p46]; omega)
              | (refine Or.inr ⟨rfl, fun k => ?_⟩
                 rcases k with k | ⟨-, ⟨j, k1, k2⟩ | k⟩
                 · omega
                 · exact k2 (l2 j (by omega))
                 · rw [← p46] at k; omega)
              | (refine Or.inl ⟨rfl, Or.inr ⟨rfl, Or.inl ?_⟩⟩
                 have k1 : z25 < cnt := by
                   apply Int.not_le.mp
                   intro k1
                   have k2 : (cut - 1) < cnt := by
                     apply Int.not_le.mp
                     intro k2
                     have := hz (cut - 1).toNat (by omega) qi.1
                     omega
                   have := l2 (cut - 1).toNat (by omega)
                   omega
                 have k3 : z25 < cut - 1 := by
                   apply Int.not_le.mp
                   intro k4
                   have := l2 (cut - 1).toNat (by omega)
                   omega
                 exact ⟨z25.toNat, by omega, l3 k1⟩)
          exact z_iret S hr hlk w zNar_b1 () k6_ rfl dX1_isNearerAbove_60
  · skip
    refine lv_iload_n S.1 S.2.1 dX1_isNearerAbove_13 rfl (lv_at hl 0 rfl) ?_
    refine z_iconst S dX1_isNearerAbove_14 ?_
    refine z_icmp_le (tgt := 22) S dX1_isNearerAbove_15 (by decide) (by omega) (by omega) (fun h15 => ?_) (fun h15 => ?_)
    · skip
      refine z_iconst S dX1_isNearerAbove_22 ?_
      have k7_ : ((0 : Int) = 1 ∧ (5 < dI Rw (cut - 1) ∨ (dI Rw (cut - 1) = 5 ∧ ((∃ j : Nat, (j : Int) < cut - 1 ∧ Rw j ≠ 0) ∨ dI Rw cut % 2 = 1)))) ∨ ((0 : Int) = 0 ∧ ¬ (5 < dI Rw (cut - 1) ∨ (dI Rw (cut - 1) = 5 ∧ ((∃ j : Nat, (j : Int) < cut - 1 ∧ Rw j ≠ 0) ∨ dI Rw cut % 2 = 1)))) := by
        have q : dI Rw (cut - 1) = z4 := p4.symm
        rw [q]
        first
          | exact Or.inl ⟨rfl, Or.inl (by omega)⟩
          | exact Or.inr ⟨rfl, fun k => by rcases k with k | k <;> omega⟩
      exact z_iret S hr hlk w zNar_b0 () k7_ rfl dX1_isNearerAbove_23
    · skip
      refine z_iconst S dX1_isNearerAbove_18 ?_
      refine lv_goto (tgt := 23) S.1 S.2.1 dX1_isNearerAbove_19 (by decide) ?_
      have k8_ : ((1 : Int) = 1 ∧ (5 < dI Rw (cut - 1) ∨ (dI Rw (cut - 1) = 5 ∧ ((∃ j : Nat, (j : Int) < cut - 1 ∧ Rw j ≠ 0) ∨ dI Rw cut % 2 = 1)))) ∨ ((1 : Int) = 0 ∧ ¬ (5 < dI Rw (cut - 1) ∨ (dI Rw (cut - 1) = 5 ∧ ((∃ j : Nat, (j : Int) < cut - 1 ∧ Rw j ≠ 0) ∨ dI Rw cut % 2 = 1)))) := by
        have q : dI Rw (cut - 1) = z4 := p4.symm
        rw [q]
        first
          | exact Or.inl ⟨rfl, Or.inl (by omega)⟩
          | exact Or.inr ⟨rfl, fun k => by rcases k with k | k <;> omega⟩
      exact z_iret S hr hlk w zNar_b1 () k8_ rfl dX1_isNearerAbove_23

set_option maxRecDepth 20000 in
theorem ln_X1_addOneAt_19 : Cond.fieldLink RX1 19 "DecimalText$Worth" "row" "[I" ∈ wsX1_addOneAt := by decide +kernel
theorem in_X1_addOneAt_X1 : ∀ w ∈ u_ws RX1 TX1 5, w ∈ wsX1_addOneAt := by decide +kernel
set_option maxRecDepth 20000 in
theorem ln_X1_addOneAt_22 : Cond.fieldLink RX1 22 "DecimalText$Worth" "count" "I" ∈ wsX1_addOneAt := by decide +kernel
set_option maxRecDepth 20000 in
theorem ml_X1_addOneAt_50 : Cond.methodLink RX1 50 Lib.Math.max.name ∈ wsX1_addOneAt := by decide +kernel
set_option maxRecDepth 20000 in
theorem st_X1_addOneAt_max : Cond.static Lib.Math.max.name ∈ wsX1_addOneAt := by decide +kernel
set_option maxRecDepth 20000 in
theorem ini_X1_addOneAt_Math : Cond.initialized "java/lang/Math" ∈ wsX1_addOneAt := by decide +kernel
set_option maxRecDepth 20000 in
theorem co_X1_addOneAt_max : Cond.code Lib.Math.max.name Lib.Math.max.code 2 (some .int) ∈ wsX1_addOneAt := by decide +kernel
set_option maxHeartbeats 4000000 in
set_option maxRecDepth 100000 in
theorem c_X1_addOneAt (l : Launch) (D : va_G) (cL cR : ClassId) (h : Nat) (ha : Nat) (hr1 : Nat) (L : Nat → Int) (lc : Int) (Rw : Nat → Int) (cnt : Int) (dec : Int) (i0 : Int) (hi0 : 0 ≤ i0 ∧ i0 ≤ 3000) (hcnt : 0 ≤ cnt ∧ cnt ≤ 774) (h9 : ∀ j : Nat, j < 774 → 0 ≤ Rw j ∧ Rw j ≤ 9) : zMv (T := (Nat → Int) × Int) l yX1_addOneAt wsX1_addOneAt ({ frames := 1, cells := 0, slots := 0, locals := 21 } : Room) D [(cL, .int), (cR, .int)] [.ref h, .int (zI i0)] [(h, .inr (1, [.ref ha, .int (zI lc), .ref hr1, .int (zI cnt), .int (zI dec)])), (ha, .inl (cL, 86, .inl (zA L))), (hr1, .inl (cR, 774, .inl (zA Rw)))] (fun (u : (Nat → Int) × Int) => ∃ k : Int, (i0 ≤ k) ∧ (∀ j : Nat, i0 ≤ (j : Int) → (j : Int) < k → j < 774 → Rw j = 9 ∧ u.1 j = 0) ∧ (∀ j : Nat, (j : Int) < i0 → u.1 j = Rw j) ∧ (∀ j : Nat, k < (j : Int) → u.1 j = Rw j) ∧ (k < 774 → Rw k.toNat ≠ 9 ∧ u.1 k.toNat = Rw k.toNat + 1 ∧ ((cnt < k + 1 ∧ u.2 = k + 1) ∨ (k + 1 ≤ cnt ∧ u.2 = cnt))) ∧ (774 ≤ k → u.2 = cnt ∧ (i0 ≤ 774 → k = 774))) (fun (u : (Nat → Int) × Int) => [(h, .inr (1, [.ref ha, .int (zI lc), .ref hr1, .int (zI u.2), .int (zI dec)])), (ha, .inl (cL, 86, .inl (zA L))), (hr1, .inl (cR, 774, .inl (zA u.1)))]) 0 0 := by
  refine zMv.of (bytes := cX1_addOneAt) (nL := 3) (own := RX1) (by decide) rfl rfl (Nat.le_of_ble_eq_true rfl) ?_
  intro p e s m below meth c ls S hr hlk hnm w hl
  have lab2 : ∀ (n : Nat) (R1 : Nat → Int) (i : Int), (774 - i).toNat < n → (i0 ≤ i ∧ (i ≤ 774 ∨ i = i0)) → (∀ j : Nat, i0 ≤ (j : Int) → (j : Int) < i → j < 774 → Rw j = 9 ∧ R1 j = 0) → (∀ j : Nat, (j : Int) < i0 → R1 j = Rw j) → (∀ j : Nat, i ≤ (j : Int) → R1 j = Rw j) → ∀ (H : Heap) (locs : List Loc) (ls : Array Slot), zW D [(cL, .int), (cR, .int)] (va_A [(h, .inr (1, [.ref ha, .int (zI lc), .ref hr1, .int (zI cnt), .int (zI dec)])), (ha, .inl (cL, 86, .inl (zA L))), (hr1, .inl (cR, 774, .inl (zA Rw)))] s.heap.size) s [(h, .inr (1, [.ref ha, .int (zI lc), .ref hr1, .int (zI cnt), .int (zI dec)])), (ha, .inl (cL, 86, .inl (zA L))), (hr1, .inl (cR, 774, .inl (zA R1)))] H locs → lv_has ls 3 [(0, .ref h), (2, .int (zI i))] → W p l e ({ frames := 1, cells := 0, slots := 0, locals := 21 } : Room) s m ([.ref h, .int (zI i0)] : List Value).toArray below meth c H locs 0 0 (MQ below (zQv D [(cL, .int), (cR, .int)] [(h, .inr (1, [.ref ha, .int (zI lc), .ref hr1, .int (zI cnt), .int (zI dec)])), (ha, .inl (cL, 86, .inl (zA L))), (hr1, .inl (cR, 774, .inl (zA Rw)))] s.heap.size (fun (u : (Nat → Int) × Int) => ∃ k : Int, (i0 ≤ k) ∧ (∀ j : Nat, i0 ≤ (j : Int) → (j : Int) < k → j < 774 → Rw j = 9 ∧ u.1 j = 0) ∧ (∀ j : Nat, (j : Int) < i0 → u.1 j = Rw j) ∧ (∀ j : Nat, k < (j : Int) → u.1 j = Rw j) ∧ (k < 774 → Rw k.toNat ≠ 9 ∧ u.1 k.toNat = Rw k.toNat + 1 ∧ ((cnt < k + 1 ∧ u.2 = k + 1) ∨ (k + 1 ≤ cnt ∧ u.2 = cnt))) ∧ (774 ≤ k → u.2 = cnt ∧ (i0 ≤ 774 → k = 774))) (fun (u : (Nat → Int) × Int) => [(h, .inr (1, [.ref ha, .int (zI lc), .ref hr1, .int (zI u.2), .int (zI dec)])), (ha, .inl (cL, 86, .inl (zA L))), (hr1, .inl (cR, 774, .inl (zA u.1)))])) ([.ref h, .int (zI i0)] : List Value).toArray s 0 0 (va_A [(h, .inr (1, [.ref ha, .int (zI lc), .ref hr1, .int (zI cnt), .int (zI dec)])), (ha, .inl (cL, 86, .inl (zA L))), (hr1, .inl (cR, 774, .inl (zA Rw)))] s.heap.size)) (F0 m 2 ls []) := by
    intro n
    induction n with
    | zero => intro R1 i hm; exact absurd hm (Nat.not_lt_zero _)
    | succ n ih =>
      intro R1 i hm hi e1 e2 e3 H locs ls w hl
      refine lv_iload_n S.1 S.2.1 dX1_addOneAt_2 rfl (lv_at hl 1 rfl) ?_
      refine lv_aload_n S.1 S.2.1 dX1_addOneAt_3 rfl (lv_at hl 0 rfl) ?_
      refine z_get (ci := 1) (C := RX1) (T := TX1) (N := 5) S w 0 rfl rfl in_X1_addOneAt_X1 2 (by decide) ln_X1_addOneAt_19 rfl rfl dX1_addOneAt_4 ?_
      refine z_alen (n := 774) S w 2 1 rfl rfl dX1_addOneAt_7 ?_
      refine z_icmp_ge (tgt := 34) S dX1_addOneAt_8 (by decide) (by omega) (by omega) (fun h8 => ?_) (fun h8 => ?_)
      · skip
        refine lv_iload_n S.1 S.2.1 dX1_addOneAt_34 rfl (lv_at hl 1 rfl) ?_
        refine z_if_lt (tgt := 71) S dX1_addOneAt_35 (by decide) (by omega) (fun h35 => ?_) (fun h35 => ?_)
        · skip
          exfalso; omega
        · skip
          refine lv_iload_n S.1 S.2.1 dX1_addOneAt_38 rfl (lv_at hl 1 rfl) ?_
          refine lv_aload_n S.1 S.2.1 dX1_addOneAt_39 rfl (lv_at hl 0 rfl) ?_
          refine z_get (ci := 1) (C := RX1) (T := TX1) (N := 5) S w 0 rfl rfl in_X1_addOneAt_X1 2 (by decide) ln_X1_addOneAt_19 rfl rfl dX1_addOneAt_40 ?_
          refine z_alen (n := 774) S w 2 1 rfl rfl dX1_addOneAt_43 ?_
          refine z_icmp_ge (tgt := 71) S dX1_addOneAt_44 (by decide) (by omega) (by omega) (fun h44 => ?_) (fun h44 => ?_)
          · skip
            skip
            have k1_ : ∃ k : Int, (i0 ≤ k) ∧ (∀ j : Nat, i0 ≤ (j : Int) → (j : Int) < k → j < 774 → Rw j = 9 ∧ R1 j = 0) ∧ (∀ j : Nat, (j : Int) < i0 → R1 j = Rw j) ∧ (∀ j : Nat, k < (j : Int) → R1 j = Rw j) ∧ (k < 774 → Rw k.toNat ≠ 9 ∧ R1 k.toNat = Rw k.toNat + 1 ∧ ((cnt < k + 1 ∧ cnt = k + 1) ∨ (k + 1 ≤ cnt ∧ cnt = cnt))) ∧ (774 ≤ k → cnt = cnt ∧ (i0 ≤ 774 → k = 774)) := by
              first
                | (refine ⟨i, by omega, e1, e2, fun j q => e3 j (by omega), fun q => by omega, fun q => ⟨rfl, fun q2 => by omega⟩⟩)
                | (refine ⟨i, by omega, fun j q1 q2 q3 => ?_, fun j q => ?_, fun j q => ?_, fun q => ⟨?_, ?_, by omega⟩, fun q => by omega⟩
                   · rw [zu_n _ _ (by omega)]; exact e1 j q1 q2 q3
                   · rw [zu_n _ _ (by omega)]; exact e2 j q
                   · rw [zu_n _ _ (by omega)]; exact e3 j (by omega)
                   · omega
                   · rw [zu_s, e3 _ (by omega)])
            exact z_vret S hr hlk w (R1, cnt) k1_ rfl dX1_addOneAt_71
          · skip
            refine lv_aload_n S.1 S.2.1 dX1_addOneAt_47 rfl (lv_at hl 0 rfl) ?_
            refine z_get (ci := 1) (C := RX1) (T := TX1) (N := 5) S w 0 rfl rfl in_X1_addOneAt_X1 2 (by decide) ln_X1_addOneAt_19 rfl rfl dX1_addOneAt_48 ?_
            refine lv_iload_n S.1 S.2.1 dX1_addOneAt_51 rfl (lv_at hl 1 rfl) ?_
            refine lv_dup2_11 S.1 S.2.1 dX1_addOneAt_52 rfl rfl ?_
            refine z_iald S w 2 1 rfl rfl (by omega) (by decide) dX1_addOneAt_53 ?_
            refine z_iconst S dX1_addOneAt_54 ?_
            refine z_iadd S dX1_addOneAt_55 ?_
            refine z_iast S w 2 1 rfl rfl (by omega) (by decide) dX1_addOneAt_56 (fun H locs w => ?_)
            have w : zW D _ _ s [(h, .inr (1, [.ref ha, .int (zI lc), .ref hr1, .int (zI cnt), .int (zI dec)])), (ha, .inl (cL, 86, .inl (zA L))), (hr1, .inl (cR, 774, .inl (zA (zu R1 i.toNat ((R1 i.toNat) + 1)))))] H locs := w
            refine lv_aload_n S.1 S.2.1 dX1_addOneAt_57 rfl (lv_at hl 0 rfl) ?_
            refine lv_aload_n S.1 S.2.1 dX1_addOneAt_58 rfl (lv_at hl 0 rfl) ?_
            refine z_get (ci := 1) (C := RX1) (T := TX1) (N := 5) S w 0 rfl rfl in_X1_addOneAt_X1 3 (by decide) ln_X1_addOneAt_22 rfl rfl dX1_addOneAt_59 ?_
            refine lv_iload_n S.1 S.2.1 dX1_addOneAt_62 rfl (lv_at hl 1 rfl) ?_
            refine z_iconst S dX1_addOneAt_63 ?_
            refine z_iadd S dX1_addOneAt_64 ?_
            refine z_mmax S ml_X1_addOneAt_50 st_X1_addOneAt_max ini_X1_addOneAt_Math co_X1_addOneAt_max hl.1 (Nat.le_of_ble_eq_true rfl) (Nat.le_of_ble_eq_true rfl) (Nat.le_of_ble_eq_true rfl) (Nat.le_of_ble_eq_true rfl) dX1_addOneAt_65 (by omega) (by omega) (fun m65 hm65 => ?_)
            refine z_put (ci := 1) (C := RX1) (T := TX1) (N := 5) S w 0 rfl rfl in_X1_addOneAt_X1 tyX1_ok nmX1 3 (by decide) ln_X1_addOneAt_22 rfl rfl rfl rfl (Nat.le_of_ble_eq_true rfl) dX1_addOneAt_68 (fun H locs w => ?_)
            have w : zW D _ _ s [(h, .inr (1, [.ref ha, .int (zI lc), .ref hr1, .int (zI m65), .int (zI dec)])), (ha, .inl (cL, 86, .inl (zA L))), (hr1, .inl (cR, 774, .inl (zA (zu R1 i.toNat ((R1 i.toNat) + 1)))))] H locs := w
            have k2_ : ∃ k : Int, (i0 ≤ k) ∧ (∀ j : Nat, i0 ≤ (j : Int) → (j : Int) < k → j < 774 → Rw j = 9 ∧ (zu R1 i.toNat ((R1 i.toNat) + 1)) j = 0) ∧ (∀ j : Nat, (j : Int) < i0 → (zu R1 i.toNat ((R1 i.toNat) + 1)) j = Rw j) ∧ (∀ j : Nat, k < (j : Int) → (zu R1 i.toNat ((R1 i.toNat) + 1)) j = Rw j) ∧ (k < 774 → Rw k.toNat ≠ 9 ∧ (zu R1 i.toNat ((R1 i.toNat) + 1)) k.toNat = Rw k.toNat + 1 ∧ ((cnt < k + 1 ∧ m65 = k + 1) ∨ (k + 1 ≤ cnt ∧ m65 = cnt))) ∧ (774 ≤ k → m65 = cnt ∧ (i0 ≤ 774 → k = 774)) := by
              first
                | (refine ⟨i, by omega, e1, e2, fun j q => e3 j (by omega), fun q => by omega, fun q => ⟨rfl, fun q2 => by omega⟩⟩)
                | (refine ⟨i, by omega, fun j q1 q2 q3 => ?_, fun j q => ?_, fun j q => ?_, fun q => ⟨?_, ?_, by omega⟩, fun q => by omega⟩
                   · rw [zu_n _ _ (by omega)]; exact e1 j q1 q2 q3
                   · rw [zu_n _ _ (by omega)]; exact e2 j q
                   · rw [zu_n _ _ (by omega)]; exact e3 j (by omega)
                   · omega
                   · rw [zu_s, e3 _ (by omega)])
            exact z_vret S hr hlk w (zu R1 i.toNat ((R1 i.toNat) + 1), m65) k2_ rfl dX1_addOneAt_71
      · skip
        refine lv_aload_n S.1 S.2.1 dX1_addOneAt_11 rfl (lv_at hl 0 rfl) ?_
        refine lv_iload_n S.1 S.2.1 dX1_addOneAt_12 rfl (lv_at hl 1 rfl) ?_
        refine z_calliV (C := RX1) (n := 1) (As := [.int (zI i)]) (rest := []) (wr := []) (wn := (fun (u : Unit) => [(h, .inr (1, [.ref ha, .int (zI lc), .ref hr1, .int (zI cnt), .int (zI dec)])), (ha, .inl (cL, 86, .inl (zA L))), (hr1, .inl (cR, 774, .inl (zA R1)))])) S w (c_X1_digitIn l D cL cR h ha hr1 L lc R1 cnt dec i (by omega)) gX1_addOneAt_X1_digitIn (by decide +kernel) rfl ⟨rfl, rfl⟩ ⟨Nat.le_of_ble_eq_true rfl, Nat.le_of_ble_eq_true rfl⟩ [0, 1] [0, 1, 2] [] [0, 1, 2] rfl rfl rfl rfl rfl (by decide) (fun u => rfl) rfl rfl rfl rfl rfl hl.1 (Nat.le_of_ble_eq_true rfl) ⟨Nat.le_of_ble_eq_true rfl, Nat.le_of_ble_eq_true rfl⟩ rfl dX1_addOneAt_13 (fun z13 _ H locs p13 w => ?_)
        have p13 : z13 = dI R1 i := p13
        have w : zW D _ _ s [(h, .inr (1, [.ref ha, .int (zI lc), .ref hr1, .int (zI cnt), .int (zI dec)])), (ha, .inl (cL, 86, .inl (zA L))), (hr1, .inl (cR, 774, .inl (zA R1)))] H locs := w
        have r13 : dI R1 i = Rw i.toNat := by unfold dI; rw [if_pos (by omega)]; exact e3 _ (by omega)
        have b13 := h9 i.toNat (by omega)
        rw [r13] at p13
        refine z_bipush S dX1_addOneAt_16 (by decide +kernel) ?_
        refine z_icmp_ne (tgt := 34) S dX1_addOneAt_18 (by decide) (by omega) (by omega) (fun h18 => ?_) (fun h18 => ?_)
        · skip
          refine lv_iload_n S.1 S.2.1 dX1_addOneAt_34 rfl (lv_at hl 1 rfl) ?_
          refine z_if_lt (tgt := 71) S dX1_addOneAt_35 (by decide) (by omega) (fun h35 => ?_) (fun h35 => ?_)
          · skip
            exfalso; omega
          · skip
            refine lv_iload_n S.1 S.2.1 dX1_addOneAt_38 rfl (lv_at hl 1 rfl) ?_
            refine lv_aload_n S.1 S.2.1 dX1_addOneAt_39 rfl (lv_at hl 0 rfl) ?_
            refine z_get (ci := 1) (C := RX1) (T := TX1) (N := 5) S w 0 rfl rfl in_X1_addOneAt_X1 2 (by decide) ln_X1_addOneAt_19 rfl rfl dX1_addOneAt_40 ?_
            refine z_alen (n := 774) S w 2 1 rfl rfl dX1_addOneAt_43 ?_
            refine z_icmp_ge (tgt := 71) S dX1_addOneAt_44 (by decide) (by omega) (by omega) (fun h44 => ?_) (fun h44 => ?_)
            · skip
              skip
              have k3_ : ∃ k : Int, (i0 ≤ k) ∧ (∀ j : Nat, i0 ≤ (j : Int) → (j : Int) < k → j < 774 → Rw j = 9 ∧ R1 j = 0) ∧ (∀ j : Nat, (j : Int) < i0 → R1 j = Rw j) ∧ (∀ j : Nat, k < (j : Int) → R1 j = Rw j) ∧ (k < 774 → Rw k.toNat ≠ 9 ∧ R1 k.toNat = Rw k.toNat + 1 ∧ ((cnt < k + 1 ∧ cnt = k + 1) ∨ (k + 1 ≤ cnt ∧ cnt = cnt))) ∧ (774 ≤ k → cnt = cnt ∧ (i0 ≤ 774 → k = 774)) := by
                first
                  | (refine ⟨i, by omega, e1, e2, fun j q => e3 j (by omega), fun q => by omega, fun q => ⟨rfl, fun q2 => by omega⟩⟩)
                  | (refine ⟨i, by omega, fun j q1 q2 q3 => ?_, fun j q => ?_, fun j q => ?_, fun q => ⟨?_, ?_, by omega⟩, fun q => by omega⟩
                     · rw [zu_n _ _ (by omega)]; exact e1 j q1 q2 q3
                     · rw [zu_n _ _ (by omega)]; exact e2 j q
                     · rw [zu_n _ _ (by omega)]; exact e3 j (by omega)
                     · omega
                     · rw [zu_s, e3 _ (by omega)])
              exact z_vret S hr hlk w (R1, cnt) k3_ rfl dX1_addOneAt_71
            · skip
              refine lv_aload_n S.1 S.2.1 dX1_addOneAt_47 rfl (lv_at hl 0 rfl) ?_
              refine z_get (ci := 1) (C := RX1) (T := TX1) (N := 5) S w 0 rfl rfl in_X1_addOneAt_X1 2 (by decide) ln_X1_addOneAt_19 rfl rfl dX1_addOneAt_48 ?_
              refine lv_iload_n S.1 S.2.1 dX1_addOneAt_51 rfl (lv_at hl 1 rfl) ?_
              refine lv_dup2_11 S.1 S.2.1 dX1_addOneAt_52 rfl rfl ?_
              refine z_iald S w 2 1 rfl rfl (by omega) (by decide) dX1_addOneAt_53 ?_
              refine z_iconst S dX1_addOneAt_54 ?_
              refine z_iadd S dX1_addOneAt_55 ?_
              refine z_iast S w 2 1 rfl rfl (by omega) (by decide) dX1_addOneAt_56 (fun H locs w => ?_)
              have w : zW D _ _ s [(h, .inr (1, [.ref ha, .int (zI lc), .ref hr1, .int (zI cnt), .int (zI dec)])), (ha, .inl (cL, 86, .inl (zA L))), (hr1, .inl (cR, 774, .inl (zA (zu R1 i.toNat ((R1 i.toNat) + 1)))))] H locs := w
              refine lv_aload_n S.1 S.2.1 dX1_addOneAt_57 rfl (lv_at hl 0 rfl) ?_
              refine lv_aload_n S.1 S.2.1 dX1_addOneAt_58 rfl (lv_at hl 0 rfl) ?_
              refine z_get (ci := 1) (C := RX1) (T := TX1) (N := 5) S w 0 rfl rfl in_X1_addOneAt_X1 3 (by decide) ln_X1_addOneAt_22 rfl rfl dX1_addOneAt_59 ?_
              refine lv_iload_n S.1 S.2.1 dX1_addOneAt_62 rfl (lv_at hl 1 rfl) ?_
              refine z_iconst S dX1_addOneAt_63 ?_
              refine z_iadd S dX1_addOneAt_64 ?_
              refine z_mmax S ml_X1_addOneAt_50 st_X1_addOneAt_max ini_X1_addOneAt_Math co_X1_addOneAt_max hl.1 (Nat.le_of_ble_eq_true rfl) (Nat.le_of_ble_eq_true rfl) (Nat.le_of_ble_eq_true rfl) (Nat.le_of_ble_eq_true rfl) dX1_addOneAt_65 (by omega) (by omega) (fun m65 hm65 => ?_)
              refine z_put (ci := 1) (C := RX1) (T := TX1) (N := 5) S w 0 rfl rfl in_X1_addOneAt_X1 tyX1_ok nmX1 3 (by decide) ln_X1_addOneAt_22 rfl rfl rfl rfl (Nat.le_of_ble_eq_true rfl) dX1_addOneAt_68 (fun H locs w => ?_)
              have w : zW D _ _ s [(h, .inr (1, [.ref ha, .int (zI lc), .ref hr1, .int (zI m65), .int (zI dec)])), (ha, .inl (cL, 86, .inl (zA L))), (hr1, .inl (cR, 774, .inl (zA (zu R1 i.toNat ((R1 i.toNat) + 1)))))] H locs := w
              have k4_ : ∃ k : Int, (i0 ≤ k) ∧ (∀ j : Nat, i0 ≤ (j : Int) → (j : Int) < k → j < 774 → Rw j = 9 ∧ (zu R1 i.toNat ((R1 i.toNat) + 1)) j = 0) ∧ (∀ j : Nat, (j : Int) < i0 → (zu R1 i.toNat ((R1 i.toNat) + 1)) j = Rw j) ∧ (∀ j : Nat, k < (j : Int) → (zu R1 i.toNat ((R1 i.toNat) + 1)) j = Rw j) ∧ (k < 774 → Rw k.toNat ≠ 9 ∧ (zu R1 i.toNat ((R1 i.toNat) + 1)) k.toNat = Rw k.toNat + 1 ∧ ((cnt < k + 1 ∧ m65 = k + 1) ∨ (k + 1 ≤ cnt ∧ m65 = cnt))) ∧ (774 ≤ k → m65 = cnt ∧ (i0 ≤ 774 → k = 774)) := by
                first
                  | (refine ⟨i, by omega, e1, e2, fun j q => e3 j (by omega), fun q => by omega, fun q => ⟨rfl, fun q2 => by omega⟩⟩)
                  | (refine ⟨i, by omega, fun j q1 q2 q3 => ?_, fun j q => ?_, fun j q => ?_, fun q => ⟨?_, ?_, by omega⟩, fun q => by omega⟩
                     · rw [zu_n _ _ (by omega)]; exact e1 j q1 q2 q3
                     · rw [zu_n _ _ (by omega)]; exact e2 j q
                     · rw [zu_n _ _ (by omega)]; exact e3 j (by omega)
                     · omega
                     · rw [zu_s, e3 _ (by omega)])
              exact z_vret S hr hlk w (zu R1 i.toNat ((R1 i.toNat) + 1), m65) k4_ rfl dX1_addOneAt_71
        · skip
          refine lv_aload_n S.1 S.2.1 dX1_addOneAt_21 rfl (lv_at hl 0 rfl) ?_
          refine z_get (ci := 1) (C := RX1) (T := TX1) (N := 5) S w 0 rfl rfl in_X1_addOneAt_X1 2 (by decide) ln_X1_addOneAt_19 rfl rfl dX1_addOneAt_22 ?_
          refine lv_iload_n S.1 S.2.1 dX1_addOneAt_25 rfl (lv_at hl 1 rfl) ?_
          refine z_iconst S dX1_addOneAt_26 ?_
          refine z_iast S w 2 1 rfl rfl (by omega) (by decide) dX1_addOneAt_27 (fun H locs w => ?_)
          have w : zW D _ _ s [(h, .inr (1, [.ref ha, .int (zI lc), .ref hr1, .int (zI cnt), .int (zI dec)])), (ha, .inl (cL, 86, .inl (zA L))), (hr1, .inl (cR, 774, .inl (zA (zu R1 i.toNat 0))))] H locs := w
          refine lv_iinc (v := zI (i + 1)) (lv' := [(2, .int (zI (i + 1))), (0, .ref h)]) S.1 S.2.1 dX1_addOneAt_28 hl (k := 1) rfl (zI_add i 1) (by decide) rfl (fun ls hl => ?_)
          refine lv_goto (tgt := 2) S.1 S.2.1 dX1_addOneAt_31 (by decide) ?_
          have k5_ : ∀ j : Nat, i0 ≤ (j : Int) → (j : Int) < (i + 1) → j < 774 → Rw j = 9 ∧ (zu R1 i.toNat 0) j = 0 := by
            intro j q1 q2 q3
            by_cases q4 : (j : Int) = i
            · have q5 : i.toNat = j := by omega
              rw [q5, zu_s]; rw [q5] at p13; exact ⟨by omega, rfl⟩
            · rw [zu_n _ _ (by omega)]; exact e1 j q1 (by omega) q3
          exact ih (zu R1 i.toNat 0) (i + 1) (by omega) (by omega) k5_ (fun j q => by rw [zu_n _ _ (by omega)]; exact e2 j q) (fun j q => by rw [zu_n _ _ (by omega)]; exact e3 j (by omega)) _ _ _ w (lv_sub hl [1, 0] rfl)
  have hl : lv_has ls 3 [(0, .ref h), (1, .int (zI i0))] := hl
  refine lv_iload_n S.1 S.2.1 dX1_addOneAt_0 rfl (lv_at hl 1 rfl) ?_
  refine lv_istore_n (lv' := [(2, .int (zI i0)), (0, .ref h), (1, .int (zI i0))]) S.1 S.2.1 dX1_addOneAt_1 rfl hl (by decide) rfl (fun ls hl => ?_)
  exact lab2 _ Rw i0 (Nat.lt_succ_self _) (by omega) (fun j q1 q2 => by omega) (fun j q => rfl) (fun j q => rfl) _ _ _ w (lv_sub hl [1, 0] rfl)
end
section
theorem pow_mono_i {b : Int} (hb : b = 2 ∨ b = 5) {m n : Nat} (h : m ≤ n) : b ^ m ≤ b ^ n := by
  obtain ⟨k, rfl⟩ : ∃ k, n = m + k := ⟨n - m, by omega⟩
  rw [Int.pow_add]
  have h1 : (0 : Int) < b ^ m := Int.pow_pos (by omega)
  have h2 : (0 : Int) < b ^ k := Int.pow_pos (by omega)
  have h3 : b ^ m * 1 ≤ b ^ m * b ^ k := Int.mul_le_mul_of_nonneg_left (by omega) (Int.le_of_lt h1)
  omega
theorem b9_pow {n : Nat} {a : Int} (h : a = (n : Int) * 9) : (1000000000 : Int) ^ n = ((10 ^ a.toNat : Nat) : Int) := by
  have e : a.toNat = 9 * n := by omega
  rw [e, Nat.pow_mul, Int.natCast_pow]; rfl
theorem b9_nat {v : Int} {n : Nat} {a : Int} (h0 : 0 ≤ v) (h1 : v < 1000000000 ^ n) (h : a = (n : Int) * 9) : v.toNat < 10 ^ a.toNat := by
  rw [b9_pow h] at h1; omega
theorem b9_step {v x : Int} {n : Nat} {a : Int} (h0 : 0 ≤ v) (hx : 0 ≤ x) (h : a = (n : Int) * 9) : (v + x * 1000000000 ^ n).toNat = v.toNat + x.toNat * 10 ^ a.toNat := by
  rw [b9_pow h]
  obtain ⟨y, rfl⟩ : ∃ y : Nat, x = (y : Int) := ⟨x.toNat, by omega⟩
  obtain ⟨u, rfl⟩ : ∃ u : Nat, v = (u : Int) := ⟨v.toNat, by omega⟩
  rw [← Int.natCast_mul, ← Int.natCast_add, Int.toNat_natCast, Int.toNat_natCast, Int.toNat_natCast]

set_option maxRecDepth 20000 in
theorem ln_X1_addLimb_15 : Cond.fieldLink RX1 15 "DecimalText$Worth" "limbCount" "I" ∈ wsX1_addLimb := by decide +kernel
theorem in_X1_addLimb_X1 : ∀ w ∈ u_ws RX1 TX1 5, w ∈ wsX1_addLimb := by decide +kernel
set_option maxRecDepth 20000 in
theorem ln_X1_addLimb_11 : Cond.fieldLink RX1 11 "DecimalText$Worth" "limbs" "[I" ∈ wsX1_addLimb := by decide +kernel
set_option maxHeartbeats 4000000 in
set_option maxRecDepth 100000 in
theorem c_X1_addLimb (l : Launch) (D : va_G) (cL cR : ClassId) (h : Nat) (ha : Nat) (hr1 : Nat) (L : Nat → Int) (lc : Int) (Rw : Nat → Int) (cnt : Int) (dec : Int) (x : Int) (hlc : 0 ≤ lc ∧ lc < 86) : zMv (T := (Nat → Int) × Int) l yX1_addLimb wsX1_addLimb ({ frames := 0, cells := 0, slots := 0, locals := 0 } : Room) D [(cL, .int), (cR, .int)] [.ref h, .int (zI x)] [(h, .inr (1, [.ref ha, .int (zI lc), .ref hr1, .int (zI cnt), .int (zI dec)])), (ha, .inl (cL, 86, .inl (zA L))), (hr1, .inl (cR, 774, .inl (zA Rw)))] (fun (u : (Nat → Int) × Int) => u.1 = zu L lc.toNat x ∧ u.2 = lc + 1) (fun (u : (Nat → Int) × Int) => [(h, .inr (1, [.ref ha, .int (zI u.2), .ref hr1, .int (zI cnt), .int (zI dec)])), (ha, .inl (cL, 86, .inl (zA u.1))), (hr1, .inl (cR, 774, .inl (zA Rw)))]) 0 0 := by
  refine zMv.of (bytes := cX1_addLimb) (nL := 2) (own := RX1) (by decide) rfl rfl (Nat.le_of_ble_eq_true rfl) ?_
  intro p e s m below meth c ls S hr hlk hnm w hl
  have hl : lv_has ls 2 [(0, .ref h), (1, .int (zI x))] := hl
  refine lv_aload_n S.1 S.2.1 dX1_addLimb_0 rfl (lv_at hl 0 rfl) ?_
  refine z_get (ci := 1) (C := RX1) (T := TX1) (N := 5) S w 0 rfl rfl in_X1_addLimb_X1 1 (by decide) ln_X1_addLimb_15 rfl rfl dX1_addLimb_1 ?_
  refine z_if_lt (tgt := 39) S dX1_addLimb_4 (by decide) (by omega) (fun h4 => ?_) (fun h4 => ?_)
  · skip
    exfalso; omega
  · skip
    refine lv_aload_n S.1 S.2.1 dX1_addLimb_7 rfl (lv_at hl 0 rfl) ?_
    refine z_get (ci := 1) (C := RX1) (T := TX1) (N := 5) S w 0 rfl rfl in_X1_addLimb_X1 1 (by decide) ln_X1_addLimb_15 rfl rfl dX1_addLimb_8 ?_
    refine lv_aload_n S.1 S.2.1 dX1_addLimb_11 rfl (lv_at hl 0 rfl) ?_
    refine z_get (ci := 1) (C := RX1) (T := TX1) (N := 5) S w 0 rfl rfl in_X1_addLimb_X1 0 (by decide) ln_X1_addLimb_11 rfl rfl dX1_addLimb_12 ?_
    refine z_alen (n := 86) S w 1 0 rfl rfl dX1_addLimb_15 ?_
    refine z_icmp_ge (tgt := 39) S dX1_addLimb_16 (by decide) (by omega) (by omega) (fun h16 => ?_) (fun h16 => ?_)
    · skip
      exfalso; omega
    · skip
      refine lv_aload_n S.1 S.2.1 dX1_addLimb_19 rfl (lv_at hl 0 rfl) ?_
      refine z_get (ci := 1) (C := RX1) (T := TX1) (N := 5) S w 0 rfl rfl in_X1_addLimb_X1 0 (by decide) ln_X1_addLimb_11 rfl rfl dX1_addLimb_20 ?_
      refine lv_aload_n S.1 S.2.1 dX1_addLimb_23 rfl (lv_at hl 0 rfl) ?_
      refine z_get (ci := 1) (C := RX1) (T := TX1) (N := 5) S w 0 rfl rfl in_X1_addLimb_X1 1 (by decide) ln_X1_addLimb_15 rfl rfl dX1_addLimb_24 ?_
      refine lv_iload_n S.1 S.2.1 dX1_addLimb_27 rfl (lv_at hl 1 rfl) ?_
      refine z_iast S w 1 0 rfl rfl (by omega) (by decide) dX1_addLimb_28 (fun H locs w => ?_)
      have w : zW D _ _ s [(h, .inr (1, [.ref ha, .int (zI lc), .ref hr1, .int (zI cnt), .int (zI dec)])), (ha, .inl (cL, 86, .inl (zA (zu L lc.toNat x)))), (hr1, .inl (cR, 774, .inl (zA Rw)))] H locs := w
      refine lv_aload_n S.1 S.2.1 dX1_addLimb_29 rfl (lv_at hl 0 rfl) ?_
      refine lv_dup S.1 S.2.1 dX1_addLimb_30 rfl ?_
      refine z_get (ci := 1) (C := RX1) (T := TX1) (N := 5) S w 0 rfl rfl in_X1_addLimb_X1 1 (by decide) ln_X1_addLimb_15 rfl rfl dX1_addLimb_31 ?_
      refine z_iconst S dX1_addLimb_34 ?_
      refine z_iadd S dX1_addLimb_35 ?_
      refine z_put (ci := 1) (C := RX1) (T := TX1) (N := 5) S w 0 rfl rfl in_X1_addLimb_X1 tyX1_ok nmX1 1 (by decide) ln_X1_addLimb_15 rfl rfl rfl rfl (Nat.le_of_ble_eq_true rfl) dX1_addLimb_36 (fun H locs w => ?_)
      have w : zW D _ _ s [(h, .inr (1, [.ref ha, .int (zI (lc + 1)), .ref hr1, .int (zI cnt), .int (zI dec)])), (ha, .inl (cL, 86, .inl (zA (zu L lc.toNat x)))), (hr1, .inl (cR, 774, .inl (zA Rw)))] H locs := w
      exact z_vret S hr hlk w (zu L lc.toNat x, lc + 1) ⟨rfl, rfl⟩ rfl dX1_addLimb_39

set_option maxRecDepth 20000 in
theorem ln_X1_setLimbs_15 : Cond.fieldLink RX1 15 "DecimalText$Worth" "limbCount" "I" ∈ wsX1_setLimbs := by decide +kernel
theorem in_X1_setLimbs_X1 : ∀ w ∈ u_ws RX1 TX1 5, w ∈ wsX1_setLimbs := by decide +kernel
set_option maxRecDepth 20000 in
theorem kl_X1_setLimbs_72 : Cond.constantLong RX1 72 (1000000000) ∈ wsX1_setLimbs := by decide +kernel
set_option maxHeartbeats 4000000 in
set_option maxRecDepth 100000 in
theorem c_X1_setLimbs (l : Launch) (D : va_G) (cL cR : ClassId) (h : Nat) (ha : Nat) (hr1 : Nat) (L : Nat → Int) (lc : Int) (Rw : Nat → Int) (cnt : Int) (dec : Int) (wh : Int) (hwh : 0 ≤ wh ∧ wh < 1000000000000000000) : zMv (T := (Nat → Int) × Int) l yX1_setLimbs wsX1_setLimbs ({ frames := 1, cells := 0, slots := 0, locals := 21 } : Room) D [(cL, .int), (cR, .int)] [.ref h, .long (lI wh)] [(h, .inr (1, [.ref ha, .int (zI lc), .ref hr1, .int (zI cnt), .int (zI dec)])), (ha, .inl (cL, 86, .inl (zA L))), (hr1, .inl (cR, 774, .inl (zA Rw)))] (fun (u : (Nat → Int) × Int) => u.2 = 2 ∧ vL u.1 2 = wh ∧ (∀ j : Nat, (j : Int) < 2 → 0 ≤ u.1 j ∧ u.1 j < 1000000000)) (fun (u : (Nat → Int) × Int) => [(h, .inr (1, [.ref ha, .int (zI u.2), .ref hr1, .int (zI cnt), .int (zI dec)])), (ha, .inl (cL, 86, .inl (zA u.1))), (hr1, .inl (cR, 774, .inl (zA Rw)))]) 0 0 := by
  refine zMv.of (bytes := cX1_setLimbs) (nL := 3) (own := RX1) (by decide) rfl rfl (Nat.le_of_ble_eq_true rfl) ?_
  intro p e s m below meth c ls S hr hlk hnm w hl
  have hl : lv_has ls 3 [(0, .ref h), (1, .long (lI wh))] := hl
  refine lv_aload_n S.1 S.2.1 dX1_setLimbs_0 rfl (lv_at hl 0 rfl) ?_
  refine z_iconst S dX1_setLimbs_1 ?_
  refine z_put (ci := 1) (C := RX1) (T := TX1) (N := 5) S w 0 rfl rfl in_X1_setLimbs_X1 tyX1_ok nmX1 1 (by decide) ln_X1_setLimbs_15 rfl rfl rfl rfl (Nat.le_of_ble_eq_true rfl) dX1_setLimbs_2 (fun H locs w => ?_)
  have w : zW D _ _ s [(h, .inr (1, [.ref ha, .int (zI 0), .ref hr1, .int (zI cnt), .int (zI dec)])), (ha, .inl (cL, 86, .inl (zA L))), (hr1, .inl (cR, 774, .inl (zA Rw)))] H locs := w
  refine lv_aload_n S.1 S.2.1 dX1_setLimbs_5 rfl (lv_at hl 0 rfl) ?_
  refine lv_lload_n S.1 S.2.1 dX1_setLimbs_6 rfl (lv_at hl 1 rfl) ?_
  refine z_ldc2 (v := 1000000000) S 1000000000 kl_X1_setLimbs_72 (by decide +kernel) dX1_setLimbs_7 ?_
  refine z_lrem S dX1_setLimbs_10 (by omega) (by omega) ?_
  refine z_l2i S dX1_setLimbs_11 ?_
  refine z_callvV (C := RX1) (n := 1) (As := [.int (zI (wh % 1000000000))]) (rest := []) (wr := []) (wn := (fun (u : (Nat → Int) × Int) => [(h, .inr (1, [.ref ha, .int (zI u.2), .ref hr1, .int (zI cnt), .int (zI dec)])), (ha, .inl (cL, 86, .inl (zA u.1))), (hr1, .inl (cR, 774, .inl (zA Rw)))])) S w (c_X1_addLimb l D cL cR h ha hr1 L 0 Rw cnt dec (wh % 1000000000) (by omega)) gX1_setLimbs_X1_addLimb (by decide +kernel) rfl ⟨rfl, rfl⟩ ⟨Nat.le_of_ble_eq_true rfl, Nat.le_of_ble_eq_true rfl⟩ [0, 1] [0, 1, 2] [] [0, 1, 2] rfl rfl rfl rfl rfl (by decide) (fun u => rfl) rfl rfl rfl rfl rfl hl.1 (Nat.le_of_ble_eq_true rfl) ⟨Nat.le_of_ble_eq_true rfl, Nat.le_of_ble_eq_true rfl⟩ rfl dX1_setLimbs_12 (fun u H locs p12 w => ?_)
  obtain ⟨L1, lc1⟩ := u
  have p12 : L1 = zu L (0 : Int).toNat (wh % 1000000000) ∧ lc1 = (0 : Int) + 1 := p12
  have w : zW D _ _ s [(h, .inr (1, [.ref ha, .int (zI lc1), .ref hr1, .int (zI cnt), .int (zI dec)])), (ha, .inl (cL, 86, .inl (zA L1))), (hr1, .inl (cR, 774, .inl (zA Rw)))] H locs := w
  refine lv_aload_n S.1 S.2.1 dX1_setLimbs_15 rfl (lv_at hl 0 rfl) ?_
  refine lv_lload_n S.1 S.2.1 dX1_setLimbs_16 rfl (lv_at hl 1 rfl) ?_
  refine z_ldc2 (v := 1000000000) S 1000000000 kl_X1_setLimbs_72 (by decide +kernel) dX1_setLimbs_17 ?_
  refine z_ldiv S dX1_setLimbs_20 (by omega) (by omega) ?_
  refine z_l2i S dX1_setLimbs_21 ?_
  refine z_callvV (C := RX1) (n := 1) (As := [.int (zI (wh / 1000000000))]) (rest := []) (wr := []) (wn := (fun (u : (Nat → Int) × Int) => [(h, .inr (1, [.ref ha, .int (zI u.2), .ref hr1, .int (zI cnt), .int (zI dec)])), (ha, .inl (cL, 86, .inl (zA u.1))), (hr1, .inl (cR, 774, .inl (zA Rw)))])) S w (c_X1_addLimb l D cL cR h ha hr1 L1 lc1 Rw cnt dec (wh / 1000000000) (by omega)) gX1_setLimbs_X1_addLimb (by decide +kernel) rfl ⟨rfl, rfl⟩ ⟨Nat.le_of_ble_eq_true rfl, Nat.le_of_ble_eq_true rfl⟩ [0, 1] [0, 1, 2] [] [0, 1, 2] rfl rfl rfl rfl rfl (by decide) (fun u => rfl) rfl rfl rfl rfl rfl hl.1 (Nat.le_of_ble_eq_true rfl) ⟨Nat.le_of_ble_eq_true rfl, Nat.le_of_ble_eq_true rfl⟩ rfl dX1_setLimbs_22 (fun u H locs p22 w => ?_)
  obtain ⟨L2, lc2⟩ := u
  have p22 : L2 = zu L1 lc1.toNat (wh / 1000000000) ∧ lc2 = lc1 + 1 := p22
  have w : zW D _ _ s [(h, .inr (1, [.ref ha, .int (zI lc2), .ref hr1, .int (zI cnt), .int (zI dec)])), (ha, .inl (cL, 86, .inl (zA L2))), (hr1, .inl (cR, 774, .inl (zA Rw)))] H locs := w
  have k1_ : lc2 = 2 ∧ vL L2 2 = wh ∧ (∀ j : Nat, (j : Int) < 2 → 0 ≤ L2 j ∧ L2 j < 1000000000) := by
    obtain ⟨a1, a2⟩ := p12
    obtain ⟨b1, b2⟩ := p22
    have c0 : L2 0 = wh % 1000000000 := by
      rw [b1, zu_n _ _ (by rw [a2]; decide), a1]; exact zu_s _ _ _
    have c1 : L2 1 = wh / 1000000000 := by
      rw [b1, a2]; exact zu_s _ _ _
    refine ⟨by omega, ?_, ?_⟩
    · show vL L2 (1 + 1) = wh
      rw [vL, vL, vL, c0, c1, Int.pow_zero, Int.pow_succ, Int.pow_zero]; omega
    · intro j q
      have q2 : j = 0 ∨ j = 1 := by omega
      rcases q2 with rfl | rfl
      · rw [c0]; omega
      · rw [c1]; omega
  exact z_vret S hr hlk w (L2, lc2) k1_ rfl dX1_setLimbs_25

set_option maxRecDepth 20000 in
theorem ln_X1_multiplyBy_15 : Cond.fieldLink RX1 15 "DecimalText$Worth" "limbCount" "I" ∈ wsX1_multiplyBy := by decide +kernel
theorem in_X1_multiplyBy_X1 : ∀ w ∈ u_ws RX1 TX1 5, w ∈ wsX1_multiplyBy := by decide +kernel
set_option maxRecDepth 20000 in
theorem ln_X1_multiplyBy_11 : Cond.fieldLink RX1 11 "DecimalText$Worth" "limbs" "[I" ∈ wsX1_multiplyBy := by decide +kernel
set_option maxRecDepth 20000 in
theorem kl_X1_multiplyBy_72 : Cond.constantLong RX1 72 (1000000000) ∈ wsX1_multiplyBy := by decide +kernel
set_option maxHeartbeats 4000000 in
set_option maxRecDepth 100000 in
theorem c_X1_multiplyBy (l : Launch) (D : va_G) (cL cR : ClassId) (h : Nat) (ha : Nat) (hr1 : Nat) (L : Nat → Int) (lc : Int) (Rw : Nat → Int) (cnt : Int) (dec : Int) (f : Int) (hlc : 0 ≤ lc ∧ lc ≤ 86) (hL : ∀ j : Nat, (j : Int) < lc → 0 ≤ L j ∧ L j < 1000000000) (hf : 1 ≤ f ∧ f ≤ 1000000000) (hb : vL L lc.toNat * f < 1000000000 ^ 86) : zMv (T := (Nat → Int) × Int) l yX1_multiplyBy wsX1_multiplyBy ({ frames := 1, cells := 0, slots := 0, locals := 21 } : Room) D [(cL, .int), (cR, .int)] [.ref h, .int (zI f)] [(h, .inr (1, [.ref ha, .int (zI lc), .ref hr1, .int (zI cnt), .int (zI dec)])), (ha, .inl (cL, 86, .inl (zA L))), (hr1, .inl (cR, 774, .inl (zA Rw)))] (fun (u : (Nat → Int) × Int) => (lc ≤ u.2 ∧ u.2 ≤ 86) ∧ (∀ j : Nat, (j : Int) < u.2 → 0 ≤ u.1 j ∧ u.1 j < 1000000000) ∧ vL u.1 (u.2).toNat = vL L lc.toNat * f) (fun (u : (Nat → Int) × Int) => [(h, .inr (1, [.ref ha, .int (zI u.2), .ref hr1, .int (zI cnt), .int (zI dec)])), (ha, .inl (cL, 86, .inl (zA u.1))), (hr1, .inl (cR, 774, .inl (zA Rw)))]) 0 0 := by
  refine zMv.of (bytes := cX1_multiplyBy) (nL := 7) (own := RX1) (by decide) rfl rfl (Nat.le_of_ble_eq_true rfl) ?_
  intro p e s m below meth c ls S hr hlk hnm w hl
  have lab5 : ∀ (n : Nat) (L1 : Nat → Int) (cr : Int) (i : Int), (lc - i).toNat < n → (0 ≤ i ∧ i ≤ lc) → (0 ≤ cr ∧ cr < f) → (∀ j : Nat, (j : Int) < i → 0 ≤ L1 j ∧ L1 j < 1000000000) → (∀ j : Nat, i ≤ (j : Int) → L1 j = L j) → (vL L1 i.toNat + cr * 1000000000 ^ i.toNat = vL L i.toNat * f) → ∀ (H : Heap) (locs : List Loc) (ls : Array Slot), zW D [(cL, .int), (cR, .int)] (va_A [(h, .inr (1, [.ref ha, .int (zI lc), .ref hr1, .int (zI cnt), .int (zI dec)])), (ha, .inl (cL, 86, .inl (zA L))), (hr1, .inl (cR, 774, .inl (zA Rw)))] s.heap.size) s [(h, .inr (1, [.ref ha, .int (zI lc), .ref hr1, .int (zI cnt), .int (zI dec)])), (ha, .inl (cL, 86, .inl (zA L1))), (hr1, .inl (cR, 774, .inl (zA Rw)))] H locs → lv_has ls 7 [(0, .ref h), (1, .int (zI f)), (2, .long (lI cr)), (4, .int (zI i))] → W p l e ({ frames := 1, cells := 0, slots := 0, locals := 21 } : Room) s m ([.ref h, .int (zI f)] : List Value).toArray below meth c H locs 0 0 (MQ below (zQv D [(cL, .int), (cR, .int)] [(h, .inr (1, [.ref ha, .int (zI lc), .ref hr1, .int (zI cnt), .int (zI dec)])), (ha, .inl (cL, 86, .inl (zA L))), (hr1, .inl (cR, 774, .inl (zA Rw)))] s.heap.size (fun (u : (Nat → Int) × Int) => (lc ≤ u.2 ∧ u.2 ≤ 86) ∧ (∀ j : Nat, (j : Int) < u.2 → 0 ≤ u.1 j ∧ u.1 j < 1000000000) ∧ vL u.1 (u.2).toNat = vL L lc.toNat * f) (fun (u : (Nat → Int) × Int) => [(h, .inr (1, [.ref ha, .int (zI u.2), .ref hr1, .int (zI cnt), .int (zI dec)])), (ha, .inl (cL, 86, .inl (zA u.1))), (hr1, .inl (cR, 774, .inl (zA Rw)))])) ([.ref h, .int (zI f)] : List Value).toArray s 0 0 (va_A [(h, .inr (1, [.ref ha, .int (zI lc), .ref hr1, .int (zI cnt), .int (zI dec)])), (ha, .inl (cL, 86, .inl (zA L))), (hr1, .inl (cR, 774, .inl (zA Rw)))] s.heap.size)) (F0 m 5 ls []) := by
    intro n
    induction n with
    | zero => intro L1 cr i hm; exact absurd hm (Nat.not_lt_zero _)
    | succ n ih =>
      intro L1 cr i hm hi hcr e1 e3 ev H locs ls w hl
      refine lv_iload S.1 S.2.1 dX1_multiplyBy_5 (lv_at hl 3 rfl) ?_
      refine lv_aload_n S.1 S.2.1 dX1_multiplyBy_7 rfl (lv_at hl 0 rfl) ?_
      refine z_get (ci := 1) (C := RX1) (T := TX1) (N := 5) S w 0 rfl rfl in_X1_multiplyBy_X1 1 (by decide) ln_X1_multiplyBy_15 rfl rfl dX1_multiplyBy_8 ?_
      refine z_icmp_ge (tgt := 68) S dX1_multiplyBy_11 (by decide) (by omega) (by omega) (fun h11 => ?_) (fun h11 => ?_)
      · skip
        have ei : i = lc := by omega
        rw [ei] at e1 e3 ev
        refine lv_lload_n S.1 S.2.1 dX1_multiplyBy_68 rfl (lv_at hl 2 rfl) ?_
        refine z_lconst (z := 0) S dX1_multiplyBy_69 (by decide +kernel) ?_
        refine z_lcmp S dX1_multiplyBy_70 (by omega) (by omega) (fun c70 hc70 => ?_)
        refine z_if_le (tgt := 80) S dX1_multiplyBy_71 (by decide) (by omega) (fun h71 => ?_) (fun h71 => ?_)
        · skip
          have k1_ : (lc ≤ lc ∧ lc ≤ 86) ∧ (∀ j : Nat, (j : Int) < lc → 0 ≤ L1 j ∧ L1 j < 1000000000) ∧ vL L1 (lc).toNat = vL L lc.toNat * f := by
            have c0 : cr = 0 := by omega
            rw [c0, Int.zero_mul, Int.add_zero] at ev
            exact ⟨by omega, e1, ev⟩
          exact z_vret S hr hlk w (L1, lc) k1_ rfl dX1_multiplyBy_80
        · skip
          refine lv_aload_n S.1 S.2.1 dX1_multiplyBy_74 rfl (lv_at hl 0 rfl) ?_
          refine lv_lload_n S.1 S.2.1 dX1_multiplyBy_75 rfl (lv_at hl 2 rfl) ?_
          refine z_l2i S dX1_multiplyBy_76 ?_
          have k2_ : 0 ≤ lc ∧ lc < 86 := by
            have n0 := vL_nonneg (L := L1) (n := lc.toNat) (fun j q => (e1 j (by omega)).1)
            refine ⟨by omega, ?_⟩
            apply Int.not_le.mp
            intro k1
            have k2 : lc.toNat = 86 := by omega
            rw [k2] at ev n0 hb
            have k3 : 1 * (1000000000 : Int) ^ 86 ≤ cr * 1000000000 ^ 86 := Int.mul_le_mul_of_nonneg_right (by omega) (Int.le_of_lt (b9_pos 86))
            omega
          refine z_callvV (C := RX1) (n := 1) (As := [.int (zI cr)]) (rest := []) (wr := []) (wn := (fun (u : (Nat → Int) × Int) => [(h, .inr (1, [.ref ha, .int (zI u.2), .ref hr1, .int (zI cnt), .int (zI dec)])), (ha, .inl (cL, 86, .inl (zA u.1))), (hr1, .inl (cR, 774, .inl (zA Rw)))])) S w (c_X1_addLimb l D cL cR h ha hr1 L1 lc Rw cnt dec cr k2_) gX1_multiplyBy_X1_addLimb (by decide +kernel) rfl ⟨rfl, rfl⟩ ⟨Nat.le_of_ble_eq_true rfl, Nat.le_of_ble_eq_true rfl⟩ [0, 1] [0, 1, 2] [] [0, 1, 2] rfl rfl rfl rfl rfl (by decide) (fun u => rfl) rfl rfl rfl rfl rfl hl.1 (Nat.le_of_ble_eq_true rfl) ⟨Nat.le_of_ble_eq_true rfl, Nat.le_of_ble_eq_true rfl⟩ rfl dX1_multiplyBy_77 (fun u H locs p77 w => ?_)
          obtain ⟨L2, lc2⟩ := u
          have p77 : L2 = zu L1 lc.toNat cr ∧ lc2 = lc + 1 := p77
          have w : zW D _ _ s [(h, .inr (1, [.ref ha, .int (zI lc2), .ref hr1, .int (zI cnt), .int (zI dec)])), (ha, .inl (cL, 86, .inl (zA L2))), (hr1, .inl (cR, 774, .inl (zA Rw)))] H locs := w
          have k3_ : (lc ≤ lc2 ∧ lc2 ≤ 86) ∧ (∀ j : Nat, (j : Int) < lc2 → 0 ≤ L2 j ∧ L2 j < 1000000000) ∧ vL L2 (lc2).toNat = vL L lc.toNat * f := by
            obtain ⟨a1, a2⟩ := p77
            refine ⟨by omega, ?_, ?_⟩
            · intro j q
              rw [a1]
              by_cases q5 : (j : Int) = lc
              · have q6 : lc.toNat = j := by omega
                rw [q6, zu_s]; omega
              · rw [zu_n _ _ (by omega)]; exact e1 j (by omega)
            · have k1 : lc2.toNat = lc.toNat + 1 := by omega
              rw [a1, k1, vL, zu_s, vL_congr (M := L1) (n := lc.toNat) (fun j q => zu_n _ _ (by omega))]; exact ev
          exact z_vret S hr hlk w (L2, lc2) k3_ rfl dX1_multiplyBy_80
      · skip
        refine lv_iload S.1 S.2.1 dX1_multiplyBy_14 (lv_at hl 3 rfl) ?_
        refine lv_aload_n S.1 S.2.1 dX1_multiplyBy_16 rfl (lv_at hl 0 rfl) ?_
        refine z_get (ci := 1) (C := RX1) (T := TX1) (N := 5) S w 0 rfl rfl in_X1_multiplyBy_X1 0 (by decide) ln_X1_multiplyBy_11 rfl rfl dX1_multiplyBy_17 ?_
        refine z_alen (n := 86) S w 1 0 rfl rfl dX1_multiplyBy_20 ?_
        refine z_icmp_ge (tgt := 68) S dX1_multiplyBy_21 (by decide) (by omega) (by omega) (fun h21 => ?_) (fun h21 => ?_)
        · skip
          exfalso; omega
        · skip
          have q1 : L1 i.toNat = L i.toNat := e3 _ (by omega)
          have q2 := hL i.toNat (by omega)
          rw [← q1] at q2
          have q3 : 0 ≤ L1 i.toNat * f := Int.mul_nonneg q2.1 (by omega)
          have q4 : L1 i.toNat * f ≤ 999999999 * f := Int.mul_le_mul_of_nonneg_right (by omega) (by omega)
          refine lv_aload_n S.1 S.2.1 dX1_multiplyBy_24 rfl (lv_at hl 0 rfl) ?_
          refine z_get (ci := 1) (C := RX1) (T := TX1) (N := 5) S w 0 rfl rfl in_X1_multiplyBy_X1 0 (by decide) ln_X1_multiplyBy_11 rfl rfl dX1_multiplyBy_25 ?_
          refine lv_iload S.1 S.2.1 dX1_multiplyBy_28 (lv_at hl 3 rfl) ?_
          refine z_iald S w 1 0 rfl rfl (by omega) (by decide) dX1_multiplyBy_30 ?_
          refine z_i2l S dX1_multiplyBy_31 (by omega) ?_
          refine lv_iload_n S.1 S.2.1 dX1_multiplyBy_32 rfl (lv_at hl 1 rfl) ?_
          refine z_i2l S dX1_multiplyBy_33 (by omega) ?_
          refine z_lmul S dX1_multiplyBy_34 ?_
          refine lv_lload_n S.1 S.2.1 dX1_multiplyBy_35 rfl (lv_at hl 2 rfl) ?_
          refine z_ladd S dX1_multiplyBy_36 ?_
          refine lv_lstore (lv' := [(5, .long (lI (((L1 i.toNat) * f) + cr))), (0, .ref h), (1, .int (zI f)), (2, .long (lI cr)), (4, .int (zI i))]) S.1 S.2.1 dX1_multiplyBy_37 hl (by decide) rfl (fun ls hl => ?_)
          refine lv_lload S.1 S.2.1 dX1_multiplyBy_39 (lv_at hl 0 rfl) ?_
          refine z_ldc2 (v := 1000000000) S 1000000000 kl_X1_multiplyBy_72 (by decide +kernel) dX1_multiplyBy_41 ?_
          refine z_ldiv S dX1_multiplyBy_44 (by omega) (by omega) ?_
          refine lv_lstore_n (lv' := [(2, .long (lI ((((L1 i.toNat) * f) + cr) / 1000000000))), (5, .long (lI (((L1 i.toNat) * f) + cr))), (0, .ref h), (1, .int (zI f)), (4, .int (zI i))]) S.1 S.2.1 dX1_multiplyBy_45 rfl hl (by decide) rfl (fun ls hl => ?_)
          refine lv_aload_n S.1 S.2.1 dX1_multiplyBy_46 rfl (lv_at hl 2 rfl) ?_
          refine z_get (ci := 1) (C := RX1) (T := TX1) (N := 5) S w 0 rfl rfl in_X1_multiplyBy_X1 0 (by decide) ln_X1_multiplyBy_11 rfl rfl dX1_multiplyBy_47 ?_
          refine lv_iload S.1 S.2.1 dX1_multiplyBy_50 (lv_at hl 4 rfl) ?_
          refine lv_lload S.1 S.2.1 dX1_multiplyBy_52 (lv_at hl 1 rfl) ?_
          refine lv_lload_n S.1 S.2.1 dX1_multiplyBy_54 rfl (lv_at hl 0 rfl) ?_
          refine z_ldc2 (v := 1000000000) S 1000000000 kl_X1_multiplyBy_72 (by decide +kernel) dX1_multiplyBy_55 ?_
          refine z_lmul S dX1_multiplyBy_58 ?_
          refine z_lsub S dX1_multiplyBy_59 ?_
          refine z_l2i S dX1_multiplyBy_60 ?_
          refine z_iast S w 1 0 rfl rfl (by omega) (by decide) dX1_multiplyBy_61 (fun H locs w => ?_)
          have w : zW D _ _ s [(h, .inr (1, [.ref ha, .int (zI lc), .ref hr1, .int (zI cnt), .int (zI dec)])), (ha, .inl (cL, 86, .inl (zA (zu L1 i.toNat ((((L1 i.toNat) * f) + cr) - (((((L1 i.toNat) * f) + cr) / 1000000000) * 1000000000)))))), (hr1, .inl (cR, 774, .inl (zA Rw)))] H locs := w
          refine lv_iinc (v := zI (i + 1)) (lv' := [(4, .int (zI (i + 1))), (2, .long (lI ((((L1 i.toNat) * f) + cr) / 1000000000))), (5, .long (lI (((L1 i.toNat) * f) + cr))), (0, .ref h), (1, .int (zI f))]) S.1 S.2.1 dX1_multiplyBy_62 hl (k := 4) rfl (zI_add i 1) (by decide) rfl (fun ls hl => ?_)
          refine lv_goto (tgt := 5) S.1 S.2.1 dX1_multiplyBy_65 (by decide) ?_
          have k4_ : ∀ j : Nat, (j : Int) < (i + 1) → 0 ≤ (zu L1 i.toNat ((((L1 i.toNat) * f) + cr) - (((((L1 i.toNat) * f) + cr) / 1000000000) * 1000000000))) j ∧ (zu L1 i.toNat ((((L1 i.toNat) * f) + cr) - (((((L1 i.toNat) * f) + cr) / 1000000000) * 1000000000))) j < 1000000000 := by
            intro j q
            by_cases q5 : (j : Int) = i
            · have q6 : i.toNat = j := by omega
              rw [q6] at q1 q2 q3 q4 ⊢
              rw [zu_s]; omega
            · rw [zu_n _ _ (by omega)]; exact e1 j (by omega)
          have k5_ : vL (zu L1 i.toNat ((((L1 i.toNat) * f) + cr) - (((((L1 i.toNat) * f) + cr) / 1000000000) * 1000000000))) (i + 1).toNat + ((((L1 i.toNat) * f) + cr) / 1000000000) * 1000000000 ^ (i + 1).toNat = vL L (i + 1).toNat * f := by
            have k1 : (i + 1).toNat = i.toNat + 1 := by omega
            rw [k1, vL, vL, zu_s, Int.pow_succ, vL_congr (M := L1) (n := i.toNat) (fun j q => zu_n _ _ (by omega))]
            have k2 := mul_step (nw := L1 i.toNat * f + cr - (L1 i.toNat * f + cr) / 1000000000 * 1000000000) (c2 := (L1 i.toNat * f + cr) / 1000000000) (x := L1 i.toNat) ev (by omega)
            rw [← q1]; exact k2
          exact ih (zu L1 i.toNat ((((L1 i.toNat) * f) + cr) - (((((L1 i.toNat) * f) + cr) / 1000000000) * 1000000000))) ((((L1 i.toNat) * f) + cr) / 1000000000) (i + 1) (by omega) (by omega) (by omega) k4_ (fun j q => by rw [zu_n _ _ (by omega)]; exact e3 j (by omega)) k5_ _ _ _ w (lv_sub hl [3, 4, 1, 0] rfl)
  have hl : lv_has ls 7 [(0, .ref h), (1, .int (zI f))] := hl
  refine z_lconst (z := 0) S dX1_multiplyBy_0 (by decide +kernel) ?_
  refine lv_lstore_n (lv' := [(2, .long (lI 0)), (0, .ref h), (1, .int (zI f))]) S.1 S.2.1 dX1_multiplyBy_1 rfl hl (by decide) rfl (fun ls hl => ?_)
  refine z_iconst S dX1_multiplyBy_2 ?_
  refine lv_istore (lv' := [(4, .int (zI 0)), (2, .long (lI 0)), (0, .ref h), (1, .int (zI f))]) S.1 S.2.1 dX1_multiplyBy_3 hl (by decide) rfl (fun ls hl => ?_)
  exact lab5 _ L 0 0 (Nat.lt_succ_self _) (by omega) (by omega) (fun j q => by omega) (fun j q => rfl) (by rw [Int.zero_mul]; show (0 : Int) + 0 = 0 * f; rw [Int.zero_mul]; rfl) _ _ _ w (lv_sub hl [2, 3, 1, 0] rfl)

set_option maxRecDepth 20000 in
theorem ki_X1_multiplyByPower_77 : Cond.constant RX1 77 (200000000) ∈ wsX1_multiplyByPower := by decide +kernel
set_option maxHeartbeats 4000000 in
set_option maxRecDepth 100000 in
theorem c_X1_multiplyByPower (l : Launch) (D : va_G) (cL cR : ClassId) (h : Nat) (ha : Nat) (hr1 : Nat) (L : Nat → Int) (lc : Int) (Rw : Nat → Int) (cnt : Int) (dec : Int) (ba : Int) (ex : Int) (hlc : 0 ≤ lc ∧ lc ≤ 86) (hL : ∀ j : Nat, (j : Int) < lc → 0 ≤ L j ∧ L j < 1000000000) (hba : ba = 2 ∨ ba = 5) (hex : 0 ≤ ex ∧ ex ≤ 1074) (hb : vL L lc.toNat * ba ^ ex.toNat < 1000000000 ^ 86) : zMv (T := (Nat → Int) × Int) l yX1_multiplyByPower wsX1_multiplyByPower ({ frames := 2, cells := 0, slots := 0, locals := 47 } : Room) D [(cL, .int), (cR, .int)] [.ref h, .int (zI ba), .int (zI ex)] [(h, .inr (1, [.ref ha, .int (zI lc), .ref hr1, .int (zI cnt), .int (zI dec)])), (ha, .inl (cL, 86, .inl (zA L))), (hr1, .inl (cR, 774, .inl (zA Rw)))] (fun (u : (Nat → Int) × Int) => (0 ≤ u.2 ∧ u.2 ≤ 86) ∧ (∀ j : Nat, (j : Int) < u.2 → 0 ≤ u.1 j ∧ u.1 j < 1000000000) ∧ vL u.1 (u.2).toNat = vL L lc.toNat * ba ^ ex.toNat) (fun (u : (Nat → Int) × Int) => [(h, .inr (1, [.ref ha, .int (zI u.2), .ref hr1, .int (zI cnt), .int (zI dec)])), (ha, .inl (cL, 86, .inl (zA u.1))), (hr1, .inl (cR, 774, .inl (zA Rw)))]) 0 0 := by
  refine zMv.of (bytes := cX1_multiplyByPower) (nL := 5) (own := RX1) (by decide) rfl rfl (Nat.le_of_ble_eq_true rfl) ?_
  intro p e s m below meth c ls S hr hlk hnm w hl
  have lab5 : ∀ (n : Nat) (L1 : Nat → Int) (lc1 : Int) (fa : Int) (i : Int), (ex - i).toNat < n → (0 ≤ i ∧ i ≤ ex) → (1 ≤ fa ∧ fa ≤ 1000000000) → (0 ≤ lc1 ∧ lc1 ≤ 86) → (∀ j : Nat, (j : Int) < lc1 → 0 ≤ L1 j ∧ L1 j < 1000000000) → (vL L1 lc1.toNat * fa = vL L lc.toNat * ba ^ i.toNat) → ∀ (H : Heap) (locs : List Loc) (ls : Array Slot), zW D [(cL, .int), (cR, .int)] (va_A [(h, .inr (1, [.ref ha, .int (zI lc), .ref hr1, .int (zI cnt), .int (zI dec)])), (ha, .inl (cL, 86, .inl (zA L))), (hr1, .inl (cR, 774, .inl (zA Rw)))] s.heap.size) s [(h, .inr (1, [.ref ha, .int (zI lc1), .ref hr1, .int (zI cnt), .int (zI dec)])), (ha, .inl (cL, 86, .inl (zA L1))), (hr1, .inl (cR, 774, .inl (zA Rw)))] H locs → lv_has ls 5 [(0, .ref h), (1, .int (zI ba)), (2, .int (zI ex)), (3, .int (zI fa)), (4, .int (zI i))] → W p l e ({ frames := 2, cells := 0, slots := 0, locals := 47 } : Room) s m ([.ref h, .int (zI ba), .int (zI ex)] : List Value).toArray below meth c H locs 0 0 (MQ below (zQv D [(cL, .int), (cR, .int)] [(h, .inr (1, [.ref ha, .int (zI lc), .ref hr1, .int (zI cnt), .int (zI dec)])), (ha, .inl (cL, 86, .inl (zA L))), (hr1, .inl (cR, 774, .inl (zA Rw)))] s.heap.size (fun (u : (Nat → Int) × Int) => (0 ≤ u.2 ∧ u.2 ≤ 86) ∧ (∀ j : Nat, (j : Int) < u.2 → 0 ≤ u.1 j ∧ u.1 j < 1000000000) ∧ vL u.1 (u.2).toNat = vL L lc.toNat * ba ^ ex.toNat) (fun (u : (Nat → Int) × Int) => [(h, .inr (1, [.ref ha, .int (zI u.2), .ref hr1, .int (zI cnt), .int (zI dec)])), (ha, .inl (cL, 86, .inl (zA u.1))), (hr1, .inl (cR, 774, .inl (zA Rw)))])) ([.ref h, .int (zI ba), .int (zI ex)] : List Value).toArray s 0 0 (va_A [(h, .inr (1, [.ref ha, .int (zI lc), .ref hr1, .int (zI cnt), .int (zI dec)])), (ha, .inl (cL, 86, .inl (zA L))), (hr1, .inl (cR, 774, .inl (zA Rw)))] s.heap.size)) (F0 m 5 ls []) := by
    intro n
    induction n with
    | zero => intro L1 lc1 fa i hm; exact absurd hm (Nat.not_lt_zero _)
    | succ n ih =>
      intro L1 lc1 fa i hm hi hfa hlc1 e1 ev H locs ls w hl
      have n0 := vL_nonneg (L := L) (n := lc.toNat) (fun j q => (hL j (by omega)).1)
      have hpb : vL L1 lc1.toNat * fa < 1000000000 ^ 86 := by
        rw [ev]
        exact Int.lt_of_le_of_lt (Int.mul_le_mul_of_nonneg_left (pow_mono_i hba (by omega)) n0) hb
      refine lv_iload S.1 S.2.1 dX1_multiplyByPower_5 (lv_at hl 4 rfl) ?_
      refine lv_iload_n S.1 S.2.1 dX1_multiplyByPower_7 rfl (lv_at hl 2 rfl) ?_
      refine z_icmp_ge (tgt := 34) S dX1_multiplyByPower_8 (by decide) (by omega) (by omega) (fun h8 => ?_) (fun h8 => ?_)
      · skip
        refine lv_aload_n S.1 S.2.1 dX1_multiplyByPower_34 rfl (lv_at hl 0 rfl) ?_
        refine lv_iload_n S.1 S.2.1 dX1_multiplyByPower_35 rfl (lv_at hl 3 rfl) ?_
        refine z_callvV (C := RX1) (n := 1) (As := [.int (zI fa)]) (rest := []) (wr := []) (wn := (fun (u : (Nat → Int) × Int) => [(h, .inr (1, [.ref ha, .int (zI u.2), .ref hr1, .int (zI cnt), .int (zI dec)])), (ha, .inl (cL, 86, .inl (zA u.1))), (hr1, .inl (cR, 774, .inl (zA Rw)))])) S w (c_X1_multiplyBy l D cL cR h ha hr1 L1 lc1 Rw cnt dec fa (by omega) e1 (by omega) hpb) gX1_multiplyByPower_X1_multiplyBy (by decide +kernel) rfl ⟨rfl, rfl⟩ ⟨Nat.le_of_ble_eq_true rfl, Nat.le_of_ble_eq_true rfl⟩ [0, 1] [0, 1, 2] [] [0, 1, 2] rfl rfl rfl rfl rfl (by decide) (fun u => rfl) rfl rfl rfl rfl rfl hl.1 (Nat.le_of_ble_eq_true rfl) ⟨Nat.le_of_ble_eq_true rfl, Nat.le_of_ble_eq_true rfl⟩ rfl dX1_multiplyByPower_36 (fun u H locs p36 w => ?_)
        obtain ⟨L2, lc2⟩ := u
        have p36 : (lc1 ≤ lc2 ∧ lc2 ≤ 86) ∧ (∀ j : Nat, (j : Int) < lc2 → 0 ≤ L2 j ∧ L2 j < 1000000000) ∧ vL L2 (lc2).toNat = vL L1 lc1.toNat * fa := p36
        have w : zW D _ _ s [(h, .inr (1, [.ref ha, .int (zI lc2), .ref hr1, .int (zI cnt), .int (zI dec)])), (ha, .inl (cL, 86, .inl (zA L2))), (hr1, .inl (cR, 774, .inl (zA Rw)))] H locs := w
        obtain ⟨a1, a2, a3⟩ := p36
        have k1_ : (0 ≤ lc2 ∧ lc2 ≤ 86) ∧ (∀ j : Nat, (j : Int) < lc2 → 0 ≤ L2 j ∧ L2 j < 1000000000) ∧ vL L2 (lc2).toNat = vL L lc.toNat * ba ^ ex.toNat := by
          have k1 : i = ex := by omega
          rw [ev, k1] at a3
          exact ⟨by omega, a2, a3⟩
        exact z_vret S hr hlk w (L2, lc2) k1_ rfl dX1_multiplyByPower_39
      · skip
        refine lv_iload_n S.1 S.2.1 dX1_multiplyByPower_11 rfl (lv_at hl 3 rfl) ?_
        refine z_ldc (v := 200000000) S 200000000 ki_X1_multiplyByPower_77 (by decide +kernel) dX1_multiplyByPower_12 ?_
        refine z_icmp_le (tgt := 24) S dX1_multiplyByPower_14 (by decide) (by omega) (by omega) (fun h14 => ?_) (fun h14 => ?_)
        · skip
          refine lv_iload_n S.1 S.2.1 dX1_multiplyByPower_24 rfl (lv_at hl 3 rfl) ?_
          refine lv_iload_n S.1 S.2.1 dX1_multiplyByPower_25 rfl (lv_at hl 1 rfl) ?_
          have qf : 1 ≤ fa * ba ∧ (fa ≤ 200000000 → fa * ba ≤ 1000000000) := by rcases hba with k | k <;> rw [k] <;> omega
          have qg : 1 ≤ 1 * ba ∧ 1 * ba ≤ 1000000000 := by omega
          refine z_imul S dX1_multiplyByPower_26 ?_
          refine lv_istore_n (lv' := [(3, .int (zI (fa * ba))), (0, .ref h), (1, .int (zI ba)), (2, .int (zI ex)), (4, .int (zI i))]) S.1 S.2.1 dX1_multiplyByPower_27 rfl hl (by decide) rfl (fun ls hl => ?_)
          refine lv_iinc (v := zI (i + 1)) (lv' := [(4, .int (zI (i + 1))), (3, .int (zI (fa * ba))), (0, .ref h), (1, .int (zI ba)), (2, .int (zI ex))]) S.1 S.2.1 dX1_multiplyByPower_28 hl (k := 4) rfl (zI_add i 1) (by decide) rfl (fun ls hl => ?_)
          refine lv_goto (tgt := 5) S.1 S.2.1 dX1_multiplyByPower_31 (by decide) ?_
          have k2_ : vL L1 lc1.toNat * (fa * ba) = vL L lc.toNat * ba ^ (i + 1).toNat := by
            have k1 : (i + 1).toNat = i.toNat + 1 := by omega
            have k2 : vL L lc.toNat * ba ^ (i + 1).toNat = vL L1 lc1.toNat * fa * ba := by rw [k1, Int.pow_succ, ← Int.mul_assoc, ← ev]
            rw [k2]
            first
              | (rw [a3, Int.one_mul])
              | (rw [Int.mul_assoc])
          exact ih L1 lc1 (fa * ba) (i + 1) (by omega) (by omega) (by omega) (by omega) (by first | exact a2 | exact e1) k2_ _ _ _ w (lv_sub hl [2, 3, 4, 1, 0] rfl)
        · skip
          refine lv_aload_n S.1 S.2.1 dX1_multiplyByPower_17 rfl (lv_at hl 0 rfl) ?_
          refine lv_iload_n S.1 S.2.1 dX1_multiplyByPower_18 rfl (lv_at hl 3 rfl) ?_
          refine z_callvV (C := RX1) (n := 1) (As := [.int (zI fa)]) (rest := []) (wr := []) (wn := (fun (u : (Nat → Int) × Int) => [(h, .inr (1, [.ref ha, .int (zI u.2), .ref hr1, .int (zI cnt), .int (zI dec)])), (ha, .inl (cL, 86, .inl (zA u.1))), (hr1, .inl (cR, 774, .inl (zA Rw)))])) S w (c_X1_multiplyBy l D cL cR h ha hr1 L1 lc1 Rw cnt dec fa (by omega) e1 (by omega) hpb) gX1_multiplyByPower_X1_multiplyBy (by decide +kernel) rfl ⟨rfl, rfl⟩ ⟨Nat.le_of_ble_eq_true rfl, Nat.le_of_ble_eq_true rfl⟩ [0, 1] [0, 1, 2] [] [0, 1, 2] rfl rfl rfl rfl rfl (by decide) (fun u => rfl) rfl rfl rfl rfl rfl hl.1 (Nat.le_of_ble_eq_true rfl) ⟨Nat.le_of_ble_eq_true rfl, Nat.le_of_ble_eq_true rfl⟩ rfl dX1_multiplyByPower_19 (fun u H locs p19 w => ?_)
          obtain ⟨L2, lc2⟩ := u
          have p19 : (lc1 ≤ lc2 ∧ lc2 ≤ 86) ∧ (∀ j : Nat, (j : Int) < lc2 → 0 ≤ L2 j ∧ L2 j < 1000000000) ∧ vL L2 (lc2).toNat = vL L1 lc1.toNat * fa := p19
          have w : zW D _ _ s [(h, .inr (1, [.ref ha, .int (zI lc2), .ref hr1, .int (zI cnt), .int (zI dec)])), (ha, .inl (cL, 86, .inl (zA L2))), (hr1, .inl (cR, 774, .inl (zA Rw)))] H locs := w
          obtain ⟨a1, a2, a3⟩ := p19
          refine z_iconst S dX1_multiplyByPower_22 ?_
          refine lv_istore_n (lv' := [(3, .int (zI 1)), (0, .ref h), (1, .int (zI ba)), (2, .int (zI ex)), (4, .int (zI i))]) S.1 S.2.1 dX1_multiplyByPower_23 rfl hl (by decide) rfl (fun ls hl => ?_)
          refine lv_iload_n S.1 S.2.1 dX1_multiplyByPower_24 rfl (lv_at hl 0 rfl) ?_
          refine lv_iload_n S.1 S.2.1 dX1_multiplyByPower_25 rfl (lv_at hl 2 rfl) ?_
          have qf : 1 ≤ fa * ba ∧ (fa ≤ 200000000 → fa * ba ≤ 1000000000) := by rcases hba with k | k <;> rw [k] <;> omega
          have qg : 1 ≤ 1 * ba ∧ 1 * ba ≤ 1000000000 := by omega
          refine z_imul S dX1_multiplyByPower_26 ?_
          refine lv_istore_n (lv' := [(3, .int (zI (1 * ba))), (0, .ref h), (1, .int (zI ba)), (2, .int (zI ex)), (4, .int (zI i))]) S.1 S.2.1 dX1_multiplyByPower_27 rfl hl (by decide) rfl (fun ls hl => ?_)
          refine lv_iinc (v := zI (i + 1)) (lv' := [(4, .int (zI (i + 1))), (3, .int (zI (1 * ba))), (0, .ref h), (1, .int (zI ba)), (2, .int (zI ex))]) S.1 S.2.1 dX1_multiplyByPower_28 hl (k := 4) rfl (zI_add i 1) (by decide) rfl (fun ls hl => ?_)
          refine lv_goto (tgt := 5) S.1 S.2.1 dX1_multiplyByPower_31 (by decide) ?_
          have k3_ : vL L2 lc2.toNat * (1 * ba) = vL L lc.toNat * ba ^ (i + 1).toNat := by
            have k1 : (i + 1).toNat = i.toNat + 1 := by omega
            have k2 : vL L lc.toNat * ba ^ (i + 1).toNat = vL L1 lc1.toNat * fa * ba := by rw [k1, Int.pow_succ, ← Int.mul_assoc, ← ev]
            rw [k2]
            first
              | (rw [a3, Int.one_mul])
              | (rw [Int.mul_assoc])
          exact ih L2 lc2 (1 * ba) (i + 1) (by omega) (by omega) (by omega) (by omega) (by first | exact a2 | exact e1) k3_ _ _ _ w (lv_sub hl [2, 3, 4, 1, 0] rfl)
  have hl : lv_has ls 5 [(0, .ref h), (1, .int (zI ba)), (2, .int (zI ex))] := hl
  refine z_iconst S dX1_multiplyByPower_0 ?_
  refine lv_istore_n (lv' := [(3, .int (zI 1)), (0, .ref h), (1, .int (zI ba)), (2, .int (zI ex))]) S.1 S.2.1 dX1_multiplyByPower_1 rfl hl (by decide) rfl (fun ls hl => ?_)
  refine z_iconst S dX1_multiplyByPower_2 ?_
  refine lv_istore (lv' := [(4, .int (zI 0)), (3, .int (zI 1)), (0, .ref h), (1, .int (zI ba)), (2, .int (zI ex))]) S.1 S.2.1 dX1_multiplyByPower_3 hl (by decide) rfl (fun ls hl => ?_)
  exact lab5 _ L lc 1 0 (Nat.lt_succ_self _) (by omega) (by omega) (by omega) hL (by rw [Int.mul_one]; show _ = vL L lc.toNat * ba ^ 0; rw [Int.pow_zero, Int.mul_one]) _ _ _ w (lv_sub hl [2, 3, 4, 1, 0] rfl)

set_option maxHeartbeats 4000000 in
set_option maxRecDepth 100000 in
theorem c_J7_fill_53178 (l : Launch) (D : va_G) (cR : ClassId) (a : Nat) (r : Nat → Int) (x : Int)  : zMv (T := (Nat → Int)) l yJ7_fill_53178 wsJ7_fill_53178 ({ frames := 0, cells := 0, slots := 0, locals := 0 } : Room) D [(cR, .int)] [.ref a, .int (zI x)] [(a, .inl (cR, 774, .inl (zA r)))] (fun (u : (Nat → Int)) => ∀ j : Nat, j < 774 → u j = x) (fun (u : (Nat → Int)) => [(a, .inl (cR, 774, .inl (zA u)))]) 0 0 := by
  refine zMv.of (bytes := cJ7_fill_53178) (nL := 4) (own := RJ7) (by decide) rfl rfl (Nat.le_of_ble_eq_true rfl) ?_
  intro p e s m below meth c ls S hr hlk hnm w hl
  have lab5 : ∀ (n : Nat) (r1 : Nat → Int) (i : Int), (774 - i).toNat < n → (0 ≤ i ∧ i ≤ 774) → (∀ j : Nat, (j : Int) < i → r1 j = x) → ∀ (H : Heap) (locs : List Loc) (ls : Array Slot), zW D [(cR, .int)] (va_A [(a, .inl (cR, 774, .inl (zA r)))] s.heap.size) s [(a, .inl (cR, 774, .inl (zA r1)))] H locs → lv_has ls 4 [(0, .ref a), (1, .int (zI x)), (2, .int (zI i)), (3, .int (zI ((774 : Nat) : Int)))] → W p l e ({ frames := 0, cells := 0, slots := 0, locals := 0 } : Room) s m ([.ref a, .int (zI x)] : List Value).toArray below meth c H locs 0 0 (MQ below (zQv D [(cR, .int)] [(a, .inl (cR, 774, .inl (zA r)))] s.heap.size (fun (u : (Nat → Int)) => ∀ j : Nat, j < 774 → u j = x) (fun (u : (Nat → Int)) => [(a, .inl (cR, 774, .inl (zA u)))])) ([.ref a, .int (zI x)] : List Value).toArray s 0 0 (va_A [(a, .inl (cR, 774, .inl (zA r)))] s.heap.size)) (F0 m 5 ls []) := by
    intro n
    induction n with
    | zero => intro r1 i hm; exact absurd hm (Nat.not_lt_zero _)
    | succ n ih =>
      intro r1 i hm hi e1 H locs ls w hl
      refine lv_iload_n S.1 S.2.1 dJ7_fill_53178_5 rfl (lv_at hl 2 rfl) ?_
      refine lv_iload_n S.1 S.2.1 dJ7_fill_53178_6 rfl (lv_at hl 3 rfl) ?_
      refine z_icmp_ge (tgt := 20) S dJ7_fill_53178_7 (by decide) (by omega) (by omega) (fun h7 => ?_) (fun h7 => ?_)
      · skip
        exact z_vret S hr hlk w r1 (fun j q => e1 j (by omega)) rfl dJ7_fill_53178_20
      · skip
        refine lv_aload_n S.1 S.2.1 dJ7_fill_53178_10 rfl (lv_at hl 0 rfl) ?_
        refine lv_iload_n S.1 S.2.1 dJ7_fill_53178_11 rfl (lv_at hl 2 rfl) ?_
        refine lv_iload_n S.1 S.2.1 dJ7_fill_53178_12 rfl (lv_at hl 1 rfl) ?_
        refine z_iast S w 0 0 rfl rfl (by omega) (by decide) dJ7_fill_53178_13 (fun H locs w => ?_)
        have w : zW D _ _ s [(a, .inl (cR, 774, .inl (zA (zu r1 i.toNat x))))] H locs := w
        refine lv_iinc (v := zI (i + 1)) (lv' := [(2, .int (zI (i + 1))), (0, .ref a), (1, .int (zI x)), (3, .int (zI ((774 : Nat) : Int)))]) S.1 S.2.1 dJ7_fill_53178_14 hl (k := 2) rfl (zI_add i 1) (by decide) rfl (fun ls hl => ?_)
        refine lv_goto (tgt := 5) S.1 S.2.1 dJ7_fill_53178_17 (by decide) ?_
        have k1_ : ∀ j : Nat, (j : Int) < (i + 1) → (zu r1 i.toNat x) j = x := by
          intro j q
          by_cases q5 : (j : Int) = i
          · have q6 : i.toNat = j := by omega
            rw [q6, zu_s]
          · rw [zu_n _ _ (by omega)]; exact e1 j (by omega)
        exact ih (zu r1 i.toNat x) (i + 1) (by omega) (by omega) k1_ _ _ _ w (lv_sub hl [1, 2, 0, 3] rfl)
  have hl : lv_has ls 4 [(0, .ref a), (1, .int (zI x))] := hl
  refine z_iconst S dJ7_fill_53178_0 ?_
  refine lv_istore_n (lv' := [(2, .int (zI 0)), (0, .ref a), (1, .int (zI x))]) S.1 S.2.1 dJ7_fill_53178_1 rfl hl (by decide) rfl (fun ls hl => ?_)
  refine lv_aload_n S.1 S.2.1 dJ7_fill_53178_2 rfl (lv_at hl 1 rfl) ?_
  refine z_alen (n := 774) S w 0 0 rfl rfl dJ7_fill_53178_3 ?_
  refine lv_istore_n (lv' := [(3, .int (zI ((774 : Nat) : Int))), (2, .int (zI 0)), (0, .ref a), (1, .int (zI x))]) S.1 S.2.1 dJ7_fill_53178_4 rfl hl (by decide) rfl (fun ls hl => ?_)
  exact lab5 _ r 0 (Nat.lt_succ_self _) (by omega) (fun j q => by omega) _ _ _ w (lv_sub hl [2, 3, 1, 0] rfl)

set_option maxRecDepth 20000 in
theorem ln_X1_spreadLimb_19 : Cond.fieldLink RX1 19 "DecimalText$Worth" "row" "[I" ∈ wsX1_spreadLimb := by decide +kernel
theorem in_X1_spreadLimb_X1 : ∀ w ∈ u_ws RX1 TX1 5, w ∈ wsX1_spreadLimb := by decide +kernel
set_option maxRecDepth 20000 in
theorem ln_X1_spreadLimb_22 : Cond.fieldLink RX1 22 "DecimalText$Worth" "count" "I" ∈ wsX1_spreadLimb := by decide +kernel
set_option maxHeartbeats 4000000 in
set_option maxRecDepth 100000 in
theorem c_X1_spreadLimb (l : Launch) (D : va_G) (cL cR : ClassId) (h : Nat) (ha : Nat) (hr1 : Nat) (L : Nat → Int) (lc : Int) (Rw : Nat → Int) (cnt : Int) (dec : Int) (x : Int) (fr : Int) (hx : 0 ≤ x ∧ x < 1000000000) (hfr : 0 ≤ fr ∧ fr ≤ 765) (hz : ∀ j : Nat, fr ≤ (j : Int) → j < 774 → Rw j = 0) : zMv (T := (Nat → Int) × Int) l yX1_spreadLimb wsX1_spreadLimb ({ frames := 0, cells := 0, slots := 0, locals := 0 } : Room) D [(cL, .int), (cR, .int)] [.ref h, .int (zI x), .int (zI fr)] [(h, .inr (1, [.ref ha, .int (zI lc), .ref hr1, .int (zI cnt), .int (zI dec)])), (ha, .inl (cL, 86, .inl (zA L))), (hr1, .inl (cR, 774, .inl (zA Rw)))] (fun (u : (Nat → Int) × Int) => (∀ j : Nat, fr ≤ (j : Int) → j < 774 → u.1 j = (dg x.toNat (j - fr.toNat) : Int)) ∧ (∀ j : Nat, (j : Int) < fr → u.1 j = Rw j) ∧ ((x = 0 ∧ u.2 = cnt) ∨ (0 < x ∧ u.2 = fr + (ln x.toNat : Int)))) (fun (u : (Nat → Int) × Int) => [(h, .inr (1, [.ref ha, .int (zI lc), .ref hr1, .int (zI u.2), .int (zI dec)])), (ha, .inl (cL, 86, .inl (zA L))), (hr1, .inl (cR, 774, .inl (zA u.1)))]) 0 0 := by
  refine zMv.of (bytes := cX1_spreadLimb) (nL := 5) (own := RX1) (by decide) rfl rfl (Nat.le_of_ble_eq_true rfl) ?_
  intro p e s m below meth c ls S hr hlk hnm w hl
  have lab5 : ∀ (n : Nat) (R1 : Nat → Int) (cn : Int) (re : Int) (i : Int), (fr + 9 - i).toNat < n → (fr ≤ i ∧ i ≤ fr + 9) → (re = ((x.toNat / 10 ^ (i - fr).toNat : Nat) : Int)) → (∀ j : Nat, fr ≤ (j : Int) → (j : Int) < i → R1 j = (dg x.toNat (j - fr.toNat) : Int)) → (∀ j : Nat, (j : Int) < fr → R1 j = Rw j) → (∀ j : Nat, i ≤ (j : Int) → j < 774 → R1 j = 0) → ((i = fr ∧ cn = cnt) ∨ (fr < i ∧ cn = i ∧ 10 ^ (i - fr - 1).toNat ≤ x.toNat)) → ∀ (H : Heap) (locs : List Loc) (ls : Array Slot), zW D [(cL, .int), (cR, .int)] (va_A [(h, .inr (1, [.ref ha, .int (zI lc), .ref hr1, .int (zI cnt), .int (zI dec)])), (ha, .inl (cL, 86, .inl (zA L))), (hr1, .inl (cR, 774, .inl (zA Rw)))] s.heap.size) s [(h, .inr (1, [.ref ha, .int (zI lc), .ref hr1, .int (zI cn), .int (zI dec)])), (ha, .inl (cL, 86, .inl (zA L))), (hr1, .inl (cR, 774, .inl (zA R1)))] H locs → lv_has ls 5 [(0, .ref h), (3, .int (zI re)), (4, .int (zI i))] → W p l e ({ frames := 0, cells := 0, slots := 0, locals := 0 } : Room) s m ([.ref h, .int (zI x), .int (zI fr)] : List Value).toArray below meth c H locs 0 0 (MQ below (zQv D [(cL, .int), (cR, .int)] [(h, .inr (1, [.ref ha, .int (zI lc), .ref hr1, .int (zI cnt), .int (zI dec)])), (ha, .inl (cL, 86, .inl (zA L))), (hr1, .inl (cR, 774, .inl (zA Rw)))] s.heap.size (fun (u : (Nat → Int) × Int) => (∀ j : Nat, fr ≤ (j : Int) → j < 774 → u.1 j = (dg x.toNat (j - fr.toNat) : Int)) ∧ (∀ j : Nat, (j : Int) < fr → u.1 j = Rw j) ∧ ((x = 0 ∧ u.2 = cnt) ∨ (0 < x ∧ u.2 = fr + (ln x.toNat : Int)))) (fun (u : (Nat → Int) × Int) => [(h, .inr (1, [.ref ha, .int (zI lc), .ref hr1, .int (zI u.2), .int (zI dec)])), (ha, .inl (cL, 86, .inl (zA L))), (hr1, .inl (cR, 774, .inl (zA u.1)))])) ([.ref h, .int (zI x), .int (zI fr)] : List Value).toArray s 0 0 (va_A [(h, .inr (1, [.ref ha, .int (zI lc), .ref hr1, .int (zI cnt), .int (zI dec)])), (ha, .inl (cL, 86, .inl (zA L))), (hr1, .inl (cR, 774, .inl (zA Rw)))] s.heap.size)) (F0 m 5 ls []) := by
    intro n
    induction n with
    | zero => intro R1 cn re i hm; exact absurd hm (Nat.not_lt_zero _)
    | succ n ih =>
      intro R1 cn re i hm hi hre e1 e2 e3 ec H locs ls w hl
      have hrb : 0 ≤ re ∧ re < 1000000000 := by
        have h1 := Nat.div_le_self x.toNat (10 ^ (i - fr).toNat)
        generalize x.toNat / 10 ^ (i - fr).toNat = q at h1 hre
        omega
      refine lv_iload_n S.1 S.2.1 dX1_spreadLimb_5 rfl (lv_at hl 1 rfl) ?_
      refine z_if_le (tgt := 54) S dX1_spreadLimb_6 (by decide) (by omega) (fun h6 => ?_) (fun h6 => ?_)
      · skip
        have k1_ : (∀ j : Nat, fr ≤ (j : Int) → j < 774 → R1 j = (dg x.toNat (j - fr.toNat) : Int)) ∧ (∀ j : Nat, (j : Int) < fr → R1 j = Rw j) ∧ ((x = 0 ∧ cn = cnt) ∨ (0 < x ∧ cn = fr + (ln x.toNat : Int))) := by
          have k0 : x.toNat < 10 ^ (i - fr).toNat := by
            apply Nat.lt_of_not_le
            intro k
            have h1 := (Nat.le_div_iff_mul_le (p10_pos (i - fr).toNat)).mpr (by omega : 1 * 10 ^ (i - fr).toNat ≤ x.toNat)
            generalize x.toNat / 10 ^ (i - fr).toNat = q at h1 hre
            omega
          refine ⟨?_, e2, ?_⟩
          · intro j q1 q2
            by_cases q3 : (j : Int) < i
            · exact e1 j q1 q3
            · rw [e3 j (by omega) q2, dg_big (Nat.lt_of_lt_of_le k0 (Nat.pow_le_pow_right (by decide) (by omega)))]; rfl
          · rcases ec with ⟨c1, c2⟩ | ⟨c1, c2, c3⟩
            · have k1 : (i - fr).toNat = 0 := by omega
              rw [k1] at k0
              exact Or.inl ⟨by omega, c2⟩
            · have k1 : (i - fr).toNat = (i - fr - 1).toNat + 1 := by omega
              rw [k1] at k0
              have k2 := ln_eq c3 k0
              have k3 := p10_pos (i - fr - 1).toNat
              exact Or.inr ⟨by omega, by rw [k2]; omega⟩
        exact z_vret S hr hlk w (R1, cn) k1_ rfl dX1_spreadLimb_54
      · skip
        have hlt : 10 ^ (i - fr).toNat ≤ x.toNat := by
          apply Nat.le_of_not_lt
          intro k
          rw [Nat.div_eq_of_lt k] at hre
          omega
        have hi9 : i < fr + 9 := by
          apply Int.not_le.mp
          intro k
          have k2 : (i - fr).toNat = 9 := by omega
          rw [k2] at hlt
          omega
        refine lv_iload S.1 S.2.1 dX1_spreadLimb_9 (lv_at hl 2 rfl) ?_
        refine z_if_lt (tgt := 54) S dX1_spreadLimb_11 (by decide) (by omega) (fun h11 => ?_) (fun h11 => ?_)
        · skip
          exfalso; omega
        · skip
          refine lv_iload S.1 S.2.1 dX1_spreadLimb_14 (lv_at hl 2 rfl) ?_
          refine lv_aload_n S.1 S.2.1 dX1_spreadLimb_16 rfl (lv_at hl 0 rfl) ?_
          refine z_get (ci := 1) (C := RX1) (T := TX1) (N := 5) S w 0 rfl rfl in_X1_spreadLimb_X1 2 (by decide) ln_X1_spreadLimb_19 rfl rfl dX1_spreadLimb_17 ?_
          refine z_alen (n := 774) S w 2 1 rfl rfl dX1_spreadLimb_20 ?_
          refine z_icmp_ge (tgt := 54) S dX1_spreadLimb_21 (by decide) (by omega) (by omega) (fun h21 => ?_) (fun h21 => ?_)
          · skip
            exfalso; omega
          · skip
            refine lv_aload_n S.1 S.2.1 dX1_spreadLimb_24 rfl (lv_at hl 0 rfl) ?_
            refine z_get (ci := 1) (C := RX1) (T := TX1) (N := 5) S w 0 rfl rfl in_X1_spreadLimb_X1 2 (by decide) ln_X1_spreadLimb_19 rfl rfl dX1_spreadLimb_25 ?_
            refine lv_iload S.1 S.2.1 dX1_spreadLimb_28 (lv_at hl 2 rfl) ?_
            refine lv_iload_n S.1 S.2.1 dX1_spreadLimb_30 rfl (lv_at hl 1 rfl) ?_
            refine z_bipush S dX1_spreadLimb_31 (by decide +kernel) ?_
            refine z_irem S dX1_spreadLimb_33 (by omega) (by omega) ?_
            refine z_iast S w 2 1 rfl rfl (by omega) (by decide) dX1_spreadLimb_34 (fun H locs w => ?_)
            have w : zW D _ _ s [(h, .inr (1, [.ref ha, .int (zI lc), .ref hr1, .int (zI cn), .int (zI dec)])), (ha, .inl (cL, 86, .inl (zA L))), (hr1, .inl (cR, 774, .inl (zA (zu R1 i.toNat (re % 10)))))] H locs := w
            refine lv_iload_n S.1 S.2.1 dX1_spreadLimb_35 rfl (lv_at hl 1 rfl) ?_
            refine z_bipush S dX1_spreadLimb_36 (by decide +kernel) ?_
            refine z_idiv S dX1_spreadLimb_38 (by omega) (by omega) ?_
            refine lv_istore_n (lv' := [(3, .int (zI (re / 10))), (0, .ref h), (4, .int (zI i))]) S.1 S.2.1 dX1_spreadLimb_39 rfl hl (by decide) rfl (fun ls hl => ?_)
            refine lv_aload_n S.1 S.2.1 dX1_spreadLimb_40 rfl (lv_at hl 1 rfl) ?_
            refine lv_iload S.1 S.2.1 dX1_spreadLimb_41 (lv_at hl 2 rfl) ?_
            refine z_iconst S dX1_spreadLimb_43 ?_
            refine z_iadd S dX1_spreadLimb_44 ?_
            refine z_put (ci := 1) (C := RX1) (T := TX1) (N := 5) S w 0 rfl rfl in_X1_spreadLimb_X1 tyX1_ok nmX1 3 (by decide) ln_X1_spreadLimb_22 rfl rfl rfl rfl (Nat.le_of_ble_eq_true rfl) dX1_spreadLimb_45 (fun H locs w => ?_)
            have w : zW D _ _ s [(h, .inr (1, [.ref ha, .int (zI lc), .ref hr1, .int (zI (i + 1)), .int (zI dec)])), (ha, .inl (cL, 86, .inl (zA L))), (hr1, .inl (cR, 774, .inl (zA (zu R1 i.toNat (re % 10)))))] H locs := w
            refine lv_iinc (v := zI (i + 1)) (lv' := [(4, .int (zI (i + 1))), (3, .int (zI (re / 10))), (0, .ref h)]) S.1 S.2.1 dX1_spreadLimb_48 hl (k := 2) rfl (zI_add i 1) (by decide) rfl (fun ls hl => ?_)
            refine lv_goto (tgt := 5) S.1 S.2.1 dX1_spreadLimb_51 (by decide) ?_
            have k2_ : (re / 10) = ((x.toNat / 10 ^ ((i + 1) - fr).toNat : Nat) : Int) := by
              have k1 : (i + 1 - fr).toNat = (i - fr).toNat + 1 := by omega
              rw [k1, Nat.pow_succ, ← Nat.div_div_eq_div_mul, hre]
              generalize x.toNat / 10 ^ (i - fr).toNat = q
              omega
            have k3_ : ∀ j : Nat, fr ≤ (j : Int) → (j : Int) < (i + 1) → (zu R1 i.toNat (re % 10)) j = (dg x.toNat (j - fr.toNat) : Int) := by
              intro j q1 q2
              by_cases q5 : (j : Int) = i
              · have q6 : i.toNat = j := by omega
                have q7 : j - fr.toNat = (i - fr).toNat := by omega
                rw [q6, zu_s, q7, hre]; unfold dg
                generalize x.toNat / 10 ^ (i - fr).toNat = q
                omega
              · rw [zu_n _ _ (by omega)]; exact e1 j q1 (by omega)
            have k4_ : ((i + 1) = fr ∧ (i + 1) = cnt) ∨ (fr < (i + 1) ∧ (i + 1) = (i + 1) ∧ 10 ^ ((i + 1) - fr - 1).toNat ≤ x.toNat) := by
              have k1 : (i + 1 - fr - 1).toNat = (i - fr).toNat := by omega
              rw [k1]
              exact Or.inr ⟨by omega, rfl, hlt⟩
            exact ih (zu R1 i.toNat (re % 10)) (i + 1) (re / 10) (i + 1) (by omega) (by omega) k2_ k3_ (fun j q => by rw [zu_n _ _ (by omega)]; exact e2 j q) (fun j q1 q2 => by rw [zu_n _ _ (by omega)]; exact e3 j (by omega) q2) k4_ _ _ _ w (lv_sub hl [2, 1, 0] rfl)
  have hl : lv_has ls 5 [(0, .ref h), (1, .int (zI x)), (2, .int (zI fr))] := hl
  refine lv_iload_n S.1 S.2.1 dX1_spreadLimb_0 rfl (lv_at hl 1 rfl) ?_
  refine lv_istore_n (lv' := [(3, .int (zI x)), (0, .ref h), (1, .int (zI x)), (2, .int (zI fr))]) S.1 S.2.1 dX1_spreadLimb_1 rfl hl (by decide) rfl (fun ls hl => ?_)
  refine lv_iload_n S.1 S.2.1 dX1_spreadLimb_2 rfl (lv_at hl 3 rfl) ?_
  refine lv_istore (lv' := [(4, .int (zI fr)), (3, .int (zI x)), (0, .ref h), (1, .int (zI x)), (2, .int (zI fr))]) S.1 S.2.1 dX1_spreadLimb_3 hl (by decide) rfl (fun ls hl => ?_)
  have k5_ : x = ((x.toNat / 10 ^ (fr - fr).toNat : Nat) : Int) := by
    have k : (fr - fr).toNat = 0 := by omega
    rw [k, Nat.pow_zero, Nat.div_one]; omega
  exact lab5 _ Rw cnt x fr (Nat.lt_succ_self _) (by omega) k5_ (fun j q1 q2 => by omega) (fun j q => rfl) hz (by omega) _ _ _ w (lv_sub hl [2, 1, 0] rfl)

set_option maxRecDepth 20000 in
theorem ln_X1_spreadLimbs_15 : Cond.fieldLink RX1 15 "DecimalText$Worth" "limbCount" "I" ∈ wsX1_spreadLimbs := by decide +kernel
theorem in_X1_spreadLimbs_X1 : ∀ w ∈ u_ws RX1 TX1 5, w ∈ wsX1_spreadLimbs := by decide +kernel
set_option maxRecDepth 20000 in
theorem ln_X1_spreadLimbs_11 : Cond.fieldLink RX1 11 "DecimalText$Worth" "limbs" "[I" ∈ wsX1_spreadLimbs := by decide +kernel
set_option maxRecDepth 20000 in
theorem ln_X1_spreadLimbs_19 : Cond.fieldLink RX1 19 "DecimalText$Worth" "row" "[I" ∈ wsX1_spreadLimbs := by decide +kernel
set_option maxRecDepth 20000 in
theorem ln_X1_spreadLimbs_22 : Cond.fieldLink RX1 22 "DecimalText$Worth" "count" "I" ∈ wsX1_spreadLimbs := by decide +kernel
set_option maxHeartbeats 4000000 in
set_option maxRecDepth 100000 in
theorem c_X1_spreadLimbs (l : Launch) (D : va_G) (cL cR : ClassId) (h : Nat) (ha : Nat) (hr1 : Nat) (L : Nat → Int) (lc : Int) (Rw : Nat → Int) (cnt : Int) (dec : Int) (hlc : 0 ≤ lc ∧ lc ≤ 86) (hL : ∀ j : Nat, (j : Int) < lc → 0 ≤ L j ∧ L j < 1000000000) : zMv (T := (Nat → Int) × Int) l yX1_spreadLimbs wsX1_spreadLimbs ({ frames := 1, cells := 0, slots := 0, locals := 24 } : Room) D [(cL, .int), (cR, .int)] [.ref h] [(h, .inr (1, [.ref ha, .int (zI lc), .ref hr1, .int (zI cnt), .int (zI dec)])), (ha, .inl (cL, 86, .inl (zA L))), (hr1, .inl (cR, 774, .inl (zA Rw)))] (fun (u : (Nat → Int) × Int) => (∀ j : Nat, j < 774 → u.1 j = (dg (vL L lc.toNat).toNat j : Int)) ∧ u.2 = (ln (vL L lc.toNat).toNat : Int)) (fun (u : (Nat → Int) × Int) => [(h, .inr (1, [.ref ha, .int (zI lc), .ref hr1, .int (zI u.2), .int (zI dec)])), (ha, .inl (cL, 86, .inl (zA L))), (hr1, .inl (cR, 774, .inl (zA u.1)))]) 0 0 := by
  refine zMv.of (bytes := cX1_spreadLimbs) (nL := 2) (own := RX1) (by decide) rfl rfl (Nat.le_of_ble_eq_true rfl) ?_
  intro p e s m below meth c ls S hr hlk hnm w hl
  have lab15 : ∀ (n : Nat) (R1 : Nat → Int) (cn : Int) (i : Int), (lc - i).toNat < n → (0 ≤ i ∧ i ≤ lc) → (∀ j : Nat, j < 774 → R1 j = (dg (vL L i.toNat).toNat j : Int)) → (cn = (ln (vL L i.toNat).toNat : Int)) → ∀ (H : Heap) (locs : List Loc) (ls : Array Slot), zW D [(cL, .int), (cR, .int)] (va_A [(h, .inr (1, [.ref ha, .int (zI lc), .ref hr1, .int (zI cnt), .int (zI dec)])), (ha, .inl (cL, 86, .inl (zA L))), (hr1, .inl (cR, 774, .inl (zA Rw)))] s.heap.size) s [(h, .inr (1, [.ref ha, .int (zI lc), .ref hr1, .int (zI cn), .int (zI dec)])), (ha, .inl (cL, 86, .inl (zA L))), (hr1, .inl (cR, 774, .inl (zA R1)))] H locs → lv_has ls 2 [(0, .ref h), (1, .int (zI i))] → W p l e ({ frames := 1, cells := 0, slots := 0, locals := 24 } : Room) s m ([.ref h] : List Value).toArray below meth c H locs 0 0 (MQ below (zQv D [(cL, .int), (cR, .int)] [(h, .inr (1, [.ref ha, .int (zI lc), .ref hr1, .int (zI cnt), .int (zI dec)])), (ha, .inl (cL, 86, .inl (zA L))), (hr1, .inl (cR, 774, .inl (zA Rw)))] s.heap.size (fun (u : (Nat → Int) × Int) => (∀ j : Nat, j < 774 → u.1 j = (dg (vL L lc.toNat).toNat j : Int)) ∧ u.2 = (ln (vL L lc.toNat).toNat : Int)) (fun (u : (Nat → Int) × Int) => [(h, .inr (1, [.ref ha, .int (zI lc), .ref hr1, .int (zI u.2), .int (zI dec)])), (ha, .inl (cL, 86, .inl (zA L))), (hr1, .inl (cR, 774, .inl (zA u.1)))])) ([.ref h] : List Value).toArray s 0 0 (va_A [(h, .inr (1, [.ref ha, .int (zI lc), .ref hr1, .int (zI cnt), .int (zI dec)])), (ha, .inl (cL, 86, .inl (zA L))), (hr1, .inl (cR, 774, .inl (zA Rw)))] s.heap.size)) (F0 m 15 ls []) := by
    intro n
    induction n with
    | zero => intro R1 cn i hm; exact absurd hm (Nat.not_lt_zero _)
    | succ n ih =>
      intro R1 cn i hm hi e1 ec H locs ls w hl
      refine lv_iload_n S.1 S.2.1 dX1_spreadLimbs_15 rfl (lv_at hl 1 rfl) ?_
      refine lv_aload_n S.1 S.2.1 dX1_spreadLimbs_16 rfl (lv_at hl 0 rfl) ?_
      refine z_get (ci := 1) (C := RX1) (T := TX1) (N := 5) S w 0 rfl rfl in_X1_spreadLimbs_X1 1 (by decide) ln_X1_spreadLimbs_15 rfl rfl dX1_spreadLimbs_17 ?_
      refine z_icmp_ge (tgt := 52) S dX1_spreadLimbs_20 (by decide) (by omega) (by omega) (fun h20 => ?_) (fun h20 => ?_)
      · skip
        have k1_ : (∀ j : Nat, j < 774 → R1 j = (dg (vL L lc.toNat).toNat j : Int)) ∧ cn = (ln (vL L lc.toNat).toNat : Int) := by
          have k1 : i = lc := by omega
          rw [k1] at e1 ec
          exact ⟨e1, ec⟩
        exact z_vret S hr hlk w (R1, cn) k1_ rfl dX1_spreadLimbs_52
      · skip
        refine lv_iload_n S.1 S.2.1 dX1_spreadLimbs_23 rfl (lv_at hl 1 rfl) ?_
        refine lv_aload_n S.1 S.2.1 dX1_spreadLimbs_24 rfl (lv_at hl 0 rfl) ?_
        refine z_get (ci := 1) (C := RX1) (T := TX1) (N := 5) S w 0 rfl rfl in_X1_spreadLimbs_X1 0 (by decide) ln_X1_spreadLimbs_11 rfl rfl dX1_spreadLimbs_25 ?_
        refine z_alen (n := 86) S w 1 0 rfl rfl dX1_spreadLimbs_28 ?_
        refine z_icmp_ge (tgt := 52) S dX1_spreadLimbs_29 (by decide) (by omega) (by omega) (fun h29 => ?_) (fun h29 => ?_)
        · skip
          exfalso; omega
        · skip
          have v0 := vL_nonneg (L := L) (n := i.toNat) (fun j q => (hL j (by omega)).1)
          have v1 := vL_lt (L := L) (n := i.toNat) (fun j q => hL j (by omega))
          have v2 : (vL L i.toNat).toNat < 10 ^ (i * 9).toNat := b9_nat v0 v1 (by omega)
          have xr := hL i.toNat (by omega)
          refine lv_aload_n S.1 S.2.1 dX1_spreadLimbs_32 rfl (lv_at hl 0 rfl) ?_
          refine lv_aload_n S.1 S.2.1 dX1_spreadLimbs_33 rfl (lv_at hl 0 rfl) ?_
          refine z_get (ci := 1) (C := RX1) (T := TX1) (N := 5) S w 0 rfl rfl in_X1_spreadLimbs_X1 0 (by decide) ln_X1_spreadLimbs_11 rfl rfl dX1_spreadLimbs_34 ?_
          refine lv_iload_n S.1 S.2.1 dX1_spreadLimbs_37 rfl (lv_at hl 1 rfl) ?_
          refine z_iald S w 1 0 rfl rfl (by omega) (by decide) dX1_spreadLimbs_38 ?_
          refine lv_iload_n S.1 S.2.1 dX1_spreadLimbs_39 rfl (lv_at hl 1 rfl) ?_
          refine z_bipush S dX1_spreadLimbs_40 (by decide +kernel) ?_
          refine z_imul S dX1_spreadLimbs_42 ?_
          refine z_callvV (C := RX1) (n := 2) (As := [.int (zI (L i.toNat)), .int (zI (i * 9))]) (rest := []) (wr := []) (wn := (fun (u : (Nat → Int) × Int) => [(h, .inr (1, [.ref ha, .int (zI lc), .ref hr1, .int (zI u.2), .int (zI dec)])), (ha, .inl (cL, 86, .inl (zA L))), (hr1, .inl (cR, 774, .inl (zA u.1)))])) S w (c_X1_spreadLimb l D cL cR h ha hr1 L lc R1 cn dec (L i.toNat) (i * 9) (by omega) (by omega) (fun j q1 q2 => by rw [e1 j q2, dg_big (Nat.lt_of_lt_of_le v2 (Nat.pow_le_pow_right (by decide) (by omega)))]; rfl)) gX1_spreadLimbs_X1_spreadLimb (by decide +kernel) rfl ⟨rfl, rfl⟩ ⟨Nat.le_of_ble_eq_true rfl, Nat.le_of_ble_eq_true rfl⟩ [0, 1] [0, 1, 2] [] [0, 1, 2] rfl rfl rfl rfl rfl (by decide) (fun u => rfl) rfl rfl rfl rfl rfl hl.1 (Nat.le_of_ble_eq_true rfl) ⟨Nat.le_of_ble_eq_true rfl, Nat.le_of_ble_eq_true rfl⟩ rfl dX1_spreadLimbs_43 (fun u H locs p43 w => ?_)
          obtain ⟨R2, cn2⟩ := u
          have p43 : (∀ j : Nat, (i * 9) ≤ (j : Int) → j < 774 → R2 j = (dg (L i.toNat).toNat (j - (i * 9).toNat) : Int)) ∧ (∀ j : Nat, (j : Int) < (i * 9) → R2 j = R1 j) ∧ (((L i.toNat) = 0 ∧ cn2 = cn) ∨ (0 < (L i.toNat) ∧ cn2 = (i * 9) + (ln (L i.toNat).toNat : Int))) := p43
          have w : zW D _ _ s [(h, .inr (1, [.ref ha, .int (zI lc), .ref hr1, .int (zI cn2), .int (zI dec)])), (ha, .inl (cL, 86, .inl (zA L))), (hr1, .inl (cR, 774, .inl (zA R2)))] H locs := w
          obtain ⟨a1, a2, a3⟩ := p43
          have k1 : (i + 1).toNat = i.toNat + 1 := by omega
          have vs : (vL L (i + 1).toNat).toNat = (vL L i.toNat).toNat + (L i.toNat).toNat * 10 ^ (i * 9).toNat := by
            rw [k1, vL]; exact b9_step v0 xr.1 (by omega)
          refine lv_iinc (v := zI (i + 1)) (lv' := [(1, .int (zI (i + 1))), (0, .ref h)]) S.1 S.2.1 dX1_spreadLimbs_46 hl (k := 1) rfl (zI_add i 1) (by decide) rfl (fun ls hl => ?_)
          refine lv_goto (tgt := 15) S.1 S.2.1 dX1_spreadLimbs_49 (by decide) ?_
          have k2_ : ∀ j : Nat, j < 774 → R2 j = (dg (vL L (i + 1).toNat).toNat j : Int) := by
            intro j q
            rw [vs]
            by_cases q2 : (j : Int) < i * 9
            · rw [a2 j q2, e1 j q, dg_low _ (by omega)]
            · have k2 : j = (i * 9).toNat + (j - (i * 9).toNat) := by omega
              rw [a1 j (by omega) q, k2, dg_high v2, ← k2]
          have k3_ : cn2 = (ln (vL L (i + 1).toNat).toNat : Int) := by
            rw [vs]
            rcases a3 with ⟨c1, c2⟩ | ⟨c1, c2⟩
            · rw [c1, c2, ec]; show _ = ((ln (_ + 0 * _) : Nat) : Int); rw [Nat.zero_mul, Nat.add_zero]
            · rw [ln_high v2 (by omega), c2]; omega
          exact ih R2 cn2 (i + 1) (by omega) (by omega) k2_ k3_ _ _ _ w (lv_sub hl [1, 0] rfl)
  have hl : lv_has ls 2 [(0, .ref h)] := hl
  refine lv_aload_n S.1 S.2.1 dX1_spreadLimbs_0 rfl (lv_at hl 0 rfl) ?_
  refine z_get (ci := 1) (C := RX1) (T := TX1) (N := 5) S w 0 rfl rfl in_X1_spreadLimbs_X1 2 (by decide) ln_X1_spreadLimbs_19 rfl rfl dX1_spreadLimbs_1 ?_
  refine z_iconst S dX1_spreadLimbs_4 ?_
  refine z_callvS (n := 2) (As := [.ref hr1, .int (zI 0)]) (rest := []) (wr := [(h, .inr (1, [.ref ha, .int (zI lc), .ref hr1, .int (zI cnt), .int (zI dec)])), (ha, .inl (cL, 86, .inl (zA L)))]) (wn := (fun (u : (Nat → Int)) => [(h, .inr (1, [.ref ha, .int (zI lc), .ref hr1, .int (zI cnt), .int (zI dec)])), (ha, .inl (cL, 86, .inl (zA L))), (hr1, .inl (cR, 774, .inl (zA u)))])) S w (c_J7_fill_53178 l D cR hr1 Rw 0) gX1_spreadLimbs_J7_fill_53178 (by decide +kernel) rfl ⟨rfl, rfl⟩ ⟨Nat.le_of_ble_eq_true rfl, Nat.le_of_ble_eq_true rfl⟩ [1] [2] [0, 1] [0, 1, 2] rfl rfl rfl rfl rfl (by decide) (fun u => rfl) rfl rfl hl.1 (Nat.le_of_ble_eq_true rfl) ⟨Nat.le_of_ble_eq_true rfl, Nat.le_of_ble_eq_true rfl⟩ rfl dX1_spreadLimbs_5 (fun R0 H locs p5 w => ?_)
  have p5 : ∀ j : Nat, j < 774 → R0 j = (0 : Int) := p5
  have w : zW D _ _ s [(h, .inr (1, [.ref ha, .int (zI lc), .ref hr1, .int (zI cnt), .int (zI dec)])), (ha, .inl (cL, 86, .inl (zA L))), (hr1, .inl (cR, 774, .inl (zA R0)))] H locs := w
  refine lv_aload_n S.1 S.2.1 dX1_spreadLimbs_8 rfl (lv_at hl 0 rfl) ?_
  refine z_iconst S dX1_spreadLimbs_9 ?_
  refine z_put (ci := 1) (C := RX1) (T := TX1) (N := 5) S w 0 rfl rfl in_X1_spreadLimbs_X1 tyX1_ok nmX1 3 (by decide) ln_X1_spreadLimbs_22 rfl rfl rfl rfl (Nat.le_of_ble_eq_true rfl) dX1_spreadLimbs_10 (fun H locs w => ?_)
  have w : zW D _ _ s [(h, .inr (1, [.ref ha, .int (zI lc), .ref hr1, .int (zI 0), .int (zI dec)])), (ha, .inl (cL, 86, .inl (zA L))), (hr1, .inl (cR, 774, .inl (zA R0)))] H locs := w
  refine z_iconst S dX1_spreadLimbs_13 ?_
  refine lv_istore_n (lv' := [(1, .int (zI 0)), (0, .ref h)]) S.1 S.2.1 dX1_spreadLimbs_14 rfl hl (by decide) rfl (fun ls hl => ?_)
  exact lab15 _ R0 0 0 (Nat.lt_succ_self _) (by omega) (fun j q => by rw [p5 j q]; show (0 : Int) = ((dg 0 j : Nat) : Int); rw [dg_big (p10_pos j)]; rfl) (by show (0 : Int) = ((ln 0 : Nat) : Int); rw [ln_0]; rfl) _ _ _ w (lv_sub hl [1, 0] rfl)
end
section
theorem take_b {ba wh m : Int} (hba : ba = 2 ∨ ba = 5) (hwh : 0 ≤ wh ∧ wh < 9007199254740992) (hm : m ≤ 1074) : wh * ba ^ m.toNat < 1000000000 ^ 86 := by
  have h1 : ba ^ m.toNat ≤ ba ^ 1074 := pow_mono_i hba (by omega)
  have h2 : ba ^ 1074 ≤ 5 ^ 1074 := by
    rcases hba with rfl | rfl
    · decide +kernel
    · exact Int.le_refl _
  have h3 : (0 : Int) < ba ^ m.toNat := Int.pow_pos (by omega)
  have h4 : wh * ba ^ m.toNat ≤ 9007199254740992 * ba ^ m.toNat := Int.mul_le_mul_of_nonneg_right (by omega) (Int.le_of_lt h3)
  have h5 : (9007199254740992 : Int) * 5 ^ 1074 < 1000000000 ^ 86 := by decide +kernel
  omega
theorem take_n {ba wh m : Int} (hba : ba = 2 ∨ ba = 5) (hwh : 0 ≤ wh ∧ wh < 9007199254740992) (hm : m ≤ 1074) : (wh * ba ^ m.toNat).toNat < 10 ^ 767 := by
  have h1 : ba ^ m.toNat ≤ ba ^ 1074 := pow_mono_i hba (by omega)
  have h2 : ba ^ 1074 ≤ 5 ^ 1074 := by
    rcases hba with rfl | rfl
    · decide +kernel
    · exact Int.le_refl _
  have h3 : (0 : Int) < ba ^ m.toNat := Int.pow_pos (by omega)
  have h4 : wh * ba ^ m.toNat ≤ 9007199254740992 * ba ^ m.toNat := Int.mul_le_mul_of_nonneg_right (by omega) (Int.le_of_lt h3)
  have h5 : (9007199254740992 : Int) * 5 ^ 1074 < ((10 ^ 767 : Nat) : Int) := by decide +kernel
  omega
theorem take_e5 {wh po m d : Int} (hwh : 0 ≤ wh) (hpo : -1074 ≤ po ∧ po < 0) (hm : m = -po) (hd : d = -po) : (wh * (5 : Int) ^ m.toNat).toNat * 10 ^ (1200 - d).toNat = wh.toNat * 2 ^ (po + 1200).toNat * 5 ^ 1200 := by
  obtain ⟨w, rfl⟩ : ∃ w : Nat, wh = (w : Int) := ⟨wh.toNat, by omega⟩
  have e0 : (5 : Int) ^ m.toNat = ((5 ^ m.toNat : Nat) : Int) := by rw [Int.natCast_pow]; rfl
  have e1 : (1200 - d).toNat = (po + 1200).toNat := by omega
  have e2 : (5 : Nat) ^ 1200 = 5 ^ m.toNat * 5 ^ (po + 1200).toNat := by
    rw [← Nat.pow_add]; congr 1; omega
  rw [e0, ← Int.natCast_mul, Int.toNat_natCast, Int.toNat_natCast, e1, ten_pow, e2]
  generalize (5 : Nat) ^ m.toNat = a
  generalize (5 : Nat) ^ (po + 1200).toNat = b
  generalize (2 : Nat) ^ (po + 1200).toNat = c
  grind
theorem take_e2 {wh po m d : Int} (hwh : 0 ≤ wh) (hpo : 0 ≤ po) (hm : m = po) (hd : d = 0) : (wh * (2 : Int) ^ m.toNat).toNat * 10 ^ (1200 - d).toNat = wh.toNat * 2 ^ (po + 1200).toNat * 5 ^ 1200 := by
  obtain ⟨w, rfl⟩ : ∃ w : Nat, wh = (w : Int) := ⟨wh.toNat, by omega⟩
  have e0 : (2 : Int) ^ m.toNat = ((2 ^ m.toNat : Nat) : Int) := by rw [Int.natCast_pow]; rfl
  have e1 : (1200 - d).toNat = 1200 := by omega
  have e2 : (2 : Nat) ^ (po + 1200).toNat = 2 ^ m.toNat * 2 ^ 1200 := by
    rw [← Nat.pow_add]; congr 1; omega
  rw [e0, ← Int.natCast_mul, Int.toNat_natCast, Int.toNat_natCast, e1, ten_pow, e2]
  generalize (2 : Nat) ^ m.toNat = a
  generalize (2 : Nat) ^ 1200 = b
  generalize (5 : Nat) ^ 1200 = c
  grind
theorem dI_rep {r : Nat → Int} {N : Nat} (hrep : ∀ j : Nat, j < 774 → r j = (dg N j : Int)) (hN : N < 10 ^ 767) {i : Int} (hi : 0 ≤ i) : dI r i = (dg N i.toNat : Int) := by
  unfold dI
  by_cases k : 0 ≤ i ∧ i < 774
  · rw [if_pos k, hrep _ (by omega)]
  · rw [if_neg k, dg_big (Nat.lt_of_lt_of_le hN (Nat.pow_le_pow_right (by decide) (by omega)))]; rfl
theorem up_rep {r : Nat → Int} {N : Nat} {cut : Int} (hc : 0 < cut) (hrep : ∀ j : Nat, j < 774 → r j = (dg N j : Int)) (hN : N < 10 ^ 767) : (5 < dI r (cut - 1) ∨ (dI r (cut - 1) = 5 ∧ ((∃ j : Nat, (j : Int) < cut - 1 ∧ r j ≠ 0) ∨ dI r cut % 2 = 1))) ↔ (5 < dg N (cut.toNat - 1) ∨ (dg N (cut.toNat - 1) = 5 ∧ ((∃ j, j < cut.toNat - 1 ∧ dg N j ≠ 0) ∨ dg N (cut.toNat - 1 + 1) % 2 = 1))) := by
  have e1 : (cut - 1).toNat = cut.toNat - 1 := by omega
  have e2 : cut.toNat - 1 + 1 = cut.toNat := by omega
  rw [dI_rep hrep hN (by omega), dI_rep hrep hN (by omega), e1, e2]
  have hb : dg N (cut.toNat - 1) = 5 → cut.toNat - 1 < 774 := by
    intro h
    apply Nat.lt_of_not_le
    intro k
    rw [dg_big (Nat.lt_of_lt_of_le hN (Nat.pow_le_pow_right (by decide) (by omega)))] at h
    omega
  constructor
  · rintro (h | ⟨h, h2⟩)
    · exact Or.inl (by omega)
    · have h5 : dg N (cut.toNat - 1) = 5 := by omega
      refine Or.inr ⟨h5, ?_⟩
      rcases h2 with ⟨j, q1, q2⟩ | h2
      · refine Or.inl ⟨j, by omega, fun q => q2 ?_⟩
        have := hb h5
        rw [hrep j (by omega), q]; rfl
      · exact Or.inr (by omega)
  · rintro (h | ⟨h, h2⟩)
    · exact Or.inl (by omega)
    · refine Or.inr ⟨by omega, ?_⟩
      rcases h2 with ⟨j, q1, q2⟩ | h2
      · have := hb h
        refine Or.inl ⟨j, by omega, ?_⟩
        rw [hrep j (by omega)]; omega
      · exact Or.inr (by omega)
theorem rq_no {r : Nat → Int} {N : Nat} {cut : Int} (hc : 0 < cut) (hrep : ∀ j : Nat, j < 774 → r j = (dg N j : Int)) (hN : N < 10 ^ 767) (h : ¬ (5 < dI r (cut - 1) ∨ (dI r (cut - 1) = 5 ∧ ((∃ j : Nat, (j : Int) < cut - 1 ∧ r j ≠ 0) ∨ dI r cut % 2 = 1)))) : rq N (10 ^ cut.toNat) = N / 10 ^ cut.toNat := by
  rw [up_rep hc hrep hN] at h
  have e2 : cut.toNat - 1 + 1 = cut.toNat := by omega
  have h1 := rq_up N (cut.toNat - 1)
  rw [if_neg h, e2] at h1
  exact h1
theorem rq_yes {r : Nat → Int} {N : Nat} {cut : Int} (hc : 0 < cut) (hrep : ∀ j : Nat, j < 774 → r j = (dg N j : Int)) (hN : N < 10 ^ 767) (h : (5 < dI r (cut - 1) ∨ (dI r (cut - 1) = 5 ∧ ((∃ j : Nat, (j : Int) < cut - 1 ∧ r j ≠ 0) ∨ dI r cut % 2 = 1)))) : rq N (10 ^ cut.toNat) = N / 10 ^ cut.toNat + 1 ∧ cut ≤ 767 := by
  rw [up_rep hc hrep hN] at h
  have e2 : cut.toNat - 1 + 1 = cut.toNat := by omega
  have h1 := rq_up N (cut.toNat - 1)
  rw [if_pos h, e2] at h1
  refine ⟨h1, ?_⟩
  apply Int.not_lt.mp
  intro k
  rw [dg_big (Nat.lt_of_lt_of_le hN (Nat.pow_le_pow_right (by decide) (by omega)))] at h
  omega
theorem rnd_row {r r2 : Nat → Int} {N : Nat} {cnt cn2 cut : Int} (h9 : ∀ j : Nat, j < 774 → 0 ≤ r j ∧ r j ≤ 9) (hrep : ∀ j : Nat, j < 774 → r j = (dg N j : Int)) (hN : N < 10 ^ 767) (hcn : cnt = (ln N : Int)) (hc : 0 < cut) (hq : rq N (10 ^ cut.toNat) = N / 10 ^ cut.toNat + 1) (hcb : cut ≤ 767)
    (hp : ∃ k : Int, (cut ≤ k) ∧ (∀ j : Nat, cut ≤ (j : Int) → (j : Int) < k → j < 774 → r j = 9 ∧ r2 j = 0) ∧ (∀ j : Nat, (j : Int) < cut → r2 j = r j) ∧ (∀ j : Nat, k < (j : Int) → r2 j = r j) ∧ (k < 774 → r k.toNat ≠ 9 ∧ r2 k.toNat = r k.toNat + 1 ∧ ((cnt < k + 1 ∧ cn2 = k + 1) ∨ (k + 1 ≤ cnt ∧ cn2 = cnt))) ∧ (774 ≤ k → cn2 = cnt ∧ (cut ≤ 774 → k = 774))) :
    (∀ j : Nat, cut.toNat ≤ j → j < 774 → r2 j = (dg (rX N cut.toNat) j : Int)) ∧ (0 < rX N cut.toNat → cn2 = (ln (rX N cut.toNat) : Int)) ∧ (rX N cut.toNat = 0 → cn2 ≤ (cut.toNat : Int)) ∧ (0 ≤ cn2 ∧ cn2 ≤ 774) ∧ (∀ j : Nat, j < 774 → 0 ≤ r2 j ∧ r2 j ≤ 9) ∧ (N = 0 → cn2 = 0) := by
  obtain ⟨k, k1, k2, k3, k4, k5, k6⟩ := hp
  have z767 : r 767 = 0 := by rw [hrep 767 (by omega), dg_big hN]; rfl
  have hk : k ≤ 767 := by
    apply Int.not_lt.mp
    intro q
    have := (k2 767 (by omega) (by omega) (by omega)).1
    omega
  obtain ⟨k51, k52, k53⟩ := k5 (by omega)
  have hlN := ln_le_of hN
  obtain ⟨a1, a2, a3, a4, a5⟩ := rnd_up (N := N) (c := cut.toNat) (k := k.toNat) hq (by omega) (fun j q1 q2 => by
      have := (k2 j (by omega) (by omega) (by omega)).1
      rw [hrep j (by omega)] at this; omega) (by
      rw [hrep _ (by omega)] at k51; omega)
  have hrow : ∀ j : Nat, cut.toNat ≤ j → j < 774 → r2 j = (dg (rX N cut.toNat) j : Int) := by
    intro j q1 q2
    by_cases q3 : (j : Int) < k
    · rw [(k2 j (by omega) q3 q2).2, a1 j q1 (by omega)]; rfl
    · by_cases q4 : (j : Int) = k
      · have q5 : k.toNat = j := by omega
        rw [q5] at k52 a2
        rw [k52, hrep j q2, a2]; omega
      · rw [k4 j (by omega), hrep j q2, a3 j (by omega)]
  refine ⟨hrow, fun _ => ?_, fun q => by omega, by omega, ?_, fun q => ?_⟩
  · rw [a5]; omega
  · intro j q
    by_cases q1 : (j : Int) < cut
    · rw [k3 j q1]; exact h9 j q
    · rw [hrow j (by omega) q]
      have := dg_lt (rX N cut.toNat) j
      omega
  · exfalso
    rw [q] at hq
    unfold rq at hq
    rw [Nat.zero_mod, Nat.zero_div, if_neg (by have := p10_pos cut.toNat; omega)] at hq
    omega

set_option maxHeartbeats 4000000 in
set_option maxRecDepth 100000 in
theorem c_X2_exponentField (l : Launch) (D : va_G) (bz : Int) (hbz : -9223372036854775808 ≤ bz ∧ bz ≤ 9223372036854775807) : zMi (T := Unit) l yX2_exponentField wsX2_exponentField ({ frames := 0, cells := 0, slots := 0, locals := 0 } : Room) D [] [.long (lI bz)] [] (fun (z : Int) (u : Unit) => z = xE bz) (fun (u : Unit) => []) 0 0 := by
  refine zMi.of (bytes := cX2_exponentField) (nL := 2) (own := RX2) (by decide) rfl rfl (Nat.le_of_ble_eq_true rfl) ?_
  intro p e s m below meth c ls S hr hlk hnm w hl
  have hl : lv_has ls 2 [(0, .long (lI bz))] := hl
  refine lv_lload_n S.1 S.2.1 dX2_exponentField_0 rfl (lv_at hl 0 rfl) ?_
  refine z_bipush S dX2_exponentField_1 (by decide +kernel) ?_
  refine z_lushr S dX2_exponentField_3 (v := (bz % 18446744073709551616 / 4503599627370496)) (lI_u52 bz) ?_
  refine z_l2i S dX2_exponentField_4 ?_
  refine z_sipush S dX2_exponentField_5 (by decide +kernel) ?_
  refine z_iand S dX2_exponentField_8 (v := (xE bz)) (by rw [zI_m11]; congr 1; unfold xE; omega) ?_
  exact z_iret S hr hlk w (zNar_int _) () rfl rfl dX2_exponentField_9

set_option maxRecDepth 20000 in
theorem ml_X1_take_40 : Cond.methodLink RX1 40 Lib.Math.abs.name ∈ wsX1_take := by decide +kernel
set_option maxRecDepth 20000 in
theorem st_X1_take_abs : Cond.static Lib.Math.abs.name ∈ wsX1_take := by decide +kernel
set_option maxRecDepth 20000 in
theorem ini_X1_take_Math : Cond.initialized "java/lang/Math" ∈ wsX1_take := by decide +kernel
set_option maxRecDepth 20000 in
theorem co_X1_take_abs : Cond.code Lib.Math.abs.name Lib.Math.abs.code 1 (some .int) ∈ wsX1_take := by decide +kernel
set_option maxRecDepth 20000 in
theorem ml_X1_take_50 : Cond.methodLink RX1 50 Lib.Math.max.name ∈ wsX1_take := by decide +kernel
set_option maxRecDepth 20000 in
theorem st_X1_take_max : Cond.static Lib.Math.max.name ∈ wsX1_take := by decide +kernel
set_option maxRecDepth 20000 in
theorem co_X1_take_max : Cond.code Lib.Math.max.name Lib.Math.max.code 2 (some .int) ∈ wsX1_take := by decide +kernel
set_option maxRecDepth 20000 in
theorem ln_X1_take_25 : Cond.fieldLink RX1 25 "DecimalText$Worth" "decimals" "I" ∈ wsX1_take := by decide +kernel
theorem in_X1_take_X1 : ∀ w ∈ u_ws RX1 TX1 5, w ∈ wsX1_take := by decide +kernel
set_option maxRecDepth 20000 in
theorem st_X1_take_ef : Cond.static yX2_exponentField ∈ wsX1_take := by decide +kernel
set_option maxRecDepth 20000 in
theorem ini_X1_take_RX2 : Cond.initialized RX2 ∈ wsX1_take := by decide +kernel
set_option maxRecDepth 20000 in
theorem kl_X1_take_32 : Cond.constantLong RX1 32 (4503599627370495) ∈ wsX1_take := by decide +kernel
set_option maxRecDepth 20000 in
theorem kl_X1_take_34 : Cond.constantLong RX1 34 (4503599627370496) ∈ wsX1_take := by decide +kernel
set_option maxHeartbeats 4000000 in
set_option maxRecDepth 100000 in
theorem c_X1_take (l : Launch) (D : va_G) (cL cR : ClassId) (h : Nat) (ha : Nat) (hr1 : Nat) (L : Nat → Int) (lc : Int) (Rw : Nat → Int) (cnt : Int) (dec : Int) (bz : Int) (hbz : -9223372036854775808 ≤ bz ∧ bz ≤ 9223372036854775807) (hfin : xE bz ≠ 2047) : zMv (T := (Nat → Int) × Int × (Nat → Int) × Int × Int) l yX1_take wsX1_take ({ frames := 3, cells := 0, slots := 0, locals := 71 } : Room) D [(cL, .int), (cR, .int)] [.ref h, .long (lI bz)] [(h, .inr (1, [.ref ha, .int (zI lc), .ref hr1, .int (zI cnt), .int (zI dec)])), (ha, .inl (cL, 86, .inl (zA L))), (hr1, .inl (cR, 774, .inl (zA Rw)))] (fun (u : (Nat → Int) × Int × (Nat → Int) × Int × Int) => ∃ N : Nat, (∀ j : Nat, j < 774 → u.2.2.1 j = (dg N j : Int)) ∧ u.2.2.2.1 = (ln N : Int) ∧ (0 ≤ u.2.2.2.2 ∧ u.2.2.2.2 ≤ 1074) ∧ N * 10 ^ (1200 - u.2.2.2.2).toNat = xX bz ∧ N < 10 ^ 767) (fun (u : (Nat → Int) × Int × (Nat → Int) × Int × Int) => [(h, .inr (1, [.ref ha, .int (zI u.2.1), .ref hr1, .int (zI u.2.2.2.1), .int (zI u.2.2.2.2)])), (ha, .inl (cL, 86, .inl (zA u.1))), (hr1, .inl (cR, 774, .inl (zA u.2.2.1)))]) 0 0 := by
  refine zMv.of (bytes := cX1_take) (nL := 7) (own := RX1) (by decide) rfl rfl (Nat.le_of_ble_eq_true rfl) ?_
  intro p e s m below meth c ls S hr hlk hnm w hl
  have lab63 : ∀ (wh : Int) (po : Int), (0 ≤ wh ∧ wh < 9007199254740992) → (-1074 ≤ po ∧ po ≤ 971) → (wh.toNat * 2 ^ (po + 1200).toNat = (xM bz).toNat * 2 ^ (xP bz + 1200).toNat) → ∀ (H : Heap) (locs : List Loc) (ls : Array Slot), zW D [(cL, .int), (cR, .int)] (va_A [(h, .inr (1, [.ref ha, .int (zI lc), .ref hr1, .int (zI cnt), .int (zI dec)])), (ha, .inl (cL, 86, .inl (zA L))), (hr1, .inl (cR, 774, .inl (zA Rw)))] s.heap.size) s [(h, .inr (1, [.ref ha, .int (zI lc), .ref hr1, .int (zI cnt), .int (zI dec)])), (ha, .inl (cL, 86, .inl (zA L))), (hr1, .inl (cR, 774, .inl (zA Rw)))] H locs → lv_has ls 7 [(0, .ref h), (4, .long (lI wh)), (6, .int (zI po))] → W p l e ({ frames := 3, cells := 0, slots := 0, locals := 71 } : Room) s m ([.ref h, .long (lI bz)] : List Value).toArray below meth c H locs 0 0 (MQ below (zQv D [(cL, .int), (cR, .int)] [(h, .inr (1, [.ref ha, .int (zI lc), .ref hr1, .int (zI cnt), .int (zI dec)])), (ha, .inl (cL, 86, .inl (zA L))), (hr1, .inl (cR, 774, .inl (zA Rw)))] s.heap.size (fun (u : (Nat → Int) × Int × (Nat → Int) × Int × Int) => ∃ N : Nat, (∀ j : Nat, j < 774 → u.2.2.1 j = (dg N j : Int)) ∧ u.2.2.2.1 = (ln N : Int) ∧ (0 ≤ u.2.2.2.2 ∧ u.2.2.2.2 ≤ 1074) ∧ N * 10 ^ (1200 - u.2.2.2.2).toNat = xX bz ∧ N < 10 ^ 767) (fun (u : (Nat → Int) × Int × (Nat → Int) × Int × Int) => [(h, .inr (1, [.ref ha, .int (zI u.2.1), .ref hr1, .int (zI u.2.2.2.1), .int (zI u.2.2.2.2)])), (ha, .inl (cL, 86, .inl (zA u.1))), (hr1, .inl (cR, 774, .inl (zA u.2.2.1)))])) ([.ref h, .long (lI bz)] : List Value).toArray s 0 0 (va_A [(h, .inr (1, [.ref ha, .int (zI lc), .ref hr1, .int (zI cnt), .int (zI dec)])), (ha, .inl (cL, 86, .inl (zA L))), (hr1, .inl (cR, 774, .inl (zA Rw)))] s.heap.size)) (F0 m 63 ls []) := by
    intro wh po hwh hpo ev H locs ls w hl
    refine lv_aload_n S.1 S.2.1 dX1_take_63 rfl (lv_at hl 0 rfl) ?_
    refine lv_lload S.1 S.2.1 dX1_take_64 (lv_at hl 1 rfl) ?_
    refine z_callvV (C := RX1) (n := 1) (As := [.long (lI wh)]) (rest := []) (wr := []) (wn := (fun (u : (Nat → Int) × Int) => [(h, .inr (1, [.ref ha, .int (zI u.2), .ref hr1, .int (zI cnt), .int (zI dec)])), (ha, .inl (cL, 86, .inl (zA u.1))), (hr1, .inl (cR, 774, .inl (zA Rw)))])) S w (c_X1_setLimbs l D cL cR h ha hr1 L lc Rw cnt dec wh (by omega)) gX1_take_X1_setLimbs (by decide +kernel) rfl ⟨rfl, rfl⟩ ⟨Nat.le_of_ble_eq_true rfl, Nat.le_of_ble_eq_true rfl⟩ [0, 1] [0, 1, 2] [] [0, 1, 2] rfl rfl rfl rfl rfl (by decide) (fun u => rfl) rfl rfl rfl rfl rfl hl.1 (Nat.le_of_ble_eq_true rfl) ⟨Nat.le_of_ble_eq_true rfl, Nat.le_of_ble_eq_true rfl⟩ rfl dX1_take_66 (fun u H locs p66 w => ?_)
    obtain ⟨L1, lc1⟩ := u
    have p66 : lc1 = 2 ∧ vL L1 2 = wh ∧ (∀ j : Nat, (j : Int) < 2 → 0 ≤ L1 j ∧ L1 j < 1000000000) := p66
    have w : zW D _ _ s [(h, .inr (1, [.ref ha, .int (zI lc1), .ref hr1, .int (zI cnt), .int (zI dec)])), (ha, .inl (cL, 86, .inl (zA L1))), (hr1, .inl (cR, 774, .inl (zA Rw)))] H locs := w
    obtain ⟨s1, s2, s3⟩ := p66
    refine lv_aload_n S.1 S.2.1 dX1_take_69 rfl (lv_at hl 0 rfl) ?_
    refine lv_iload S.1 S.2.1 dX1_take_70 (lv_at hl 2 rfl) ?_
    refine z_if_ge (tgt := 79) S dX1_take_72 (by decide) (by omega) (fun h72 => ?_) (fun h72 => ?_)
    · skip
      refine z_iconst S dX1_take_79 ?_
      refine lv_iload S.1 S.2.1 dX1_take_80 (lv_at hl 2 rfl) ?_
      refine z_mabs S ml_X1_take_40 st_X1_take_abs ini_X1_take_Math co_X1_take_abs hl.1 (Nat.le_of_ble_eq_true rfl) (Nat.le_of_ble_eq_true rfl) (Nat.le_of_ble_eq_true rfl) (Nat.le_of_ble_eq_true rfl) dX1_take_82 (by omega) (fun m82 hm82 => ?_)
      have hm1 : 0 ≤ m82 ∧ m82 ≤ 1074 := by omega
      refine z_callvV (C := RX1) (n := 2) (As := [.int (zI 2), .int (zI m82)]) (rest := []) (wr := []) (wn := (fun (u : (Nat → Int) × Int) => [(h, .inr (1, [.ref ha, .int (zI u.2), .ref hr1, .int (zI cnt), .int (zI dec)])), (ha, .inl (cL, 86, .inl (zA u.1))), (hr1, .inl (cR, 774, .inl (zA Rw)))])) S w (c_X1_multiplyByPower l D cL cR h ha hr1 L1 lc1 Rw cnt dec 2 m82 (by omega) (by rw [s1]; exact s3) (by omega) (by omega) (by rw [s1]; show vL L1 2 * _ < _; rw [s2]; exact take_b (by omega) hwh hm1.2)) gX1_take_X1_multiplyByPower (by decide +kernel) rfl ⟨rfl, rfl⟩ ⟨Nat.le_of_ble_eq_true rfl, Nat.le_of_ble_eq_true rfl⟩ [0, 1] [0, 1, 2] [] [0, 1, 2] rfl rfl rfl rfl rfl (by decide) (fun u => rfl) rfl rfl rfl rfl rfl hl.1 (Nat.le_of_ble_eq_true rfl) ⟨Nat.le_of_ble_eq_true rfl, Nat.le_of_ble_eq_true rfl⟩ rfl dX1_take_85 (fun u H locs p85 w => ?_)
      obtain ⟨L2, lc2⟩ := u
      have p85 : (0 ≤ lc2 ∧ lc2 ≤ 86) ∧ (∀ j : Nat, (j : Int) < lc2 → 0 ≤ L2 j ∧ L2 j < 1000000000) ∧ vL L2 (lc2).toNat = vL L1 lc1.toNat * (2 : Int) ^ m82.toNat := p85
      have w : zW D _ _ s [(h, .inr (1, [.ref ha, .int (zI lc2), .ref hr1, .int (zI cnt), .int (zI dec)])), (ha, .inl (cL, 86, .inl (zA L2))), (hr1, .inl (cR, 774, .inl (zA Rw)))] H locs := w
      obtain ⟨t1, t2, t3⟩ := p85
      have t4 : vL L1 lc1.toNat = wh := by rw [s1]; exact s2
      rw [t4] at t3
      refine lv_aload_n S.1 S.2.1 dX1_take_88 rfl (lv_at hl 0 rfl) ?_
      refine lv_iload S.1 S.2.1 dX1_take_89 (lv_at hl 2 rfl) ?_
      refine z_ineg S dX1_take_91 ?_
      refine z_iconst S dX1_take_92 ?_
      refine z_mmax S ml_X1_take_50 st_X1_take_max ini_X1_take_Math co_X1_take_max hl.1 (Nat.le_of_ble_eq_true rfl) (Nat.le_of_ble_eq_true rfl) (Nat.le_of_ble_eq_true rfl) (Nat.le_of_ble_eq_true rfl) dX1_take_93 (by omega) (by omega) (fun m93 hm93 => ?_)
      refine z_put (ci := 1) (C := RX1) (T := TX1) (N := 5) S w 0 rfl rfl in_X1_take_X1 tyX1_ok nmX1 4 (by decide) ln_X1_take_25 rfl rfl rfl rfl (Nat.le_of_ble_eq_true rfl) dX1_take_96 (fun H locs w => ?_)
      have w : zW D _ _ s [(h, .inr (1, [.ref ha, .int (zI lc2), .ref hr1, .int (zI cnt), .int (zI m93)])), (ha, .inl (cL, 86, .inl (zA L2))), (hr1, .inl (cR, 774, .inl (zA Rw)))] H locs := w
      refine lv_aload_n S.1 S.2.1 dX1_take_99 rfl (lv_at hl 0 rfl) ?_
      refine z_callvV (C := RX1) (n := 0) (As := []) (rest := []) (wr := []) (wn := (fun (u : (Nat → Int) × Int) => [(h, .inr (1, [.ref ha, .int (zI lc2), .ref hr1, .int (zI u.2), .int (zI m93)])), (ha, .inl (cL, 86, .inl (zA L2))), (hr1, .inl (cR, 774, .inl (zA u.1)))])) S w (c_X1_spreadLimbs l D cL cR h ha hr1 L2 lc2 Rw cnt m93 (by omega) t2) gX1_take_X1_spreadLimbs (by decide +kernel) rfl ⟨rfl, rfl⟩ ⟨Nat.le_of_ble_eq_true rfl, Nat.le_of_ble_eq_true rfl⟩ [0, 1] [0, 1, 2] [] [0, 1, 2] rfl rfl rfl rfl rfl (by decide) (fun u => rfl) rfl rfl rfl rfl rfl hl.1 (Nat.le_of_ble_eq_true rfl) ⟨Nat.le_of_ble_eq_true rfl, Nat.le_of_ble_eq_true rfl⟩ rfl dX1_take_100 (fun u H locs p100 w => ?_)
      obtain ⟨R3, cn3⟩ := u
      have p100 : (∀ j : Nat, j < 774 → R3 j = (dg (vL L2 lc2.toNat).toNat j : Int)) ∧ cn3 = (ln (vL L2 lc2.toNat).toNat : Int) := p100
      have w : zW D _ _ s [(h, .inr (1, [.ref ha, .int (zI lc2), .ref hr1, .int (zI cn3), .int (zI m93)])), (ha, .inl (cL, 86, .inl (zA L2))), (hr1, .inl (cR, 774, .inl (zA R3)))] H locs := w
      obtain ⟨u1, u2⟩ := p100
      have k1_ : ∃ N : Nat, (∀ j : Nat, j < 774 → R3 j = (dg N j : Int)) ∧ cn3 = (ln N : Int) ∧ (0 ≤ m93 ∧ m93 ≤ 1074) ∧ N * 10 ^ (1200 - m93).toNat = xX bz ∧ N < 10 ^ 767 := by
        have d1 : 0 ≤ m93 ∧ m93 ≤ 1074 := by omega
        refine ⟨_, u1, u2, d1, ?_, ?_⟩
        · rw [t3]
          unfold xX
          rw [← ev]
          first
            | (exact take_e5 hwh.1 (by omega) (by omega) (by omega))
            | (exact take_e2 hwh.1 (by omega) (by omega) (by omega))
        · rw [t3]
          exact take_n (by omega) hwh (by omega)
      exact z_vret S hr hlk w (L2, lc2, R3, cn3, m93) k1_ rfl dX1_take_103
    · skip
      refine z_iconst S dX1_take_75 ?_
      refine lv_goto (tgt := 80) S.1 S.2.1 dX1_take_76 (by decide) ?_
      refine lv_iload S.1 S.2.1 dX1_take_80 (lv_at hl 2 rfl) ?_
      refine z_mabs S ml_X1_take_40 st_X1_take_abs ini_X1_take_Math co_X1_take_abs hl.1 (Nat.le_of_ble_eq_true rfl) (Nat.le_of_ble_eq_true rfl) (Nat.le_of_ble_eq_true rfl) (Nat.le_of_ble_eq_true rfl) dX1_take_82 (by omega) (fun m82 hm82 => ?_)
      have hm1 : 0 ≤ m82 ∧ m82 ≤ 1074 := by omega
      refine z_callvV (C := RX1) (n := 2) (As := [.int (zI 5), .int (zI m82)]) (rest := []) (wr := []) (wn := (fun (u : (Nat → Int) × Int) => [(h, .inr (1, [.ref ha, .int (zI u.2), .ref hr1, .int (zI cnt), .int (zI dec)])), (ha, .inl (cL, 86, .inl (zA u.1))), (hr1, .inl (cR, 774, .inl (zA Rw)))])) S w (c_X1_multiplyByPower l D cL cR h ha hr1 L1 lc1 Rw cnt dec 5 m82 (by omega) (by rw [s1]; exact s3) (by omega) (by omega) (by rw [s1]; show vL L1 2 * _ < _; rw [s2]; exact take_b (by omega) hwh hm1.2)) gX1_take_X1_multiplyByPower (by decide +kernel) rfl ⟨rfl, rfl⟩ ⟨Nat.le_of_ble_eq_true rfl, Nat.le_of_ble_eq_true rfl⟩ [0, 1] [0, 1, 2] [] [0, 1, 2] rfl rfl rfl rfl rfl (by decide) (fun u => rfl) rfl rfl rfl rfl rfl hl.1 (Nat.le_of_ble_eq_true rfl) ⟨Nat.le_of_ble_eq_true rfl, Nat.le_of_ble_eq_true rfl⟩ rfl dX1_take_85 (fun u H locs p85 w => ?_)
      obtain ⟨L2, lc2⟩ := u
      have p85 : (0 ≤ lc2 ∧ lc2 ≤ 86) ∧ (∀ j : Nat, (j : Int) < lc2 → 0 ≤ L2 j ∧ L2 j < 1000000000) ∧ vL L2 (lc2).toNat = vL L1 lc1.toNat * (5 : Int) ^ m82.toNat := p85
      have w : zW D _ _ s [(h, .inr (1, [.ref ha, .int (zI lc2), .ref hr1, .int (zI cnt), .int (zI dec)])), (ha, .inl (cL, 86, .inl (zA L2))), (hr1, .inl (cR, 774, .inl (zA Rw)))] H locs := w
      obtain ⟨t1, t2, t3⟩ := p85
      have t4 : vL L1 lc1.toNat = wh := by rw [s1]; exact s2
      rw [t4] at t3
      refine lv_aload_n S.1 S.2.1 dX1_take_88 rfl (lv_at hl 0 rfl) ?_
      refine lv_iload S.1 S.2.1 dX1_take_89 (lv_at hl 2 rfl) ?_
      refine z_ineg S dX1_take_91 ?_
      refine z_iconst S dX1_take_92 ?_
      refine z_mmax S ml_X1_take_50 st_X1_take_max ini_X1_take_Math co_X1_take_max hl.1 (Nat.le_of_ble_eq_true rfl) (Nat.le_of_ble_eq_true rfl) (Nat.le_of_ble_eq_true rfl) (Nat.le_of_ble_eq_true rfl) dX1_take_93 (by omega) (by omega) (fun m93 hm93 => ?_)
      refine z_put (ci := 1) (C := RX1) (T := TX1) (N := 5) S w 0 rfl rfl in_X1_take_X1 tyX1_ok nmX1 4 (by decide) ln_X1_take_25 rfl rfl rfl rfl (Nat.le_of_ble_eq_true rfl) dX1_take_96 (fun H locs w => ?_)
      have w : zW D _ _ s [(h, .inr (1, [.ref ha, .int (zI lc2), .ref hr1, .int (zI cnt), .int (zI m93)])), (ha, .inl (cL, 86, .inl (zA L2))), (hr1, .inl (cR, 774, .inl (zA Rw)))] H locs := w
      refine lv_aload_n S.1 S.2.1 dX1_take_99 rfl (lv_at hl 0 rfl) ?_
      refine z_callvV (C := RX1) (n := 0) (As := []) (rest := []) (wr := []) (wn := (fun (u : (Nat → Int) × Int) => [(h, .inr (1, [.ref ha, .int (zI lc2), .ref hr1, .int (zI u.2), .int (zI m93)])), (ha, .inl (cL, 86, .inl (zA L2))), (hr1, .inl (cR, 774, .inl (zA u.1)))])) S w (c_X1_spreadLimbs l D cL cR h ha hr1 L2 lc2 Rw cnt m93 (by omega) t2) gX1_take_X1_spreadLimbs (by decide +kernel) rfl ⟨rfl, rfl⟩ ⟨Nat.le_of_ble_eq_true rfl, Nat.le_of_ble_eq_true rfl⟩ [0, 1] [0, 1, 2] [] [0, 1, 2] rfl rfl rfl rfl rfl (by decide) (fun u => rfl) rfl rfl rfl rfl rfl hl.1 (Nat.le_of_ble_eq_true rfl) ⟨Nat.le_of_ble_eq_true rfl, Nat.le_of_ble_eq_true rfl⟩ rfl dX1_take_100 (fun u H locs p100 w => ?_)
      obtain ⟨R3, cn3⟩ := u
      have p100 : (∀ j : Nat, j < 774 → R3 j = (dg (vL L2 lc2.toNat).toNat j : Int)) ∧ cn3 = (ln (vL L2 lc2.toNat).toNat : Int) := p100
      have w : zW D _ _ s [(h, .inr (1, [.ref ha, .int (zI lc2), .ref hr1, .int (zI cn3), .int (zI m93)])), (ha, .inl (cL, 86, .inl (zA L2))), (hr1, .inl (cR, 774, .inl (zA R3)))] H locs := w
      obtain ⟨u1, u2⟩ := p100
      have k2_ : ∃ N : Nat, (∀ j : Nat, j < 774 → R3 j = (dg N j : Int)) ∧ cn3 = (ln N : Int) ∧ (0 ≤ m93 ∧ m93 ≤ 1074) ∧ N * 10 ^ (1200 - m93).toNat = xX bz ∧ N < 10 ^ 767 := by
        have d1 : 0 ≤ m93 ∧ m93 ≤ 1074 := by omega
        refine ⟨_, u1, u2, d1, ?_, ?_⟩
        · rw [t3]
          unfold xX
          rw [← ev]
          first
            | (exact take_e5 hwh.1 (by omega) (by omega) (by omega))
            | (exact take_e2 hwh.1 (by omega) (by omega) (by omega))
        · rw [t3]
          exact take_n (by omega) hwh (by omega)
      exact z_vret S hr hlk w (L2, lc2, R3, cn3, m93) k2_ rfl dX1_take_103
  have lab37 : ∀ (n : Nat) (wh : Int) (po : Int), (-po).toNat < n → (0 ≤ wh ∧ wh < 9007199254740992) → (-1074 ≤ po ∧ po ≤ 971) → (wh.toNat * 2 ^ (po + 1200).toNat = (xM bz).toNat * 2 ^ (xP bz + 1200).toNat) → ∀ (H : Heap) (locs : List Loc) (ls : Array Slot), zW D [(cL, .int), (cR, .int)] (va_A [(h, .inr (1, [.ref ha, .int (zI lc), .ref hr1, .int (zI cnt), .int (zI dec)])), (ha, .inl (cL, 86, .inl (zA L))), (hr1, .inl (cR, 774, .inl (zA Rw)))] s.heap.size) s [(h, .inr (1, [.ref ha, .int (zI lc), .ref hr1, .int (zI cnt), .int (zI dec)])), (ha, .inl (cL, 86, .inl (zA L))), (hr1, .inl (cR, 774, .inl (zA Rw)))] H locs → lv_has ls 7 [(0, .ref h), (4, .long (lI wh)), (6, .int (zI po))] → W p l e ({ frames := 3, cells := 0, slots := 0, locals := 71 } : Room) s m ([.ref h, .long (lI bz)] : List Value).toArray below meth c H locs 0 0 (MQ below (zQv D [(cL, .int), (cR, .int)] [(h, .inr (1, [.ref ha, .int (zI lc), .ref hr1, .int (zI cnt), .int (zI dec)])), (ha, .inl (cL, 86, .inl (zA L))), (hr1, .inl (cR, 774, .inl (zA Rw)))] s.heap.size (fun (u : (Nat → Int) × Int × (Nat → Int) × Int × Int) => ∃ N : Nat, (∀ j : Nat, j < 774 → u.2.2.1 j = (dg N j : Int)) ∧ u.2.2.2.1 = (ln N : Int) ∧ (0 ≤ u.2.2.2.2 ∧ u.2.2.2.2 ≤ 1074) ∧ N * 10 ^ (1200 - u.2.2.2.2).toNat = xX bz ∧ N < 10 ^ 767) (fun (u : (Nat → Int) × Int × (Nat → Int) × Int × Int) => [(h, .inr (1, [.ref ha, .int (zI u.2.1), .ref hr1, .int (zI u.2.2.2.1), .int (zI u.2.2.2.2)])), (ha, .inl (cL, 86, .inl (zA u.1))), (hr1, .inl (cR, 774, .inl (zA u.2.2.1)))])) ([.ref h, .long (lI bz)] : List Value).toArray s 0 0 (va_A [(h, .inr (1, [.ref ha, .int (zI lc), .ref hr1, .int (zI cnt), .int (zI dec)])), (ha, .inl (cL, 86, .inl (zA L))), (hr1, .inl (cR, 774, .inl (zA Rw)))] s.heap.size)) (F0 m 37 ls []) := by
    intro n
    induction n with
    | zero => intro wh po hm; exact absurd hm (Nat.not_lt_zero _)
    | succ n ih =>
      intro wh po hm hwh hpo ev H locs ls w hl
      refine lv_iload S.1 S.2.1 dX1_take_37 (lv_at hl 2 rfl) ?_
      refine z_if_ge (tgt := 63) S dX1_take_39 (by decide) (by omega) (fun h39 => ?_) (fun h39 => ?_)
      · skip
        exact lab63 wh po (by omega) (by omega) (by omega) _ _ _ w (lv_sub hl [0, 1, 2] rfl)
      · skip
        refine lv_lload S.1 S.2.1 dX1_take_42 (lv_at hl 1 rfl) ?_
        refine z_lconst (z := 1) S dX1_take_44 (by decide +kernel) ?_
        refine z_land S dX1_take_45 (v := (wh % 2)) (lI_m1 wh) ?_
        refine z_lconst (z := 0) S dX1_take_46 (by decide +kernel) ?_
        refine z_lcmp S dX1_take_47 (by omega) (by omega) (fun c47 hc47 => ?_)
        refine z_if_ne (tgt := 63) S dX1_take_48 (by decide) (by omega) (fun h48 => ?_) (fun h48 => ?_)
        · skip
          exact lab63 wh po (by omega) (by omega) (by omega) _ _ _ w (lv_sub hl [0, 1, 2] rfl)
        · skip
          refine lv_lload S.1 S.2.1 dX1_take_51 (lv_at hl 1 rfl) ?_
          refine z_iconst S dX1_take_53 ?_
          refine z_lshr S dX1_take_54 (v := (wh / 2)) (lI_s1 (by omega)) ?_
          refine lv_lstore (lv' := [(4, .long (lI (wh / 2))), (0, .ref h), (6, .int (zI po))]) S.1 S.2.1 dX1_take_55 hl (by decide) rfl (fun ls hl => ?_)
          refine lv_iinc (v := zI (po + 1)) (lv' := [(6, .int (zI (po + 1))), (4, .long (lI (wh / 2))), (0, .ref h)]) S.1 S.2.1 dX1_take_57 hl (k := 2) rfl (zI_add po 1) (by decide) rfl (fun ls hl => ?_)
          refine lv_goto (tgt := 37) S.1 S.2.1 dX1_take_60 (by decide) ?_
          have k3_ : (wh / 2).toNat * 2 ^ ((po + 1) + 1200).toNat = (xM bz).toNat * 2 ^ (xP bz + 1200).toNat := by
            have k1 : (po + 1 + 1200).toNat = (po + 1200).toNat + 1 := by omega
            have k2 : wh.toNat = (wh / 2).toNat * 2 := by omega
            rw [← ev, k1, Nat.pow_succ, k2, Nat.mul_comm (2 ^ (po + 1200).toNat) 2, ← Nat.mul_assoc]
          exact ih (wh / 2) (po + 1) (by omega) (by omega) (by omega) k3_ _ _ _ w (lv_sub hl [2, 1, 0] rfl)
  have hl : lv_has ls 7 [(0, .ref h), (1, .long (lI bz))] := hl
  refine lv_lload_n S.1 S.2.1 dX1_take_0 rfl (lv_at hl 1 rfl) ?_
  refine z_calliSN (n := 1) (As := [.long (lI bz)]) (rest := []) (wr := [(h, .inr (1, [.ref ha, .int (zI lc), .ref hr1, .int (zI cnt), .int (zI dec)])), (ha, .inl (cL, 86, .inl (zA L))), (hr1, .inl (cR, 774, .inl (zA Rw)))]) (wn := (fun (u : Unit) => [(h, .inr (1, [.ref ha, .int (zI lc), .ref hr1, .int (zI cnt), .int (zI dec)])), (ha, .inl (cL, 86, .inl (zA L))), (hr1, .inl (cR, 774, .inl (zA Rw)))])) S w (c_X2_exponentField l D bz (by omega)) gX1_take_X2_exponentField_n28 st_X1_take_ef ini_X1_take_RX2 rfl rfl rfl ⟨rfl, rfl⟩ ⟨Nat.le_of_ble_eq_true rfl, Nat.le_of_ble_eq_true rfl⟩ [] [] [0, 1, 2] [0, 1, 2] rfl rfl rfl rfl rfl (by decide) (fun u => rfl) rfl rfl hl.1 (Nat.le_of_ble_eq_true rfl) ⟨Nat.le_of_ble_eq_true rfl, Nat.le_of_ble_eq_true rfl⟩ rfl dX1_take_1 (fun z1 _ H locs p1 w => ?_)
  have p1 : z1 = xE bz := p1
  have w : zW D _ _ s [(h, .inr (1, [.ref ha, .int (zI lc), .ref hr1, .int (zI cnt), .int (zI dec)])), (ha, .inl (cL, 86, .inl (zA L))), (hr1, .inl (cR, 774, .inl (zA Rw)))] H locs := w
  have hE : 0 ≤ xE bz ∧ xE bz < 2048 := by unfold xE; omega
  refine lv_istore_n (lv' := [(3, .int (zI z1)), (0, .ref h), (1, .long (lI bz))]) S.1 S.2.1 dX1_take_4 rfl hl (by decide) rfl (fun ls hl => ?_)
  refine lv_lload_n S.1 S.2.1 dX1_take_5 rfl (lv_at hl 2 rfl) ?_
  refine z_ldc2 (v := 4503599627370495) S 4503599627370495 kl_X1_take_32 (by decide +kernel) dX1_take_6 ?_
  refine z_land S dX1_take_9 (v := (bz % 4503599627370496)) (lI_m52 bz) ?_
  refine lv_lstore (lv' := [(4, .long (lI (bz % 4503599627370496))), (3, .int (zI z1)), (0, .ref h), (1, .long (lI bz))]) S.1 S.2.1 dX1_take_10 hl (by decide) rfl (fun ls hl => ?_)
  refine z_sipush S dX1_take_12 (by decide +kernel) ?_
  refine lv_istore (lv' := [(6, .int (zI (-1074))), (4, .long (lI (bz % 4503599627370496))), (3, .int (zI z1)), (0, .ref h), (1, .long (lI bz))]) S.1 S.2.1 dX1_take_15 hl (by decide) rfl (fun ls hl => ?_)
  refine lv_iload_n S.1 S.2.1 dX1_take_17 rfl (lv_at hl 2 rfl) ?_
  refine z_if_le (tgt := 37) S dX1_take_18 (by decide) (by omega) (fun h18 => ?_) (fun h18 => ?_)
  · skip
    exact lab37 _ (bz % 4503599627370496) (-1074) (Nat.lt_succ_self _) (by omega) (by omega) (by unfold xM xP; rw [if_pos (by omega), if_pos (by omega), Int.add_zero]) _ _ _ w (lv_sub hl [3, 1, 0] rfl)
  · skip
    refine lv_lload S.1 S.2.1 dX1_take_21 (lv_at hl 1 rfl) ?_
    refine z_ldc2 (v := 4503599627370496) S 4503599627370496 kl_X1_take_34 (by decide +kernel) dX1_take_23 ?_
    refine z_ladd S dX1_take_26 ?_
    refine lv_lstore (lv' := [(4, .long (lI ((bz % 4503599627370496) + 4503599627370496))), (6, .int (zI (-1074))), (3, .int (zI z1)), (0, .ref h), (1, .long (lI bz))]) S.1 S.2.1 dX1_take_27 hl (by decide) rfl (fun ls hl => ?_)
    refine lv_iload S.1 S.2.1 dX1_take_29 (lv_at hl 1 rfl) ?_
    refine lv_iload_n S.1 S.2.1 dX1_take_31 rfl (lv_at hl 2 rfl) ?_
    refine z_iconst S dX1_take_32 ?_
    refine z_isub S dX1_take_33 ?_
    refine z_iadd S dX1_take_34 ?_
    refine lv_istore (lv' := [(6, .int (zI ((-1074) + (z1 - 1)))), (4, .long (lI ((bz % 4503599627370496) + 4503599627370496))), (3, .int (zI z1)), (0, .ref h), (1, .long (lI bz))]) S.1 S.2.1 dX1_take_35 hl (by decide) rfl (fun ls hl => ?_)
    have k4_ : ((bz % 4503599627370496) + 4503599627370496).toNat * 2 ^ (((-1074) + (z1 - 1)) + 1200).toNat = (xM bz).toNat * 2 ^ (xP bz + 1200).toNat := by
      unfold xM xP
      rw [if_neg (by omega), if_neg (by omega), p1]
      have k : -1074 + (xE bz - 1) = xE bz - 1075 := by omega
      rw [k]
    exact lab37 _ ((bz % 4503599627370496) + 4503599627370496) ((-1074) + (z1 - 1)) (Nat.lt_succ_self _) (by omega) (by omega) k4_ _ _ _ w (lv_sub hl [3, 1, 0] rfl)

set_option maxRecDepth 20000 in
theorem ln_X1_roundTo_25 : Cond.fieldLink RX1 25 "DecimalText$Worth" "decimals" "I" ∈ wsX1_roundTo := by decide +kernel
theorem in_X1_roundTo_X1 : ∀ w ∈ u_ws RX1 TX1 5, w ∈ wsX1_roundTo := by decide +kernel
set_option maxHeartbeats 4000000 in
set_option maxRecDepth 100000 in
theorem c_X1_roundTo (l : Launch) (D : va_G) (cL cR : ClassId) (h : Nat) (ha : Nat) (hr1 : Nat) (L : Nat → Int) (lc : Int) (Rw : Nat → Int) (cnt : Int) (dec : Int) (po : Int) (N : Nat) (hpo : -2000 ≤ po ∧ po ≤ 1500) (hdec : 0 ≤ dec ∧ dec ≤ 1074) (hrep : ∀ j : Nat, j < 774 → Rw j = (dg N j : Int)) (hcn : cnt = (ln N : Int)) (hN : N < 10 ^ 767) : zMv (T := (Nat → Int) × Int) l yX1_roundTo wsX1_roundTo ({ frames := 3, cells := 0, slots := 0, locals := 65 } : Room) D [(cL, .int), (cR, .int)] [.ref h, .int (zI po)] [(h, .inr (1, [.ref ha, .int (zI lc), .ref hr1, .int (zI cnt), .int (zI dec)])), (ha, .inl (cL, 86, .inl (zA L))), (hr1, .inl (cR, 774, .inl (zA Rw)))] (fun (u : (Nat → Int) × Int) => (∀ j : Nat, (po + dec).toNat ≤ j → j < 774 → u.1 j = (dg (rX N (po + dec).toNat) j : Int)) ∧ (0 < rX N (po + dec).toNat → u.2 = (ln (rX N (po + dec).toNat) : Int)) ∧ (rX N (po + dec).toNat = 0 → u.2 ≤ ((po + dec).toNat : Int)) ∧ (0 ≤ u.2 ∧ u.2 ≤ 774) ∧ (∀ j : Nat, j < 774 → 0 ≤ u.1 j ∧ u.1 j ≤ 9) ∧ (N = 0 → u.2 = 0)) (fun (u : (Nat → Int) × Int) => [(h, .inr (1, [.ref ha, .int (zI lc), .ref hr1, .int (zI u.2), .int (zI dec)])), (ha, .inl (cL, 86, .inl (zA L))), (hr1, .inl (cR, 774, .inl (zA u.1)))]) 0 0 := by
  refine zMv.of (bytes := cX1_roundTo) (nL := 3) (own := RX1) (by decide) rfl rfl (Nat.le_of_ble_eq_true rfl) ?_
  intro p e s m below meth c ls S hr hlk hnm w hl
  have hl : lv_has ls 3 [(0, .ref h), (1, .int (zI po))] := hl
  have h9 : ∀ j : Nat, j < 774 → 0 ≤ Rw j ∧ Rw j ≤ 9 := fun j q => by rw [hrep j q]; have := dg_lt N j; omega
  have hcnt : 0 ≤ cnt ∧ cnt ≤ 767 := by rw [hcn]; have := ln_le_of hN; omega
  have hz : ∀ j : Nat, cnt ≤ (j : Int) → j < 774 → Rw j = 0 := fun j q1 q2 => by
    rw [hrep j q2, dg_big (Nat.lt_of_lt_of_le (ln_lt N) (Nat.pow_le_pow_right (by decide) (by omega)))]; rfl
  refine lv_iload_n S.1 S.2.1 dX1_roundTo_0 rfl (lv_at hl 1 rfl) ?_
  refine lv_aload_n S.1 S.2.1 dX1_roundTo_1 rfl (lv_at hl 0 rfl) ?_
  refine z_get (ci := 1) (C := RX1) (T := TX1) (N := 5) S w 0 rfl rfl in_X1_roundTo_X1 4 (by decide) ln_X1_roundTo_25 rfl rfl dX1_roundTo_2 ?_
  refine z_iadd S dX1_roundTo_5 ?_
  refine lv_istore_n (lv' := [(2, .int (zI (po + dec))), (0, .ref h), (1, .int (zI po))]) S.1 S.2.1 dX1_roundTo_6 rfl hl (by decide) rfl (fun ls hl => ?_)
  refine lv_iload_n S.1 S.2.1 dX1_roundTo_7 rfl (lv_at hl 0 rfl) ?_
  refine z_if_le (tgt := 24) S dX1_roundTo_8 (by decide) (by omega) (fun h8 => ?_) (fun h8 => ?_)
  · skip
    have k1_ : (∀ j : Nat, (po + dec).toNat ≤ j → j < 774 → Rw j = (dg (rX N (po + dec).toNat) j : Int)) ∧ (0 < rX N (po + dec).toNat → cnt = (ln (rX N (po + dec).toNat) : Int)) ∧ (rX N (po + dec).toNat = 0 → cnt ≤ ((po + dec).toNat : Int)) ∧ (0 ≤ cnt ∧ cnt ≤ 774) ∧ (∀ j : Nat, j < 774 → 0 ≤ Rw j ∧ Rw j ≤ 9) ∧ (N = 0 → cnt = 0) := by
      have k : (po + dec).toNat = 0 := by omega
      rw [k, rX_0]
      refine ⟨fun j _ q => hrep j q, fun _ => hcn, fun q => ?_, by omega, h9, fun q => by rw [hcn, q, ln_0]; rfl⟩
      rw [hcn, q, ln_0]; omega
    exact z_vret S hr hlk w (Rw, cnt) k1_ rfl dX1_roundTo_24
  · skip
    refine lv_aload_n S.1 S.2.1 dX1_roundTo_11 rfl (lv_at hl 1 rfl) ?_
    refine lv_iload_n S.1 S.2.1 dX1_roundTo_12 rfl (lv_at hl 0 rfl) ?_
    refine z_calliV (C := RX1) (n := 1) (As := [.int (zI (po + dec))]) (rest := []) (wr := []) (wn := (fun (u : Unit) => [(h, .inr (1, [.ref ha, .int (zI lc), .ref hr1, .int (zI cnt), .int (zI dec)])), (ha, .inl (cL, 86, .inl (zA L))), (hr1, .inl (cR, 774, .inl (zA Rw)))])) S w (c_X1_isNearerAbove l D cL cR h ha hr1 L lc Rw cnt dec (po + dec) (by omega) (by omega) h9 hz) gX1_roundTo_X1_isNearerAbove (by decide +kernel) rfl ⟨rfl, rfl⟩ ⟨Nat.le_of_ble_eq_true rfl, Nat.le_of_ble_eq_true rfl⟩ [0, 1] [0, 1, 2] [] [0, 1, 2] rfl rfl rfl rfl rfl (by decide) (fun u => rfl) rfl rfl rfl rfl rfl hl.1 (Nat.le_of_ble_eq_true rfl) ⟨Nat.le_of_ble_eq_true rfl, Nat.le_of_ble_eq_true rfl⟩ rfl dX1_roundTo_13 (fun z13 _ H locs p13 w => ?_)
    have p13 : (z13 = 1 ∧ (5 < dI Rw ((po + dec) - 1) ∨ (dI Rw ((po + dec) - 1) = 5 ∧ ((∃ j : Nat, (j : Int) < (po + dec) - 1 ∧ Rw j ≠ 0) ∨ dI Rw (po + dec) % 2 = 1)))) ∨ (z13 = 0 ∧ ¬ (5 < dI Rw ((po + dec) - 1) ∨ (dI Rw ((po + dec) - 1) = 5 ∧ ((∃ j : Nat, (j : Int) < (po + dec) - 1 ∧ Rw j ≠ 0) ∨ dI Rw (po + dec) % 2 = 1)))) := p13
    have w : zW D _ _ s [(h, .inr (1, [.ref ha, .int (zI lc), .ref hr1, .int (zI cnt), .int (zI dec)])), (ha, .inl (cL, 86, .inl (zA L))), (hr1, .inl (cR, 774, .inl (zA Rw)))] H locs := w
    refine z_if_eq (tgt := 24) S dX1_roundTo_16 (by decide) (by omega) (fun h16 => ?_) (fun h16 => ?_)
    · skip
      have k2_ : (∀ j : Nat, (po + dec).toNat ≤ j → j < 774 → Rw j = (dg (rX N (po + dec).toNat) j : Int)) ∧ (0 < rX N (po + dec).toNat → cnt = (ln (rX N (po + dec).toNat) : Int)) ∧ (rX N (po + dec).toNat = 0 → cnt ≤ ((po + dec).toNat : Int)) ∧ (0 ≤ cnt ∧ cnt ≤ 774) ∧ (∀ j : Nat, j < 774 → 0 ≤ Rw j ∧ Rw j ≤ 9) ∧ (N = 0 → cnt = 0) := by
        obtain ⟨a1, a2, a3⟩ := rnd_down (N := N) (c := (po + dec).toNat) (by
          rcases p13 with ⟨q1, q2⟩ | ⟨q1, q2⟩
          · omega
          · exact rq_no (by omega) hrep hN q2)
        exact ⟨fun j q1 q2 => by rw [hrep j q2, a1 j q1], fun q => by rw [hcn, a2 q], fun q => by rw [hcn]; have := a3 q; omega, by omega, h9, fun q => by rw [hcn, q, ln_0]; rfl⟩
      exact z_vret S hr hlk w (Rw, cnt) k2_ rfl dX1_roundTo_24
    · skip
      refine lv_aload_n S.1 S.2.1 dX1_roundTo_19 rfl (lv_at hl 1 rfl) ?_
      refine lv_iload_n S.1 S.2.1 dX1_roundTo_20 rfl (lv_at hl 0 rfl) ?_
      refine z_callvV (C := RX1) (n := 1) (As := [.int (zI (po + dec))]) (rest := []) (wr := []) (wn := (fun (u : (Nat → Int) × Int) => [(h, .inr (1, [.ref ha, .int (zI lc), .ref hr1, .int (zI u.2), .int (zI dec)])), (ha, .inl (cL, 86, .inl (zA L))), (hr1, .inl (cR, 774, .inl (zA u.1)))])) S w (c_X1_addOneAt l D cL cR h ha hr1 L lc Rw cnt dec (po + dec) (by omega) (by omega) h9) gX1_roundTo_X1_addOneAt (by decide +kernel) rfl ⟨rfl, rfl⟩ ⟨Nat.le_of_ble_eq_true rfl, Nat.le_of_ble_eq_true rfl⟩ [0, 1] [0, 1, 2] [] [0, 1, 2] rfl rfl rfl rfl rfl (by decide) (fun u => rfl) rfl rfl rfl rfl rfl hl.1 (Nat.le_of_ble_eq_true rfl) ⟨Nat.le_of_ble_eq_true rfl, Nat.le_of_ble_eq_true rfl⟩ rfl dX1_roundTo_21 (fun u H locs p21 w => ?_)
      obtain ⟨R2, cn2⟩ := u
      have p21 : ∃ k : Int, ((po + dec) ≤ k) ∧ (∀ j : Nat, (po + dec) ≤ (j : Int) → (j : Int) < k → j < 774 → Rw j = 9 ∧ R2 j = 0) ∧ (∀ j : Nat, (j : Int) < (po + dec) → R2 j = Rw j) ∧ (∀ j : Nat, k < (j : Int) → R2 j = Rw j) ∧ (k < 774 → Rw k.toNat ≠ 9 ∧ R2 k.toNat = Rw k.toNat + 1 ∧ ((cnt < k + 1 ∧ cn2 = k + 1) ∨ (k + 1 ≤ cnt ∧ cn2 = cnt))) ∧ (774 ≤ k → cn2 = cnt ∧ ((po + dec) ≤ 774 → k = 774)) := p21
      have w : zW D _ _ s [(h, .inr (1, [.ref ha, .int (zI lc), .ref hr1, .int (zI cn2), .int (zI dec)])), (ha, .inl (cL, 86, .inl (zA L))), (hr1, .inl (cR, 774, .inl (zA R2)))] H locs := w
      have k3_ : (∀ j : Nat, (po + dec).toNat ≤ j → j < 774 → R2 j = (dg (rX N (po + dec).toNat) j : Int)) ∧ (0 < rX N (po + dec).toNat → cn2 = (ln (rX N (po + dec).toNat) : Int)) ∧ (rX N (po + dec).toNat = 0 → cn2 ≤ ((po + dec).toNat : Int)) ∧ (0 ≤ cn2 ∧ cn2 ≤ 774) ∧ (∀ j : Nat, j < 774 → 0 ≤ R2 j ∧ R2 j ≤ 9) ∧ (N = 0 → cn2 = 0) := by
        rcases p13 with ⟨q1, q2⟩ | ⟨q1, q2⟩
        · exact rnd_row h9 hrep hN hcn (by omega) (rq_yes (by omega) hrep hN q2).1 (rq_yes (by omega) hrep hN q2).2 p21
        · omega
      exact z_vret S hr hlk w (R2, cn2) k3_ rfl dX1_roundTo_24
end
section
/-! the class's row and the number times 10 ^ 1200 -/
theorem rq_le (a b : Nat) : a / b ≤ rq a b ∧ rq a b ≤ a / b + 1 := by
  unfold rq
  by_cases h : b < 2 * (a % b) ∨ (2 * (a % b) = b ∧ a / b % 2 = 1)
  · rw [if_pos h]; exact ⟨Nat.le_succ _, Nat.le_refl _⟩
  · rw [if_neg h]; exact ⟨Nat.le_refl _, Nat.le_succ _⟩
theorem rX_le (n c : Nat) : rX n c ≤ n + 10 ^ c := by
  unfold rX
  have h1 := (rq_le n (10 ^ c)).2
  have h2 : rq n (10 ^ c) * 10 ^ c ≤ (n / 10 ^ c + 1) * 10 ^ c := Nat.mul_le_mul_right _ h1
  have h3 := Nat.div_mul_le_self n (10 ^ c)
  rw [Nat.add_mul, Nat.one_mul] at h2
  omega
theorem rX_z (c : Nat) : rX 0 c = 0 := by
  unfold rX rq
  rw [Nat.zero_mod, Nat.zero_div, if_neg (by have := p10_pos c; omega), Nat.zero_mul]
theorem rX_ge {n c : Nat} (hn : 0 < n) (hc : c + 1 ≤ ln n) : ln n ≤ ln (rX n c) := by
  have h1 := ln_le hn
  have h2 : 10 ^ (ln n - 1 - c) ≤ n / 10 ^ c := by
    apply (Nat.le_div_iff_mul_le (p10_pos c)).mpr
    rw [← Nat.pow_add]
    have e : ln n - 1 - c + c = ln n - 1 := by omega
    rw [e]; exact h1
  have h3 := (rq_le n (10 ^ c)).1
  have h4 : 10 ^ (ln n - 1) ≤ rX n c := by
    unfold rX
    have e : 10 ^ (ln n - 1) = 10 ^ (ln n - 1 - c) * 10 ^ c := by rw [← Nat.pow_add]; congr 1; omega
    rw [e]; exact Nat.mul_le_mul_right _ (Nat.le_trans h2 h3)
  have := ln_gt_of h4
  omega
theorem rX_scale {N X a c' : Nat} {ci : Int} (hX : N * 10 ^ a = X) (hc : (c' : Int) = ci + (a : Int)) : rX X c' = rX N ci.toNat * 10 ^ a := by
  rw [← hX]
  by_cases h : 0 ≤ ci
  · have e : c' = ci.toNat + a := by omega
    rw [e, rX_mul]
  · have e1 : ci.toNat = 0 := by omega
    obtain ⟨b, rfl⟩ : ∃ b, a = b + c' := ⟨a - c', by omega⟩
    rw [e1, rX_0, Nat.pow_add, ← Nat.mul_assoc]
    have := rX_mul (N * 10 ^ b) 0 c'
    rw [Nat.zero_add, rX_0] at this
    exact this
theorem row_gX {r : Nat → Int} {dec q : Int} {M Y c : Nat} (hY : Y = M * 10 ^ (1200 - dec).toNat) (hdec : 0 ≤ dec ∧ dec ≤ 1074) (hrow : ∀ j : Nat, c ≤ j → j < 774 → r j = (dg M j : Int)) (hM : M < 10 ^ 774) (hq : (c : Int) ≤ q + dec ∨ q + dec < 0) : dI r (q + dec) = gX Y q := by
  unfold dI gX
  rw [hY]
  by_cases k : q + dec < 0
  · rw [if_neg (by omega), dg_mul_lt _ (by omega)]; rfl
  · have e : (q + 1200).toNat = (1200 - dec).toNat + (q + dec).toNat := by omega
    rw [e, dg_mul]
    by_cases k2 : q + dec < 774
    · rw [if_pos (by omega), hrow _ (by omega) (by omega)]
    · rw [if_neg (by omega), dg_big (Nat.lt_of_lt_of_le hM (Nat.pow_le_pow_right (by decide) (by omega)))]; rfl
theorem hi_gX {dec cn : Int} {M Y : Nat} (hY : Y = M * 10 ^ (1200 - dec).toNat) (hdec : 0 ≤ dec ∧ dec ≤ 1074) (hM : 0 < M) (hc : cn = (ln M : Int)) : (if cn = 0 then 0 else cn - 1 - dec) = hiX Y := by
  unfold hiX
  have h1 : 0 < Y := by rw [hY]; exact Nat.mul_pos hM (p10_pos _)
  have h2 : 0 < ln M := by rw [ln_pos hM]; omega
  rw [if_neg (by omega), if_neg (by omega), hY, ln_mul hM]
  omega
theorem ln_bnd {Y : Nat} (h : Y < 10 ^ 1509) : hiX Y ≤ 308 := by
  unfold hiX
  by_cases k : Y = 0
  · rw [if_pos k]; omega
  · rw [if_neg k]
    have := ln_le_of h
    omega
theorem pl_bnd {X c : Nat} (hX : X ≤ 2 * 10 ^ 1508) (hc : c ≤ 1200) : rX X c < 10 ^ 1509 := by
  have h1 := rX_le X c
  have h2 : 10 ^ c ≤ 10 ^ 1200 := Nat.pow_le_pow_right (by decide) hc
  have h3 : 2 * 10 ^ 1508 + 10 ^ 1200 < 10 ^ 1509 := by decide +kernel
  omega
theorem xX_bnd {z : Int} (h : xE z ≠ 2047) : xX z ≤ 2 * 10 ^ 1508 := by
  have hE : 0 ≤ xE z ∧ xE z < 2048 := by unfold xE; omega
  unfold xX
  have h1 : (xM z).toNat ≤ 2 ^ 53 := by
    unfold xM
    by_cases k : xE z = 0
    · rw [if_pos k]; omega
    · rw [if_neg k]; omega
  have h2 : (xP z + 1200).toNat ≤ 2171 := by
    unfold xP
    by_cases k : xE z = 0
    · rw [if_pos k]; omega
    · rw [if_neg k]; omega
  have h3 : 2 ^ (xP z + 1200).toNat ≤ 2 ^ 2171 := Nat.pow_le_pow_right (by decide) h2
  have h4 : (xM z).toNat * 2 ^ (xP z + 1200).toNat ≤ 2 ^ 53 * 2 ^ 2171 := Nat.mul_le_mul h1 h3
  have h5 : (xM z).toNat * 2 ^ (xP z + 1200).toNat * 5 ^ 1200 ≤ 2 ^ 53 * 2 ^ 2171 * 5 ^ 1200 := Nat.mul_le_mul_right _ h4
  have h6 : 2 ^ 53 * 2 ^ 2171 * 5 ^ 1200 ≤ 2 * 10 ^ 1508 := by decide +kernel
  omega
/-- how many digits from the first to the last that is not 0 -/
def sgX (X : Nat) (z : Int) : Prop := (X = 0 ∧ z = 0) ∨ (0 < X ∧ ∃ t : Nat, z = (ln X : Int) - (t : Int) ∧ (∀ j, j < t → dg X j = 0) ∧ dg X t ≠ 0)
theorem sgX_uniq {X : Nat} {z z' : Int} (h : sgX X z) (h' : sgX X z') : z = z' := by
  rcases h with ⟨a, b⟩ | ⟨a, t, b1, b2, b3⟩
  · rcases h' with ⟨c, d⟩ | ⟨c, _⟩
    · omega
    · omega
  · rcases h' with ⟨c, d⟩ | ⟨c, u, d1, d2, d3⟩
    · omega
    · have : t = u := by
        rcases Nat.lt_trichotomy t u with k | k | k
        · exact absurd (d2 t k) b3
        · exact k
        · exact absurd (b2 u k) d3
      omega
theorem sg_row {r : Nat → Int} {N X a : Nat} {cnt k : Int} (hX : N * 10 ^ a = X) (hrep : ∀ j : Nat, j < 774 → r j = (dg N j : Int)) (hcn : cnt = (ln N : Int)) (hN : N < 10 ^ 767) (hk : 0 ≤ k ∧ k ≤ cnt) (h0 : ∀ j : Nat, (j : Int) < k → r j = 0) (h1 : k < cnt → r k.toNat ≠ 0) : sgX X (cnt - k) := by
  have hl := ln_le_of hN
  rcases Nat.eq_zero_or_pos N with z | hp
  · left
    rw [z, Nat.zero_mul] at hX
    rw [z, ln_0] at hcn
    exact ⟨hX.symm, by omega⟩
  · right
    have hlt : k < cnt := by
      apply Int.not_le.mp
      intro q
      have hl1 : 0 < ln N := by rw [ln_pos hp]; omega
      have := h0 (ln N - 1) (by omega)
      rw [hrep _ (by omega)] at this
      exact ln_top hp (by omega)
    refine ⟨by rw [← hX]; exact Nat.mul_pos hp (p10_pos a), a + k.toNat, ?_, ?_, ?_⟩
    · rw [← hX, ln_mul hp]; omega
    · intro j hj
      rw [← hX]
      by_cases q : j < a
      · exact dg_mul_lt _ q
      · obtain ⟨t, rfl⟩ : ∃ t, j = a + t := ⟨j - a, by omega⟩
        rw [dg_mul]
        have := h0 t (by omega)
        rw [hrep t (by omega)] at this
        omega
    · rw [← hX, dg_mul]
      have := h1 hlt
      rw [hrep _ (by omega)] at this
      omega
end
section
/-- a row of the class's codes: what it holds, and that its codes are such -/
def lRep (C : Nat → Int) (len : Int) (T : List Int) : Prop := tRep C len T ∧ ∀ j : Nat, (j : Int) < len → 0 ≤ C j ∧ C j ≤ 65535
theorem lRep_put' {C C' : Nat → Int} {len len' : Int} {T : List Int} {x : Int} (h : lRep C len T) (hx : 0 ≤ x ∧ x ≤ 65535) (hp : C' = zu C len.toNat x ∧ len' = len + 1) : lRep C' len' (T ++ [x]) := by
  have h0 := h.1.1
  refine ⟨tRep_put' h.1 hp, fun j hj => ?_⟩
  rw [hp.1]
  by_cases k : j = len.toNat
  · rw [k, zu_s]; exact hx
  · rw [zu_n _ _ k]; exact h.2 j (by omega)
theorem lRep_nil (C : Nat → Int) : lRep C 0 [] := ⟨tRep_nil C, fun j hj => by omega⟩

set_option maxHeartbeats 4000000 in
set_option maxRecDepth 100000 in
theorem c_X2_isWithin (l : Launch) (D : va_G) (a : Int) (b : Int) (ha : -2147483648 ≤ a ∧ a ≤ 2147483647) (hb : -2147483648 ≤ b ∧ b ≤ 2147483647) : zMi (T := Unit) l yX2_isWithin wsX2_isWithin ({ frames := 0, cells := 0, slots := 0, locals := 0 } : Room) D [] [.int (zI a), .int (zI b)] [] (fun (z : Int) (u : Unit) => (z = 1 ∧ 0 ≤ a ∧ a ≤ b) ∨ (z = 0 ∧ ¬ (0 ≤ a ∧ a ≤ b))) (fun (u : Unit) => []) 0 0 := by
  refine zMi.of (bytes := cX2_isWithin) (nL := 2) (own := RX2) (by decide) rfl rfl (Nat.le_of_ble_eq_true rfl) ?_
  intro p e s m below meth c ls S hr hlk hnm w hl
  have hl : lv_has ls 2 [(0, .int (zI a)), (1, .int (zI b))] := hl
  refine lv_iload_n S.1 S.2.1 dX2_isWithin_0 rfl (lv_at hl 0 rfl) ?_
  refine z_if_lt (tgt := 13) S dX2_isWithin_1 (by decide) (by omega) (fun h1 => ?_) (fun h1 => ?_)
  · skip
    refine z_iconst S dX2_isWithin_13 ?_
    exact z_iret S hr hlk w zNar_b0 () (by omega) rfl dX2_isWithin_14
  · skip
    refine lv_iload_n S.1 S.2.1 dX2_isWithin_4 rfl (lv_at hl 0 rfl) ?_
    refine lv_iload_n S.1 S.2.1 dX2_isWithin_5 rfl (lv_at hl 1 rfl) ?_
    refine z_icmp_gt (tgt := 13) S dX2_isWithin_6 (by decide) (by omega) (by omega) (fun h6 => ?_) (fun h6 => ?_)
    · skip
      refine z_iconst S dX2_isWithin_13 ?_
      exact z_iret S hr hlk w zNar_b0 () (by omega) rfl dX2_isWithin_14
    · skip
      refine z_iconst S dX2_isWithin_9 ?_
      refine lv_goto (tgt := 14) S.1 S.2.1 dX2_isWithin_10 (by decide) ?_
      exact z_iret S hr hlk w zNar_b1 () (by omega) rfl dX2_isWithin_14

set_option maxHeartbeats 4000000 in
set_option maxRecDepth 100000 in
theorem c_X2_isForm (l : Launch) (D : va_G) (how : Int) (p1 : Int) (wd : Int) (fl : Int) (h1 : -2147483648 ≤ how ∧ how ≤ 2147483647) (h2 : -2147483648 ≤ p1 ∧ p1 ≤ 2147483647) (h3 : -2147483648 ≤ wd ∧ wd ≤ 2147483647) (h4 : -2147483648 ≤ fl ∧ fl ≤ 2147483647) : zMi (T := Unit) l yX2_isForm wsX2_isForm ({ frames := 1, cells := 0, slots := 0, locals := 21 } : Room) D [] [.int (zI how), .int (zI p1), .int (zI wd), .int (zI fl)] [] (fun (z : Int) (u : Unit) => (z = 1 ∧ (0 ≤ how ∧ how ≤ 2) ∧ (0 ≤ p1 ∧ p1 ≤ 15) ∧ (0 ≤ wd ∧ wd ≤ 400) ∧ (0 ≤ fl ∧ fl ≤ 31)) ∨ (z = 0 ∧ ¬ ((0 ≤ how ∧ how ≤ 2) ∧ (0 ≤ p1 ∧ p1 ≤ 15) ∧ (0 ≤ wd ∧ wd ≤ 400) ∧ (0 ≤ fl ∧ fl ≤ 31)))) (fun (u : Unit) => []) 0 0 := by
  refine zMi.of (bytes := cX2_isForm) (nL := 4) (own := RX2) (by decide) rfl rfl (Nat.le_of_ble_eq_true rfl) ?_
  intro p e s m below meth c ls S hr hlk hnm w hl
  have hl : lv_has ls 4 [(0, .int (zI how)), (1, .int (zI p1)), (2, .int (zI wd)), (3, .int (zI fl))] := hl
  refine lv_iload_n S.1 S.2.1 dX2_isForm_0 rfl (lv_at hl 0 rfl) ?_
  refine z_iconst S dX2_isForm_1 ?_
  refine z_calliS (n := 2) (As := [.int (zI how), .int (zI 2)]) (rest := []) (wr := []) (wn := (fun (u : Unit) => [])) S w (c_X2_isWithin l D how 2 (by omega) (by omega)) gX2_isForm_X2_isWithin (by decide +kernel) rfl ⟨rfl, rfl⟩ ⟨Nat.le_of_ble_eq_true rfl, Nat.le_of_ble_eq_true rfl⟩ [] [] [] [] rfl rfl rfl rfl rfl (by decide) (fun u => rfl) rfl rfl hl.1 (Nat.le_of_ble_eq_true rfl) ⟨Nat.le_of_ble_eq_true rfl, Nat.le_of_ble_eq_true rfl⟩ rfl dX2_isForm_2 (fun z2 _ H locs p2 w => ?_)
  have p2 : (z2 = 1 ∧ 0 ≤ how ∧ how ≤ (2 : Int)) ∨ (z2 = 0 ∧ ¬ (0 ≤ how ∧ how ≤ (2 : Int))) := p2
  have w : zW D _ _ s [] H locs := w
  refine z_if_eq (tgt := 40) S dX2_isForm_5 (by decide) (by omega) (fun h5 => ?_) (fun h5 => ?_)
  · skip
    refine z_iconst S dX2_isForm_40 ?_
    exact z_iret S hr hlk w zNar_b0 () (by omega) rfl dX2_isForm_41
  · skip
    refine lv_iload_n S.1 S.2.1 dX2_isForm_8 rfl (lv_at hl 1 rfl) ?_
    refine z_bipush S dX2_isForm_9 (by decide +kernel) ?_
    refine z_calliS (n := 2) (As := [.int (zI p1), .int (zI 15)]) (rest := []) (wr := []) (wn := (fun (u : Unit) => [])) S w (c_X2_isWithin l D p1 15 (by omega) (by omega)) gX2_isForm_X2_isWithin (by decide +kernel) rfl ⟨rfl, rfl⟩ ⟨Nat.le_of_ble_eq_true rfl, Nat.le_of_ble_eq_true rfl⟩ [] [] [] [] rfl rfl rfl rfl rfl (by decide) (fun u => rfl) rfl rfl hl.1 (Nat.le_of_ble_eq_true rfl) ⟨Nat.le_of_ble_eq_true rfl, Nat.le_of_ble_eq_true rfl⟩ rfl dX2_isForm_11 (fun z11 _ H locs p11 w => ?_)
    have p11 : (z11 = 1 ∧ 0 ≤ p1 ∧ p1 ≤ (15 : Int)) ∨ (z11 = 0 ∧ ¬ (0 ≤ p1 ∧ p1 ≤ (15 : Int))) := p11
    have w : zW D _ _ s [] H locs := w
    refine z_if_eq (tgt := 40) S dX2_isForm_14 (by decide) (by omega) (fun h14 => ?_) (fun h14 => ?_)
    · skip
      refine z_iconst S dX2_isForm_40 ?_
      exact z_iret S hr hlk w zNar_b0 () (by omega) rfl dX2_isForm_41
    · skip
      refine lv_iload_n S.1 S.2.1 dX2_isForm_17 rfl (lv_at hl 2 rfl) ?_
      refine z_sipush S dX2_isForm_18 (by decide +kernel) ?_
      refine z_calliS (n := 2) (As := [.int (zI wd), .int (zI 400)]) (rest := []) (wr := []) (wn := (fun (u : Unit) => [])) S w (c_X2_isWithin l D wd 400 (by omega) (by omega)) gX2_isForm_X2_isWithin (by decide +kernel) rfl ⟨rfl, rfl⟩ ⟨Nat.le_of_ble_eq_true rfl, Nat.le_of_ble_eq_true rfl⟩ [] [] [] [] rfl rfl rfl rfl rfl (by decide) (fun u => rfl) rfl rfl hl.1 (Nat.le_of_ble_eq_true rfl) ⟨Nat.le_of_ble_eq_true rfl, Nat.le_of_ble_eq_true rfl⟩ rfl dX2_isForm_21 (fun z21 _ H locs p21 w => ?_)
      have p21 : (z21 = 1 ∧ 0 ≤ wd ∧ wd ≤ (400 : Int)) ∨ (z21 = 0 ∧ ¬ (0 ≤ wd ∧ wd ≤ (400 : Int))) := p21
      have w : zW D _ _ s [] H locs := w
      refine z_if_eq (tgt := 40) S dX2_isForm_24 (by decide) (by omega) (fun h24 => ?_) (fun h24 => ?_)
      · skip
        refine z_iconst S dX2_isForm_40 ?_
        exact z_iret S hr hlk w zNar_b0 () (by omega) rfl dX2_isForm_41
      · skip
        refine lv_iload_n S.1 S.2.1 dX2_isForm_27 rfl (lv_at hl 3 rfl) ?_
        refine z_bipush S dX2_isForm_28 (by decide +kernel) ?_
        refine z_calliS (n := 2) (As := [.int (zI fl), .int (zI 31)]) (rest := []) (wr := []) (wn := (fun (u : Unit) => [])) S w (c_X2_isWithin l D fl 31 (by omega) (by omega)) gX2_isForm_X2_isWithin (by decide +kernel) rfl ⟨rfl, rfl⟩ ⟨Nat.le_of_ble_eq_true rfl, Nat.le_of_ble_eq_true rfl⟩ [] [] [] [] rfl rfl rfl rfl rfl (by decide) (fun u => rfl) rfl rfl hl.1 (Nat.le_of_ble_eq_true rfl) ⟨Nat.le_of_ble_eq_true rfl, Nat.le_of_ble_eq_true rfl⟩ rfl dX2_isForm_30 (fun z30 _ H locs p30 w => ?_)
        have p30 : (z30 = 1 ∧ 0 ≤ fl ∧ fl ≤ (31 : Int)) ∨ (z30 = 0 ∧ ¬ (0 ≤ fl ∧ fl ≤ (31 : Int))) := p30
        have w : zW D _ _ s [] H locs := w
        refine z_if_eq (tgt := 40) S dX2_isForm_33 (by decide) (by omega) (fun h33 => ?_) (fun h33 => ?_)
        · skip
          refine z_iconst S dX2_isForm_40 ?_
          exact z_iret S hr hlk w zNar_b0 () (by omega) rfl dX2_isForm_41
        · skip
          refine z_iconst S dX2_isForm_36 ?_
          refine lv_goto (tgt := 41) S.1 S.2.1 dX2_isForm_37 (by decide) ?_
          exact z_iret S hr hlk w zNar_b1 () (by omega) rfl dX2_isForm_41

set_option maxHeartbeats 4000000 in
set_option maxRecDepth 100000 in
theorem c_X2_has (l : Launch) (D : va_G) (fl : Int) (k : Int) (hfl : 0 ≤ fl ∧ fl ≤ 31) (hk : k ∈ ([1, 2, 4, 8, 16] : List Int)) : zMi (T := Unit) l yX2_has wsX2_has ({ frames := 0, cells := 0, slots := 0, locals := 0 } : Room) D [] [.int (zI fl), .int (zI k)] [] (fun (z : Int) (u : Unit) => (z = 1 ∧ fl / k % 2 = 1) ∨ (z = 0 ∧ fl / k % 2 ≠ 1)) (fun (u : Unit) => []) 0 0 := by
  refine zMi.of (bytes := cX2_has) (nL := 2) (own := RX2) (by decide) rfl rfl (Nat.le_of_ble_eq_true rfl) ?_
  intro p e s m below meth c ls S hr hlk hnm w hl
  have hl : lv_has ls 2 [(0, .int (zI fl)), (1, .int (zI k))] := hl
  refine lv_iload_n S.1 S.2.1 dX2_has_0 rfl (lv_at hl 0 rfl) ?_
  refine lv_iload_n S.1 S.2.1 dX2_has_1 rfl (lv_at hl 1 rfl) ?_
  refine z_iand S dX2_has_2 (v := (k * (fl / k % 2))) (zI_flag hfl hk) ?_
  have kb : (fl / k % 2 = 0 ∨ fl / k % 2 = 1) := by omega
  have kp : 1 ≤ k ∧ k ≤ 16 := by
    simp only [List.mem_cons, List.mem_nil_iff, or_false] at hk
    omega
  have kv : (fl / k % 2 = 0 ∧ k * (fl / k % 2) = 0) ∨ (fl / k % 2 = 1 ∧ k * (fl / k % 2) = k) := by
    rcases kb with q | q
    · exact Or.inl ⟨q, by rw [q, Int.mul_zero]⟩
    · exact Or.inr ⟨q, by rw [q, Int.mul_one]⟩
  refine z_if_eq (tgt := 10) S dX2_has_3 (by decide) (by omega) (fun h3 => ?_) (fun h3 => ?_)
  · skip
    refine z_iconst S dX2_has_10 ?_
    exact z_iret S hr hlk w zNar_b0 () (by omega) rfl dX2_has_11
  · skip
    refine z_iconst S dX2_has_6 ?_
    refine lv_goto (tgt := 11) S.1 S.2.1 dX2_has_7 (by decide) ?_
    exact z_iret S hr hlk w zNar_b1 () (by omega) rfl dX2_has_11

set_option maxHeartbeats 4000000 in
set_option maxRecDepth 100000 in
theorem c_X2_isFinite (l : Launch) (D : va_G) (bz : Int) (hbz : -9223372036854775808 ≤ bz ∧ bz ≤ 9223372036854775807) : zMi (T := Unit) l yX2_isFinite wsX2_isFinite ({ frames := 1, cells := 0, slots := 0, locals := 21 } : Room) D [] [.long (lI bz)] [] (fun (z : Int) (u : Unit) => (z = 1 ∧ xE bz ≠ 2047) ∨ (z = 0 ∧ xE bz = 2047)) (fun (u : Unit) => []) 0 0 := by
  refine zMi.of (bytes := cX2_isFinite) (nL := 2) (own := RX2) (by decide) rfl rfl (Nat.le_of_ble_eq_true rfl) ?_
  intro p e s m below meth c ls S hr hlk hnm w hl
  have hl : lv_has ls 2 [(0, .long (lI bz))] := hl
  refine lv_lload_n S.1 S.2.1 dX2_isFinite_0 rfl (lv_at hl 0 rfl) ?_
  refine z_calliS (n := 1) (As := [.long (lI bz)]) (rest := []) (wr := []) (wn := (fun (u : Unit) => [])) S w (c_X2_exponentField l D bz (by omega)) gX2_isFinite_X2_exponentField (by decide +kernel) rfl ⟨rfl, rfl⟩ ⟨Nat.le_of_ble_eq_true rfl, Nat.le_of_ble_eq_true rfl⟩ [] [] [] [] rfl rfl rfl rfl rfl (by decide) (fun u => rfl) rfl rfl hl.1 (Nat.le_of_ble_eq_true rfl) ⟨Nat.le_of_ble_eq_true rfl, Nat.le_of_ble_eq_true rfl⟩ rfl dX2_isFinite_1 (fun z1 _ H locs p1 w => ?_)
  have p1 : z1 = xE bz := p1
  have w : zW D _ _ s [] H locs := w
  have hE : 0 ≤ xE bz ∧ xE bz < 2048 := by unfold xE; omega
  refine z_sipush S dX2_isFinite_4 (by decide +kernel) ?_
  refine z_icmp_eq (tgt := 14) S dX2_isFinite_7 (by decide) (by omega) (by omega) (fun h7 => ?_) (fun h7 => ?_)
  · skip
    refine z_iconst S dX2_isFinite_14 ?_
    exact z_iret S hr hlk w zNar_b0 () (by omega) rfl dX2_isFinite_15
  · skip
    refine z_iconst S dX2_isFinite_10 ?_
    refine lv_goto (tgt := 15) S.1 S.2.1 dX2_isFinite_11 (by decide) ?_
    exact z_iret S hr hlk w zNar_b1 () (by omega) rfl dX2_isFinite_15

set_option maxRecDepth 20000 in
theorem kl_X2_isNoNumber_78 : Cond.constantLong RX2 78 (4503599627370495) ∈ wsX2_isNoNumber := by decide +kernel
set_option maxHeartbeats 4000000 in
set_option maxRecDepth 100000 in
theorem c_X2_isNoNumber (l : Launch) (D : va_G) (bz : Int) (hbz : -9223372036854775808 ≤ bz ∧ bz ≤ 9223372036854775807) : zMi (T := Unit) l yX2_isNoNumber wsX2_isNoNumber ({ frames := 2, cells := 0, slots := 0, locals := 42 } : Room) D [] [.long (lI bz)] [] (fun (z : Int) (u : Unit) => (z = 1 ∧ (xE bz = 2047 ∧ bz % 4503599627370496 ≠ 0)) ∨ (z = 0 ∧ ¬ (xE bz = 2047 ∧ bz % 4503599627370496 ≠ 0))) (fun (u : Unit) => []) 0 0 := by
  refine zMi.of (bytes := cX2_isNoNumber) (nL := 2) (own := RX2) (by decide) rfl rfl (Nat.le_of_ble_eq_true rfl) ?_
  intro p e s m below meth c ls S hr hlk hnm w hl
  have hl : lv_has ls 2 [(0, .long (lI bz))] := hl
  refine lv_lload_n S.1 S.2.1 dX2_isNoNumber_0 rfl (lv_at hl 0 rfl) ?_
  refine z_calliS (n := 1) (As := [.long (lI bz)]) (rest := []) (wr := []) (wn := (fun (u : Unit) => [])) S w (c_X2_isFinite l D bz (by omega)) gX2_isNoNumber_X2_isFinite (by decide +kernel) rfl ⟨rfl, rfl⟩ ⟨Nat.le_of_ble_eq_true rfl, Nat.le_of_ble_eq_true rfl⟩ [] [] [] [] rfl rfl rfl rfl rfl (by decide) (fun u => rfl) rfl rfl hl.1 (Nat.le_of_ble_eq_true rfl) ⟨Nat.le_of_ble_eq_true rfl, Nat.le_of_ble_eq_true rfl⟩ rfl dX2_isNoNumber_1 (fun z1 _ H locs p1 w => ?_)
  have p1 : (z1 = 1 ∧ xE bz ≠ 2047) ∨ (z1 = 0 ∧ xE bz = 2047) := p1
  have w : zW D _ _ s [] H locs := w
  refine z_if_ne (tgt := 21) S dX2_isNoNumber_4 (by decide) (by omega) (fun h4 => ?_) (fun h4 => ?_)
  · skip
    refine z_iconst S dX2_isNoNumber_21 ?_
    exact z_iret S hr hlk w zNar_b0 () (by omega) rfl dX2_isNoNumber_22
  · skip
    refine lv_lload_n S.1 S.2.1 dX2_isNoNumber_7 rfl (lv_at hl 0 rfl) ?_
    refine z_ldc2 (v := 4503599627370495) S 4503599627370495 kl_X2_isNoNumber_78 (by decide +kernel) dX2_isNoNumber_8 ?_
    refine z_land S dX2_isNoNumber_11 (v := (bz % 4503599627370496)) (lI_m52 bz) ?_
    refine z_lconst (z := 0) S dX2_isNoNumber_12 (by decide +kernel) ?_
    refine z_lcmp S dX2_isNoNumber_13 (by omega) (by omega) (fun c13 hc13 => ?_)
    refine z_if_eq (tgt := 21) S dX2_isNoNumber_14 (by decide) (by omega) (fun h14 => ?_) (fun h14 => ?_)
    · skip
      refine z_iconst S dX2_isNoNumber_21 ?_
      exact z_iret S hr hlk w zNar_b0 () (by omega) rfl dX2_isNoNumber_22
    · skip
      refine z_iconst S dX2_isNoNumber_17 ?_
      refine lv_goto (tgt := 22) S.1 S.2.1 dX2_isNoNumber_18 (by decide) ?_
      exact z_iret S hr hlk w zNar_b1 () (by omega) rfl dX2_isNoNumber_22

set_option maxRecDepth 20000 in
theorem ln_X2_at_19 : Cond.fieldLink RX2 19 "DecimalText" "line" "LDecimalText$Line;" ∈ wsX2_at := by decide +kernel
theorem in_X2_at_X2 : ∀ w ∈ u_ws RX2 TX2 2, w ∈ wsX2_at := by decide +kernel
set_option maxHeartbeats 4000000 in
set_option maxRecDepth 100000 in
theorem c_X2_at (l : Launch) (D : va_G) (cC : ClassId) (h : Nat) (hw : Nat) (hn : Nat) (hc : Nat) (C : Nat → Int) (len : Int) (T : List Int) (i : Int) (hT : tRep C len T) (hlen : len ≤ 400) (hi : -2147483648 ≤ i ∧ i ≤ 2147483647) : zMi (T := Unit) l yX2_at wsX2_at ({ frames := 1, cells := 0, slots := 0, locals := 21 } : Room) D [(cC, .char)] [.ref h, .int (zI i)] [(h, .inr (2, [.ref hw, .ref hn])), (hn, .inr (0, [.ref hc, .int (zI len)])), (hc, .inl (cC, 400, .inl (zA C)))] (fun (z : Int) (u : Unit) => z = (if 0 ≤ i ∧ i < len then C i.toNat else -1)) (fun (u : Unit) => [(h, .inr (2, [.ref hw, .ref hn])), (hn, .inr (0, [.ref hc, .int (zI len)])), (hc, .inl (cC, 400, .inl (zA C)))]) 0 0 := by
  refine zMi.of (bytes := cX2_at) (nL := 2) (own := RX2) (by decide) rfl rfl (Nat.le_of_ble_eq_true rfl) ?_
  intro p e s m below meth c ls S hr hlk hnm w hl
  have hl : lv_has ls 2 [(0, .ref h), (1, .int (zI i))] := hl
  refine lv_aload_n S.1 S.2.1 dX2_at_0 rfl (lv_at hl 0 rfl) ?_
  refine z_get (ci := 2) (C := RX2) (T := TX2) (N := 2) S w 0 rfl rfl in_X2_at_X2 1 (by decide) ln_X2_at_19 rfl rfl dX2_at_1 ?_
  refine lv_iload_n S.1 S.2.1 dX2_at_4 rfl (lv_at hl 1 rfl) ?_
  refine z_calliV (C := RX0) (n := 1) (As := [.int (zI i)]) (rest := []) (wr := [(h, .inr (2, [.ref hw, .ref hn]))]) (wn := (fun (u : Unit) => [(h, .inr (2, [.ref hw, .ref hn])), (hn, .inr (0, [.ref hc, .int (zI len)])), (hc, .inl (cC, 400, .inl (zA C)))])) S w (c_X0_codeAt l D cC hn hc C len i (by have := hT.1; omega) (by omega)) gX2_at_X0_codeAt (by decide +kernel) rfl ⟨rfl, rfl⟩ ⟨Nat.le_of_ble_eq_true rfl, Nat.le_of_ble_eq_true rfl⟩ [0] [1, 2] [0] [0, 1, 2] rfl rfl rfl rfl rfl (by decide) (fun u => rfl) rfl rfl rfl rfl rfl hl.1 (Nat.le_of_ble_eq_true rfl) ⟨Nat.le_of_ble_eq_true rfl, Nat.le_of_ble_eq_true rfl⟩ rfl dX2_at_5 (fun z5 _ H locs p5 w => ?_)
  have p5 : z5 = (if 0 ≤ i ∧ i < len then C i.toNat else -1) := p5
  have w : zW D _ _ s [(h, .inr (2, [.ref hw, .ref hn])), (hn, .inr (0, [.ref hc, .int (zI len)])), (hc, .inl (cC, 400, .inl (zA C)))] H locs := w
  exact z_iret S hr hlk w (zNar_int _) () p5 rfl dX2_at_8

set_option maxRecDepth 20000 in
theorem ln_X2_putDigit_19 : Cond.fieldLink RX2 19 "DecimalText" "line" "LDecimalText$Line;" ∈ wsX2_putDigit := by decide +kernel
theorem in_X2_putDigit_X2 : ∀ w ∈ u_ws RX2 TX2 2, w ∈ wsX2_putDigit := by decide +kernel
set_option maxHeartbeats 4000000 in
set_option maxRecDepth 100000 in
theorem c_X2_putDigit (l : Launch) (D : va_G) (cC : ClassId) (h : Nat) (hw : Nat) (hn : Nat) (hc : Nat) (C : Nat → Int) (len : Int) (T : List Int) (d : Int) (hT : lRep C len T) (hlen : len < 400) (hd : 0 ≤ d ∧ d ≤ 1000) : zMv (T := (Nat → Int) × Int) l yX2_putDigit wsX2_putDigit ({ frames := 1, cells := 0, slots := 0, locals := 21 } : Room) D [(cC, .char)] [.ref h, .int (zI d)] [(h, .inr (2, [.ref hw, .ref hn])), (hn, .inr (0, [.ref hc, .int (zI len)])), (hc, .inl (cC, 400, .inl (zA C)))] (fun (u : (Nat → Int) × Int) => lRep u.1 u.2 (T ++ [48 + d]) ∧ u.2 = len + 1) (fun (u : (Nat → Int) × Int) => [(h, .inr (2, [.ref hw, .ref hn])), (hn, .inr (0, [.ref hc, .int (zI u.2)])), (hc, .inl (cC, 400, .inl (zA u.1)))]) 0 0 := by
  refine zMv.of (bytes := cX2_putDigit) (nL := 2) (own := RX2) (by decide) rfl rfl (Nat.le_of_ble_eq_true rfl) ?_
  intro p e s m below meth c ls S hr hlk hnm w hl
  have hl : lv_has ls 2 [(0, .ref h), (1, .int (zI d))] := hl
  have hl0 := hT.1.1
  refine lv_aload_n S.1 S.2.1 dX2_putDigit_0 rfl (lv_at hl 0 rfl) ?_
  refine z_get (ci := 2) (C := RX2) (T := TX2) (N := 2) S w 0 rfl rfl in_X2_putDigit_X2 1 (by decide) ln_X2_putDigit_19 rfl rfl dX2_putDigit_1 ?_
  refine z_bipush S dX2_putDigit_4 (by decide +kernel) ?_
  refine lv_iload_n S.1 S.2.1 dX2_putDigit_6 rfl (lv_at hl 1 rfl) ?_
  refine z_iadd S dX2_putDigit_7 ?_
  refine z_i2c S dX2_putDigit_8 (by omega) ?_
  refine z_callvV (C := RX0) (n := 1) (As := [.int (zI (48 + d))]) (rest := []) (wr := [(h, .inr (2, [.ref hw, .ref hn]))]) (wn := (fun (u : (Nat → Int) × Int) => [(h, .inr (2, [.ref hw, .ref hn])), (hn, .inr (0, [.ref hc, .int (zI u.2)])), (hc, .inl (cC, 400, .inl (zA u.1)))])) S w (c_X0_put l D cC hn hc C len (48 + d) (by omega) (by omega)) gX2_putDigit_X0_put (by decide +kernel) rfl ⟨rfl, rfl⟩ ⟨Nat.le_of_ble_eq_true rfl, Nat.le_of_ble_eq_true rfl⟩ [0] [1, 2] [0] [0, 1, 2] rfl rfl rfl rfl rfl (by decide) (fun u => rfl) rfl rfl rfl rfl rfl hl.1 (Nat.le_of_ble_eq_true rfl) ⟨Nat.le_of_ble_eq_true rfl, Nat.le_of_ble_eq_true rfl⟩ rfl dX2_putDigit_9 (fun u H locs p9 w => ?_)
  obtain ⟨C9, len9⟩ := u
  have p9 : C9 = zu C len.toNat (48 + d) ∧ len9 = len + 1 := p9
  have w : zW D _ _ s [(h, .inr (2, [.ref hw, .ref hn])), (hn, .inr (0, [.ref hc, .int (zI len9)])), (hc, .inl (cC, 400, .inl (zA C9)))] H locs := w
  exact z_vret S hr hlk w (C9, len9) ⟨lRep_put' hT (by omega) p9, p9.2⟩ rfl dX2_putDigit_12

set_option maxRecDepth 20000 in
theorem ln_X2_putSign_19 : Cond.fieldLink RX2 19 "DecimalText" "line" "LDecimalText$Line;" ∈ wsX2_putSign := by decide +kernel
theorem in_X2_putSign_X2 : ∀ w ∈ u_ws RX2 TX2 2, w ∈ wsX2_putSign := by decide +kernel
set_option maxHeartbeats 4000000 in
set_option maxRecDepth 100000 in
theorem c_X2_putSign (l : Launch) (D : va_G) (cC : ClassId) (h : Nat) (hw : Nat) (hn : Nat) (hc : Nat) (C : Nat → Int) (len : Int) (T : List Int) (bz : Int) (fl : Int) (hT : lRep C len T) (hlen : len < 100) (hbz : -9223372036854775808 ≤ bz ∧ bz ≤ 9223372036854775807) (hfl : 0 ≤ fl ∧ fl ≤ 31) : zMv (T := (Nat → Int) × Int) l yX2_putSign wsX2_putSign ({ frames := 1, cells := 0, slots := 0, locals := 21 } : Room) D [(cC, .char)] [.ref h, .long (lI bz), .int (zI fl)] [(h, .inr (2, [.ref hw, .ref hn])), (hn, .inr (0, [.ref hc, .int (zI len)])), (hc, .inl (cC, 400, .inl (zA C)))] (fun (u : (Nat → Int) × Int) => lRep u.1 u.2 (T ++ sgT bz fl) ∧ u.2 = len + ((sgT bz fl).length : Int)) (fun (u : (Nat → Int) × Int) => [(h, .inr (2, [.ref hw, .ref hn])), (hn, .inr (0, [.ref hc, .int (zI u.2)])), (hc, .inl (cC, 400, .inl (zA u.1)))]) 0 0 := by
  refine zMv.of (bytes := cX2_putSign) (nL := 4) (own := RX2) (by decide) rfl rfl (Nat.le_of_ble_eq_true rfl) ?_
  intro p e s m below meth c ls S hr hlk hnm w hl
  have hl : lv_has ls 4 [(0, .ref h), (1, .long (lI bz)), (3, .int (zI fl))] := hl
  have hl0 := hT.1.1
  refine lv_lload_n S.1 S.2.1 dX2_putSign_0 rfl (lv_at hl 1 rfl) ?_
  refine z_lconst (z := 0) S dX2_putSign_1 (by decide +kernel) ?_
  refine z_lcmp S dX2_putSign_2 (by omega) (by omega) (fun c2 hc2 => ?_)
  refine z_if_ge (tgt := 18) S dX2_putSign_3 (by decide) (by omega) (fun h3 => ?_) (fun h3 => ?_)
  · skip
    refine lv_iload_n S.1 S.2.1 dX2_putSign_18 rfl (lv_at hl 2 rfl) ?_
    refine z_iconst S dX2_putSign_19 ?_
    refine z_calliS (n := 2) (As := [.int (zI fl), .int (zI 2)]) (rest := []) (wr := [(h, .inr (2, [.ref hw, .ref hn])), (hn, .inr (0, [.ref hc, .int (zI len)])), (hc, .inl (cC, 400, .inl (zA C)))]) (wn := (fun (u : Unit) => [(h, .inr (2, [.ref hw, .ref hn])), (hn, .inr (0, [.ref hc, .int (zI len)])), (hc, .inl (cC, 400, .inl (zA C)))])) S w (c_X2_has l D fl 2 (by omega) (by decide)) gX2_putSign_X2_has (by decide +kernel) rfl ⟨rfl, rfl⟩ ⟨Nat.le_of_ble_eq_true rfl, Nat.le_of_ble_eq_true rfl⟩ [] [] [0, 1, 2] [0, 1, 2] rfl rfl rfl rfl rfl (by decide) (fun u => rfl) rfl rfl hl.1 (Nat.le_of_ble_eq_true rfl) ⟨Nat.le_of_ble_eq_true rfl, Nat.le_of_ble_eq_true rfl⟩ rfl dX2_putSign_20 (fun z20 _ H locs p20 w => ?_)
    have p20 : (z20 = 1 ∧ fl / (2 : Int) % 2 = 1) ∨ (z20 = 0 ∧ fl / (2 : Int) % 2 ≠ 1) := p20
    have w : zW D _ _ s [(h, .inr (2, [.ref hw, .ref hn])), (hn, .inr (0, [.ref hc, .int (zI len)])), (hc, .inl (cC, 400, .inl (zA C)))] H locs := w
    refine z_if_eq (tgt := 38) S dX2_putSign_23 (by decide) (by omega) (fun h23 => ?_) (fun h23 => ?_)
    · skip
      refine lv_iload_n S.1 S.2.1 dX2_putSign_38 rfl (lv_at hl 2 rfl) ?_
      refine z_iconst S dX2_putSign_39 ?_
      refine z_calliS (n := 2) (As := [.int (zI fl), .int (zI 4)]) (rest := []) (wr := [(h, .inr (2, [.ref hw, .ref hn])), (hn, .inr (0, [.ref hc, .int (zI len)])), (hc, .inl (cC, 400, .inl (zA C)))]) (wn := (fun (u : Unit) => [(h, .inr (2, [.ref hw, .ref hn])), (hn, .inr (0, [.ref hc, .int (zI len)])), (hc, .inl (cC, 400, .inl (zA C)))])) S w (c_X2_has l D fl 4 (by omega) (by decide)) gX2_putSign_X2_has (by decide +kernel) rfl ⟨rfl, rfl⟩ ⟨Nat.le_of_ble_eq_true rfl, Nat.le_of_ble_eq_true rfl⟩ [] [] [0, 1, 2] [0, 1, 2] rfl rfl rfl rfl rfl (by decide) (fun u => rfl) rfl rfl hl.1 (Nat.le_of_ble_eq_true rfl) ⟨Nat.le_of_ble_eq_true rfl, Nat.le_of_ble_eq_true rfl⟩ rfl dX2_putSign_40 (fun z40 _ H locs p40 w => ?_)
      have p40 : (z40 = 1 ∧ fl / (4 : Int) % 2 = 1) ∨ (z40 = 0 ∧ fl / (4 : Int) % 2 ≠ 1) := p40
      have w : zW D _ _ s [(h, .inr (2, [.ref hw, .ref hn])), (hn, .inr (0, [.ref hc, .int (zI len)])), (hc, .inl (cC, 400, .inl (zA C)))] H locs := w
      refine z_if_eq (tgt := 55) S dX2_putSign_43 (by decide) (by omega) (fun h43 => ?_) (fun h43 => ?_)
      · skip
        exact z_vret S hr hlk w (C, len) (by unfold sgT; rw [if_neg (by omega), if_neg (by omega), if_neg (by omega), List.append_nil]; exact ⟨hT, by simp⟩) rfl dX2_putSign_55
      · skip
        refine lv_aload_n S.1 S.2.1 dX2_putSign_46 rfl (lv_at hl 0 rfl) ?_
        refine z_get (ci := 2) (C := RX2) (T := TX2) (N := 2) S w 0 rfl rfl in_X2_putSign_X2 1 (by decide) ln_X2_putSign_19 rfl rfl dX2_putSign_47 ?_
        refine z_bipush S dX2_putSign_50 (by decide +kernel) ?_
        refine z_callvV (C := RX0) (n := 1) (As := [.int (zI 32)]) (rest := []) (wr := [(h, .inr (2, [.ref hw, .ref hn]))]) (wn := (fun (u : (Nat → Int) × Int) => [(h, .inr (2, [.ref hw, .ref hn])), (hn, .inr (0, [.ref hc, .int (zI u.2)])), (hc, .inl (cC, 400, .inl (zA u.1)))])) S w (c_X0_put l D cC hn hc C len 32 (by omega) (by omega)) gX2_putSign_X0_put (by decide +kernel) rfl ⟨rfl, rfl⟩ ⟨Nat.le_of_ble_eq_true rfl, Nat.le_of_ble_eq_true rfl⟩ [0] [1, 2] [0] [0, 1, 2] rfl rfl rfl rfl rfl (by decide) (fun u => rfl) rfl rfl rfl rfl rfl hl.1 (Nat.le_of_ble_eq_true rfl) ⟨Nat.le_of_ble_eq_true rfl, Nat.le_of_ble_eq_true rfl⟩ rfl dX2_putSign_52 (fun u H locs p52 w => ?_)
        obtain ⟨C52, len52⟩ := u
        have p52 : C52 = zu C len.toNat (32 : Int) ∧ len52 = len + 1 := p52
        have w : zW D _ _ s [(h, .inr (2, [.ref hw, .ref hn])), (hn, .inr (0, [.ref hc, .int (zI len52)])), (hc, .inl (cC, 400, .inl (zA C52)))] H locs := w
        exact z_vret S hr hlk w (C52, len52) (by unfold sgT; rw [if_neg (by omega), if_neg (by omega), if_pos (by omega)]; exact ⟨lRep_put' hT (by omega) p52, p52.2⟩) rfl dX2_putSign_55
    · skip
      refine lv_aload_n S.1 S.2.1 dX2_putSign_26 rfl (lv_at hl 0 rfl) ?_
      refine z_get (ci := 2) (C := RX2) (T := TX2) (N := 2) S w 0 rfl rfl in_X2_putSign_X2 1 (by decide) ln_X2_putSign_19 rfl rfl dX2_putSign_27 ?_
      refine z_bipush S dX2_putSign_30 (by decide +kernel) ?_
      refine z_callvV (C := RX0) (n := 1) (As := [.int (zI 43)]) (rest := []) (wr := [(h, .inr (2, [.ref hw, .ref hn]))]) (wn := (fun (u : (Nat → Int) × Int) => [(h, .inr (2, [.ref hw, .ref hn])), (hn, .inr (0, [.ref hc, .int (zI u.2)])), (hc, .inl (cC, 400, .inl (zA u.1)))])) S w (c_X0_put l D cC hn hc C len 43 (by omega) (by omega)) gX2_putSign_X0_put (by decide +kernel) rfl ⟨rfl, rfl⟩ ⟨Nat.le_of_ble_eq_true rfl, Nat.le_of_ble_eq_true rfl⟩ [0] [1, 2] [0] [0, 1, 2] rfl rfl rfl rfl rfl (by decide) (fun u => rfl) rfl rfl rfl rfl rfl hl.1 (Nat.le_of_ble_eq_true rfl) ⟨Nat.le_of_ble_eq_true rfl, Nat.le_of_ble_eq_true rfl⟩ rfl dX2_putSign_32 (fun u H locs p32 w => ?_)
      obtain ⟨C32, len32⟩ := u
      have p32 : C32 = zu C len.toNat (43 : Int) ∧ len32 = len + 1 := p32
      have w : zW D _ _ s [(h, .inr (2, [.ref hw, .ref hn])), (hn, .inr (0, [.ref hc, .int (zI len32)])), (hc, .inl (cC, 400, .inl (zA C32)))] H locs := w
      refine lv_goto (tgt := 55) S.1 S.2.1 dX2_putSign_35 (by decide) ?_
      exact z_vret S hr hlk w (C32, len32) (by unfold sgT; rw [if_neg (by omega), if_pos (by omega)]; exact ⟨lRep_put' hT (by omega) p32, p32.2⟩) rfl dX2_putSign_55
  · skip
    refine lv_aload_n S.1 S.2.1 dX2_putSign_6 rfl (lv_at hl 0 rfl) ?_
    refine z_get (ci := 2) (C := RX2) (T := TX2) (N := 2) S w 0 rfl rfl in_X2_putSign_X2 1 (by decide) ln_X2_putSign_19 rfl rfl dX2_putSign_7 ?_
    refine z_bipush S dX2_putSign_10 (by decide +kernel) ?_
    refine z_callvV (C := RX0) (n := 1) (As := [.int (zI 45)]) (rest := []) (wr := [(h, .inr (2, [.ref hw, .ref hn]))]) (wn := (fun (u : (Nat → Int) × Int) => [(h, .inr (2, [.ref hw, .ref hn])), (hn, .inr (0, [.ref hc, .int (zI u.2)])), (hc, .inl (cC, 400, .inl (zA u.1)))])) S w (c_X0_put l D cC hn hc C len 45 (by omega) (by omega)) gX2_putSign_X0_put (by decide +kernel) rfl ⟨rfl, rfl⟩ ⟨Nat.le_of_ble_eq_true rfl, Nat.le_of_ble_eq_true rfl⟩ [0] [1, 2] [0] [0, 1, 2] rfl rfl rfl rfl rfl (by decide) (fun u => rfl) rfl rfl rfl rfl rfl hl.1 (Nat.le_of_ble_eq_true rfl) ⟨Nat.le_of_ble_eq_true rfl, Nat.le_of_ble_eq_true rfl⟩ rfl dX2_putSign_12 (fun u H locs p12 w => ?_)
    obtain ⟨C12, len12⟩ := u
    have p12 : C12 = zu C len.toNat (45 : Int) ∧ len12 = len + 1 := p12
    have w : zW D _ _ s [(h, .inr (2, [.ref hw, .ref hn])), (hn, .inr (0, [.ref hc, .int (zI len12)])), (hc, .inl (cC, 400, .inl (zA C12)))] H locs := w
    refine lv_goto (tgt := 55) S.1 S.2.1 dX2_putSign_15 (by decide) ?_
    exact z_vret S hr hlk w (C12, len12) (by unfold sgT; rw [if_pos (by omega)]; exact ⟨lRep_put' hT (by omega) p12, p12.2⟩) rfl dX2_putSign_55

set_option maxRecDepth 20000 in
theorem ln_X2_putInfinite_19 : Cond.fieldLink RX2 19 "DecimalText" "line" "LDecimalText$Line;" ∈ wsX2_putInfinite := by decide +kernel
theorem in_X2_putInfinite_X2 : ∀ w ∈ u_ws RX2 TX2 2, w ∈ wsX2_putInfinite := by decide +kernel
set_option maxHeartbeats 4000000 in
set_option maxRecDepth 100000 in
theorem c_X2_putInfinite (l : Launch) (D : va_G) (cC : ClassId) (h : Nat) (hw : Nat) (hn : Nat) (hc : Nat) (C : Nat → Int) (len : Int) (T : List Int) (hT : lRep C len T) (hlen : len < 100) : zMv (T := (Nat → Int) × Int) l yX2_putInfinite wsX2_putInfinite ({ frames := 1, cells := 0, slots := 0, locals := 21 } : Room) D [(cC, .char)] [.ref h] [(h, .inr (2, [.ref hw, .ref hn])), (hn, .inr (0, [.ref hc, .int (zI len)])), (hc, .inl (cC, 400, .inl (zA C)))] (fun (u : (Nat → Int) × Int) => lRep u.1 u.2 (T ++ [105, 110, 102]) ∧ u.2 = len + 3) (fun (u : (Nat → Int) × Int) => [(h, .inr (2, [.ref hw, .ref hn])), (hn, .inr (0, [.ref hc, .int (zI u.2)])), (hc, .inl (cC, 400, .inl (zA u.1)))]) 0 0 := by
  refine zMv.of (bytes := cX2_putInfinite) (nL := 1) (own := RX2) (by decide) rfl rfl (Nat.le_of_ble_eq_true rfl) ?_
  intro p e s m below meth c ls S hr hlk hnm w hl
  have hl : lv_has ls 1 [(0, .ref h)] := hl
  have hl0 := hT.1.1
  refine lv_aload_n S.1 S.2.1 dX2_putInfinite_0 rfl (lv_at hl 0 rfl) ?_
  refine z_get (ci := 2) (C := RX2) (T := TX2) (N := 2) S w 0 rfl rfl in_X2_putInfinite_X2 1 (by decide) ln_X2_putInfinite_19 rfl rfl dX2_putInfinite_1 ?_
  refine z_bipush S dX2_putInfinite_4 (by decide +kernel) ?_
  refine z_callvV (C := RX0) (n := 1) (As := [.int (zI 105)]) (rest := []) (wr := [(h, .inr (2, [.ref hw, .ref hn]))]) (wn := (fun (u : (Nat → Int) × Int) => [(h, .inr (2, [.ref hw, .ref hn])), (hn, .inr (0, [.ref hc, .int (zI u.2)])), (hc, .inl (cC, 400, .inl (zA u.1)))])) S w (c_X0_put l D cC hn hc C len 105 (by omega) (by omega)) gX2_putInfinite_X0_put (by decide +kernel) rfl ⟨rfl, rfl⟩ ⟨Nat.le_of_ble_eq_true rfl, Nat.le_of_ble_eq_true rfl⟩ [0] [1, 2] [0] [0, 1, 2] rfl rfl rfl rfl rfl (by decide) (fun u => rfl) rfl rfl rfl rfl rfl hl.1 (Nat.le_of_ble_eq_true rfl) ⟨Nat.le_of_ble_eq_true rfl, Nat.le_of_ble_eq_true rfl⟩ rfl dX2_putInfinite_6 (fun u H locs p6 w => ?_)
  obtain ⟨C6, len6⟩ := u
  have p6 : C6 = zu C len.toNat (105 : Int) ∧ len6 = len + 1 := p6
  have w : zW D _ _ s [(h, .inr (2, [.ref hw, .ref hn])), (hn, .inr (0, [.ref hc, .int (zI len6)])), (hc, .inl (cC, 400, .inl (zA C6)))] H locs := w
  have t6 := lRep_put' hT (by omega) p6
  refine lv_aload_n S.1 S.2.1 dX2_putInfinite_9 rfl (lv_at hl 0 rfl) ?_
  refine z_get (ci := 2) (C := RX2) (T := TX2) (N := 2) S w 0 rfl rfl in_X2_putInfinite_X2 1 (by decide) ln_X2_putInfinite_19 rfl rfl dX2_putInfinite_10 ?_
  refine z_bipush S dX2_putInfinite_13 (by decide +kernel) ?_
  refine z_callvV (C := RX0) (n := 1) (As := [.int (zI 110)]) (rest := []) (wr := [(h, .inr (2, [.ref hw, .ref hn]))]) (wn := (fun (u : (Nat → Int) × Int) => [(h, .inr (2, [.ref hw, .ref hn])), (hn, .inr (0, [.ref hc, .int (zI u.2)])), (hc, .inl (cC, 400, .inl (zA u.1)))])) S w (c_X0_put l D cC hn hc C6 len6 110 (by omega) (by omega)) gX2_putInfinite_X0_put (by decide +kernel) rfl ⟨rfl, rfl⟩ ⟨Nat.le_of_ble_eq_true rfl, Nat.le_of_ble_eq_true rfl⟩ [0] [1, 2] [0] [0, 1, 2] rfl rfl rfl rfl rfl (by decide) (fun u => rfl) rfl rfl rfl rfl rfl hl.1 (Nat.le_of_ble_eq_true rfl) ⟨Nat.le_of_ble_eq_true rfl, Nat.le_of_ble_eq_true rfl⟩ rfl dX2_putInfinite_15 (fun u H locs p15 w => ?_)
  obtain ⟨C15, len15⟩ := u
  have p15 : C15 = zu C6 len6.toNat (110 : Int) ∧ len15 = len6 + 1 := p15
  have w : zW D _ _ s [(h, .inr (2, [.ref hw, .ref hn])), (hn, .inr (0, [.ref hc, .int (zI len15)])), (hc, .inl (cC, 400, .inl (zA C15)))] H locs := w
  have t15 := lRep_put' t6 (by omega) p15
  refine lv_aload_n S.1 S.2.1 dX2_putInfinite_18 rfl (lv_at hl 0 rfl) ?_
  refine z_get (ci := 2) (C := RX2) (T := TX2) (N := 2) S w 0 rfl rfl in_X2_putInfinite_X2 1 (by decide) ln_X2_putInfinite_19 rfl rfl dX2_putInfinite_19 ?_
  refine z_bipush S dX2_putInfinite_22 (by decide +kernel) ?_
  refine z_callvV (C := RX0) (n := 1) (As := [.int (zI 102)]) (rest := []) (wr := [(h, .inr (2, [.ref hw, .ref hn]))]) (wn := (fun (u : (Nat → Int) × Int) => [(h, .inr (2, [.ref hw, .ref hn])), (hn, .inr (0, [.ref hc, .int (zI u.2)])), (hc, .inl (cC, 400, .inl (zA u.1)))])) S w (c_X0_put l D cC hn hc C15 len15 102 (by omega) (by omega)) gX2_putInfinite_X0_put (by decide +kernel) rfl ⟨rfl, rfl⟩ ⟨Nat.le_of_ble_eq_true rfl, Nat.le_of_ble_eq_true rfl⟩ [0] [1, 2] [0] [0, 1, 2] rfl rfl rfl rfl rfl (by decide) (fun u => rfl) rfl rfl rfl rfl rfl hl.1 (Nat.le_of_ble_eq_true rfl) ⟨Nat.le_of_ble_eq_true rfl, Nat.le_of_ble_eq_true rfl⟩ rfl dX2_putInfinite_24 (fun u H locs p24 w => ?_)
  obtain ⟨C24, len24⟩ := u
  have p24 : C24 = zu C15 len15.toNat (102 : Int) ∧ len24 = len15 + 1 := p24
  have w : zW D _ _ s [(h, .inr (2, [.ref hw, .ref hn])), (hn, .inr (0, [.ref hc, .int (zI len24)])), (hc, .inl (cC, 400, .inl (zA C24)))] H locs := w
  have t24 := lRep_put' t15 (by omega) p24
  rw [List.append_assoc, List.append_assoc] at t24
  exact z_vret S hr hlk w (C24, len24) ⟨t24, by omega⟩ rfl dX2_putInfinite_27

set_option maxRecDepth 20000 in
theorem ml_X2_putExponent_122 : Cond.methodLink RX2 122 Lib.Math.abs.name ∈ wsX2_putExponent := by decide +kernel
set_option maxRecDepth 20000 in
theorem st_X2_putExponent_abs : Cond.static Lib.Math.abs.name ∈ wsX2_putExponent := by decide +kernel
set_option maxRecDepth 20000 in
theorem ini_X2_putExponent_Math : Cond.initialized "java/lang/Math" ∈ wsX2_putExponent := by decide +kernel
set_option maxRecDepth 20000 in
theorem co_X2_putExponent_abs : Cond.code Lib.Math.abs.name Lib.Math.abs.code 1 (some .int) ∈ wsX2_putExponent := by decide +kernel
set_option maxRecDepth 20000 in
theorem ln_X2_putExponent_19 : Cond.fieldLink RX2 19 "DecimalText" "line" "LDecimalText$Line;" ∈ wsX2_putExponent := by decide +kernel
theorem in_X2_putExponent_X2 : ∀ w ∈ u_ws RX2 TX2 2, w ∈ wsX2_putExponent := by decide +kernel
set_option maxHeartbeats 4000000 in
set_option maxRecDepth 100000 in
theorem c_X2_putExponent (l : Launch) (D : va_G) (cC : ClassId) (h : Nat) (hw : Nat) (hn : Nat) (hc : Nat) (C : Nat → Int) (len : Int) (T : List Int) (po : Int) (mk : Int) (hT : lRep C len T) (hlen : len < 390) (hpo : -2000 ≤ po ∧ po ≤ 2000) (hmk : 0 ≤ mk ∧ mk ≤ 65535) : zMv (T := (Nat → Int) × Int) l yX2_putExponent wsX2_putExponent ({ frames := 2, cells := 0, slots := 0, locals := 42 } : Room) D [(cC, .char)] [.ref h, .int (zI po), .int (zI mk)] [(h, .inr (2, [.ref hw, .ref hn])), (hn, .inr (0, [.ref hc, .int (zI len)])), (hc, .inl (cC, 400, .inl (zA C)))] (fun (u : (Nat → Int) × Int) => lRep u.1 u.2 (T ++ exT po mk) ∧ u.2 = len + ((exT po mk).length : Int)) (fun (u : (Nat → Int) × Int) => [(h, .inr (2, [.ref hw, .ref hn])), (hn, .inr (0, [.ref hc, .int (zI u.2)])), (hc, .inl (cC, 400, .inl (zA u.1)))]) 0 0 := by
  refine zMv.of (bytes := cX2_putExponent) (nL := 4) (own := RX2) (by decide) rfl rfl (Nat.le_of_ble_eq_true rfl) ?_
  intro p e s m below meth c ls S hr hlk hnm w hl
  have hl : lv_has ls 4 [(0, .ref h), (1, .int (zI po)), (2, .int (zI mk))] := hl
  have hl0 := hT.1.1
  refine lv_iload_n S.1 S.2.1 dX2_putExponent_0 rfl (lv_at hl 1 rfl) ?_
  refine z_mabs S ml_X2_putExponent_122 st_X2_putExponent_abs ini_X2_putExponent_Math co_X2_putExponent_abs hl.1 (Nat.le_of_ble_eq_true rfl) (Nat.le_of_ble_eq_true rfl) (Nat.le_of_ble_eq_true rfl) (Nat.le_of_ble_eq_true rfl) dX2_putExponent_1 (by omega) (fun m1 hm1 => ?_)
  have ea : exA po = m1 := by unfold exA; by_cases q : 0 ≤ po
                              · rw [if_pos q]; omega
                              · rw [if_neg q]; omega
  refine lv_istore_n (lv' := [(3, .int (zI m1)), (0, .ref h), (1, .int (zI po)), (2, .int (zI mk))]) S.1 S.2.1 dX2_putExponent_4 rfl hl (by decide) rfl (fun ls hl => ?_)
  refine lv_aload_n S.1 S.2.1 dX2_putExponent_5 rfl (lv_at hl 1 rfl) ?_
  refine z_get (ci := 2) (C := RX2) (T := TX2) (N := 2) S w 0 rfl rfl in_X2_putExponent_X2 1 (by decide) ln_X2_putExponent_19 rfl rfl dX2_putExponent_6 ?_
  refine lv_iload_n S.1 S.2.1 dX2_putExponent_9 rfl (lv_at hl 3 rfl) ?_
  refine z_callvV (C := RX0) (n := 1) (As := [.int (zI mk)]) (rest := []) (wr := [(h, .inr (2, [.ref hw, .ref hn]))]) (wn := (fun (u : (Nat → Int) × Int) => [(h, .inr (2, [.ref hw, .ref hn])), (hn, .inr (0, [.ref hc, .int (zI u.2)])), (hc, .inl (cC, 400, .inl (zA u.1)))])) S w (c_X0_put l D cC hn hc C len mk (by omega) (by omega)) gX2_putExponent_X0_put (by decide +kernel) rfl ⟨rfl, rfl⟩ ⟨Nat.le_of_ble_eq_true rfl, Nat.le_of_ble_eq_true rfl⟩ [0] [1, 2] [0] [0, 1, 2] rfl rfl rfl rfl rfl (by decide) (fun u => rfl) rfl rfl rfl rfl rfl hl.1 (Nat.le_of_ble_eq_true rfl) ⟨Nat.le_of_ble_eq_true rfl, Nat.le_of_ble_eq_true rfl⟩ rfl dX2_putExponent_10 (fun u H locs p10 w => ?_)
  obtain ⟨C10, len10⟩ := u
  have p10 : C10 = zu C len.toNat mk ∧ len10 = len + 1 := p10
  have w : zW D _ _ s [(h, .inr (2, [.ref hw, .ref hn])), (hn, .inr (0, [.ref hc, .int (zI len10)])), (hc, .inl (cC, 400, .inl (zA C10)))] H locs := w
  have t10 := lRep_put' hT (by omega) p10
  refine lv_aload_n S.1 S.2.1 dX2_putExponent_13 rfl (lv_at hl 1 rfl) ?_
  refine z_get (ci := 2) (C := RX2) (T := TX2) (N := 2) S w 0 rfl rfl in_X2_putExponent_X2 1 (by decide) ln_X2_putExponent_19 rfl rfl dX2_putExponent_14 ?_
  refine lv_iload_n S.1 S.2.1 dX2_putExponent_17 rfl (lv_at hl 2 rfl) ?_
  refine z_if_ge (tgt := 26) S dX2_putExponent_18 (by decide) (by omega) (fun h18 => ?_) (fun h18 => ?_)
  · skip
    refine z_bipush S dX2_putExponent_26 (by decide +kernel) ?_
    refine z_callvV (C := RX0) (n := 1) (As := [.int (zI 43)]) (rest := []) (wr := [(h, .inr (2, [.ref hw, .ref hn]))]) (wn := (fun (u : (Nat → Int) × Int) => [(h, .inr (2, [.ref hw, .ref hn])), (hn, .inr (0, [.ref hc, .int (zI u.2)])), (hc, .inl (cC, 400, .inl (zA u.1)))])) S w (c_X0_put l D cC hn hc C10 len10 43 (by omega) (by omega)) gX2_putExponent_X0_put (by decide +kernel) rfl ⟨rfl, rfl⟩ ⟨Nat.le_of_ble_eq_true rfl, Nat.le_of_ble_eq_true rfl⟩ [0] [1, 2] [0] [0, 1, 2] rfl rfl rfl rfl rfl (by decide) (fun u => rfl) rfl rfl rfl rfl rfl hl.1 (Nat.le_of_ble_eq_true rfl) ⟨Nat.le_of_ble_eq_true rfl, Nat.le_of_ble_eq_true rfl⟩ rfl dX2_putExponent_28 (fun u H locs p28 w => ?_)
    obtain ⟨C28, len28⟩ := u
    have p28 : C28 = zu C10 len10.toNat (43 : Int) ∧ len28 = len10 + 1 := p28
    have w : zW D _ _ s [(h, .inr (2, [.ref hw, .ref hn])), (hn, .inr (0, [.ref hc, .int (zI len28)])), (hc, .inl (cC, 400, .inl (zA C28)))] H locs := w
    have t28 := lRep_put' t10 (by omega) p28
    refine lv_iload_n S.1 S.2.1 dX2_putExponent_31 rfl (lv_at hl 0 rfl) ?_
    refine z_bipush S dX2_putExponent_32 (by decide +kernel) ?_
    refine z_icmp_lt (tgt := 45) S dX2_putExponent_34 (by decide) (by omega) (by omega) (fun h34 => ?_) (fun h34 => ?_)
    · skip
      refine lv_aload_n S.1 S.2.1 dX2_putExponent_45 rfl (lv_at hl 1 rfl) ?_
      refine lv_iload_n S.1 S.2.1 dX2_putExponent_46 rfl (lv_at hl 0 rfl) ?_
      refine z_bipush S dX2_putExponent_47 (by decide +kernel) ?_
      refine z_idiv S dX2_putExponent_49 (by omega) (by omega) ?_
      refine z_bipush S dX2_putExponent_50 (by decide +kernel) ?_
      refine z_irem S dX2_putExponent_52 (by omega) (by omega) ?_
      refine z_callvV (C := RX2) (n := 1) (As := [.int (zI ((m1 / 10) % 10))]) (rest := []) (wr := []) (wn := (fun (u : (Nat → Int) × Int) => [(h, .inr (2, [.ref hw, .ref hn])), (hn, .inr (0, [.ref hc, .int (zI u.2)])), (hc, .inl (cC, 400, .inl (zA u.1)))])) S w (c_X2_putDigit l D cC h hw hn hc C28 len28 _ ((m1 / 10) % 10) (by first | exact p42.1 | exact t28) (by omega) (by omega)) gX2_putExponent_X2_putDigit (by decide +kernel) rfl ⟨rfl, rfl⟩ ⟨Nat.le_of_ble_eq_true rfl, Nat.le_of_ble_eq_true rfl⟩ [0] [0, 1, 2] [] [0, 1, 2] rfl rfl rfl rfl rfl (by decide) (fun u => rfl) rfl rfl rfl rfl rfl hl.1 (Nat.le_of_ble_eq_true rfl) ⟨Nat.le_of_ble_eq_true rfl, Nat.le_of_ble_eq_true rfl⟩ rfl dX2_putExponent_53 (fun u H locs p53 w => ?_)
      obtain ⟨C53, len53⟩ := u
      have p53 : lRep C53 len53 (_ ++ [48 + ((m1 / 10) % 10)]) ∧ len53 = len28 + 1 := p53
      have w : zW D _ _ s [(h, .inr (2, [.ref hw, .ref hn])), (hn, .inr (0, [.ref hc, .int (zI len53)])), (hc, .inl (cC, 400, .inl (zA C53)))] H locs := w
      refine lv_aload_n S.1 S.2.1 dX2_putExponent_56 rfl (lv_at hl 1 rfl) ?_
      refine lv_iload_n S.1 S.2.1 dX2_putExponent_57 rfl (lv_at hl 0 rfl) ?_
      refine z_bipush S dX2_putExponent_58 (by decide +kernel) ?_
      refine z_irem S dX2_putExponent_60 (by omega) (by omega) ?_
      refine z_callvV (C := RX2) (n := 1) (As := [.int (zI (m1 % 10))]) (rest := []) (wr := []) (wn := (fun (u : (Nat → Int) × Int) => [(h, .inr (2, [.ref hw, .ref hn])), (hn, .inr (0, [.ref hc, .int (zI u.2)])), (hc, .inl (cC, 400, .inl (zA u.1)))])) S w (c_X2_putDigit l D cC h hw hn hc C53 len53 _ (m1 % 10) p53.1 (by omega) (by omega)) gX2_putExponent_X2_putDigit (by decide +kernel) rfl ⟨rfl, rfl⟩ ⟨Nat.le_of_ble_eq_true rfl, Nat.le_of_ble_eq_true rfl⟩ [0] [0, 1, 2] [] [0, 1, 2] rfl rfl rfl rfl rfl (by decide) (fun u => rfl) rfl rfl rfl rfl rfl hl.1 (Nat.le_of_ble_eq_true rfl) ⟨Nat.le_of_ble_eq_true rfl, Nat.le_of_ble_eq_true rfl⟩ rfl dX2_putExponent_61 (fun u H locs p61 w => ?_)
      obtain ⟨C61, len61⟩ := u
      have p61 : lRep C61 len61 (_ ++ [48 + (m1 % 10)]) ∧ len61 = len53 + 1 := p61
      have w : zW D _ _ s [(h, .inr (2, [.ref hw, .ref hn])), (hn, .inr (0, [.ref hc, .int (zI len61)])), (hc, .inl (cC, 400, .inl (zA C61)))] H locs := w
      have k1_ : lRep C61 len61 (T ++ exT po mk) ∧ len61 = len + ((exT po mk).length : Int) := by
        have q1 := p61.1
        have e : exT po mk = [mk, if po < 0 then 45 else 43] ++ (if 100 ≤ m1 then [48 + m1 / 100] else []) ++ [48 + m1 / 10 % 10, 48 + m1 % 10] := by unfold exT; rw [ea]
        rw [e]
        first
          | (rw [if_pos (show po < 0 by omega), if_pos (show 100 ≤ m1 by omega)]; simp only [List.append_assoc, List.singleton_append, List.cons_append, List.nil_append, List.append_nil] at q1 ⊢; exact ⟨q1, by simp only [List.length_cons, List.length_nil]; omega⟩)
          | (rw [if_pos (show po < 0 by omega), if_neg (show ¬ 100 ≤ m1 by omega)]; simp only [List.append_assoc, List.singleton_append, List.cons_append, List.nil_append, List.append_nil] at q1 ⊢; exact ⟨q1, by simp only [List.length_cons, List.length_nil]; omega⟩)
          | (rw [if_neg (show ¬ po < 0 by omega), if_pos (show 100 ≤ m1 by omega)]; simp only [List.append_assoc, List.singleton_append, List.cons_append, List.nil_append, List.append_nil] at q1 ⊢; exact ⟨q1, by simp only [List.length_cons, List.length_nil]; omega⟩)
          | (rw [if_neg (show ¬ po < 0 by omega), if_neg (show ¬ 100 ≤ m1 by omega)]; simp only [List.append_assoc, List.singleton_append, List.cons_append, List.nil_append, List.append_nil] at q1 ⊢; exact ⟨q1, by simp only [List.length_cons, List.length_nil]; omega⟩)
      exact z_vret S hr hlk w (C61, len61) k1_ rfl dX2_putExponent_64
    · skip
      refine lv_aload_n S.1 S.2.1 dX2_putExponent_37 rfl (lv_at hl 1 rfl) ?_
      refine lv_iload_n S.1 S.2.1 dX2_putExponent_38 rfl (lv_at hl 0 rfl) ?_
      refine z_bipush S dX2_putExponent_39 (by decide +kernel) ?_
      refine z_idiv S dX2_putExponent_41 (by omega) (by omega) ?_
      refine z_callvV (C := RX2) (n := 1) (As := [.int (zI (m1 / 100))]) (rest := []) (wr := []) (wn := (fun (u : (Nat → Int) × Int) => [(h, .inr (2, [.ref hw, .ref hn])), (hn, .inr (0, [.ref hc, .int (zI u.2)])), (hc, .inl (cC, 400, .inl (zA u.1)))])) S w (c_X2_putDigit l D cC h hw hn hc C28 len28 _ (m1 / 100) t28 (by omega) (by omega)) gX2_putExponent_X2_putDigit (by decide +kernel) rfl ⟨rfl, rfl⟩ ⟨Nat.le_of_ble_eq_true rfl, Nat.le_of_ble_eq_true rfl⟩ [0] [0, 1, 2] [] [0, 1, 2] rfl rfl rfl rfl rfl (by decide) (fun u => rfl) rfl rfl rfl rfl rfl hl.1 (Nat.le_of_ble_eq_true rfl) ⟨Nat.le_of_ble_eq_true rfl, Nat.le_of_ble_eq_true rfl⟩ rfl dX2_putExponent_42 (fun u H locs p42 w => ?_)
      obtain ⟨C42, len42⟩ := u
      have p42 : lRep C42 len42 (_ ++ [48 + (m1 / 100)]) ∧ len42 = len28 + 1 := p42
      have w : zW D _ _ s [(h, .inr (2, [.ref hw, .ref hn])), (hn, .inr (0, [.ref hc, .int (zI len42)])), (hc, .inl (cC, 400, .inl (zA C42)))] H locs := w
      refine lv_aload_n S.1 S.2.1 dX2_putExponent_45 rfl (lv_at hl 1 rfl) ?_
      refine lv_iload_n S.1 S.2.1 dX2_putExponent_46 rfl (lv_at hl 0 rfl) ?_
      refine z_bipush S dX2_putExponent_47 (by decide +kernel) ?_
      refine z_idiv S dX2_putExponent_49 (by omega) (by omega) ?_
      refine z_bipush S dX2_putExponent_50 (by decide +kernel) ?_
      refine z_irem S dX2_putExponent_52 (by omega) (by omega) ?_
      refine z_callvV (C := RX2) (n := 1) (As := [.int (zI ((m1 / 10) % 10))]) (rest := []) (wr := []) (wn := (fun (u : (Nat → Int) × Int) => [(h, .inr (2, [.ref hw, .ref hn])), (hn, .inr (0, [.ref hc, .int (zI u.2)])), (hc, .inl (cC, 400, .inl (zA u.1)))])) S w (c_X2_putDigit l D cC h hw hn hc C42 len42 _ ((m1 / 10) % 10) (by first | exact p42.1 | exact t28) (by omega) (by omega)) gX2_putExponent_X2_putDigit (by decide +kernel) rfl ⟨rfl, rfl⟩ ⟨Nat.le_of_ble_eq_true rfl, Nat.le_of_ble_eq_true rfl⟩ [0] [0, 1, 2] [] [0, 1, 2] rfl rfl rfl rfl rfl (by decide) (fun u => rfl) rfl rfl rfl rfl rfl hl.1 (Nat.le_of_ble_eq_true rfl) ⟨Nat.le_of_ble_eq_true rfl, Nat.le_of_ble_eq_true rfl⟩ rfl dX2_putExponent_53 (fun u H locs p53 w => ?_)
      obtain ⟨C53, len53⟩ := u
      have p53 : lRep C53 len53 (_ ++ [48 + ((m1 / 10) % 10)]) ∧ len53 = len42 + 1 := p53
      have w : zW D _ _ s [(h, .inr (2, [.ref hw, .ref hn])), (hn, .inr (0, [.ref hc, .int (zI len53)])), (hc, .inl (cC, 400, .inl (zA C53)))] H locs := w
      refine lv_aload_n S.1 S.2.1 dX2_putExponent_56 rfl (lv_at hl 1 rfl) ?_
      refine lv_iload_n S.1 S.2.1 dX2_putExponent_57 rfl (lv_at hl 0 rfl) ?_
      refine z_bipush S dX2_putExponent_58 (by decide +kernel) ?_
      refine z_irem S dX2_putExponent_60 (by omega) (by omega) ?_
      refine z_callvV (C := RX2) (n := 1) (As := [.int (zI (m1 % 10))]) (rest := []) (wr := []) (wn := (fun (u : (Nat → Int) × Int) => [(h, .inr (2, [.ref hw, .ref hn])), (hn, .inr (0, [.ref hc, .int (zI u.2)])), (hc, .inl (cC, 400, .inl (zA u.1)))])) S w (c_X2_putDigit l D cC h hw hn hc C53 len53 _ (m1 % 10) p53.1 (by omega) (by omega)) gX2_putExponent_X2_putDigit (by decide +kernel) rfl ⟨rfl, rfl⟩ ⟨Nat.le_of_ble_eq_true rfl, Nat.le_of_ble_eq_true rfl⟩ [0] [0, 1, 2] [] [0, 1, 2] rfl rfl rfl rfl rfl (by decide) (fun u => rfl) rfl rfl rfl rfl rfl hl.1 (Nat.le_of_ble_eq_true rfl) ⟨Nat.le_of_ble_eq_true rfl, Nat.le_of_ble_eq_true rfl⟩ rfl dX2_putExponent_61 (fun u H locs p61 w => ?_)
      obtain ⟨C61, len61⟩ := u
      have p61 : lRep C61 len61 (_ ++ [48 + (m1 % 10)]) ∧ len61 = len53 + 1 := p61
      have w : zW D _ _ s [(h, .inr (2, [.ref hw, .ref hn])), (hn, .inr (0, [.ref hc, .int (zI len61)])), (hc, .inl (cC, 400, .inl (zA C61)))] H locs := w
      have k2_ : lRep C61 len61 (T ++ exT po mk) ∧ len61 = len + ((exT po mk).length : Int) := by
        have q1 := p61.1
        have e : exT po mk = [mk, if po < 0 then 45 else 43] ++ (if 100 ≤ m1 then [48 + m1 / 100] else []) ++ [48 + m1 / 10 % 10, 48 + m1 % 10] := by unfold exT; rw [ea]
        rw [e]
        first
          | (rw [if_pos (show po < 0 by omega), if_pos (show 100 ≤ m1 by omega)]; simp only [List.append_assoc, List.singleton_append, List.cons_append, List.nil_append, List.append_nil] at q1 ⊢; exact ⟨q1, by simp only [List.length_cons, List.length_nil]; omega⟩)
          | (rw [if_pos (show po < 0 by omega), if_neg (show ¬ 100 ≤ m1 by omega)]; simp only [List.append_assoc, List.singleton_append, List.cons_append, List.nil_append, List.append_nil] at q1 ⊢; exact ⟨q1, by simp only [List.length_cons, List.length_nil]; omega⟩)
          | (rw [if_neg (show ¬ po < 0 by omega), if_pos (show 100 ≤ m1 by omega)]; simp only [List.append_assoc, List.singleton_append, List.cons_append, List.nil_append, List.append_nil] at q1 ⊢; exact ⟨q1, by simp only [List.length_cons, List.length_nil]; omega⟩)
          | (rw [if_neg (show ¬ po < 0 by omega), if_neg (show ¬ 100 ≤ m1 by omega)]; simp only [List.append_assoc, List.singleton_append, List.cons_append, List.nil_append, List.append_nil] at q1 ⊢; exact ⟨q1, by simp only [List.length_cons, List.length_nil]; omega⟩)
      exact z_vret S hr hlk w (C61, len61) k2_ rfl dX2_putExponent_64
  · skip
    refine z_bipush S dX2_putExponent_21 (by decide +kernel) ?_
    refine lv_goto (tgt := 28) S.1 S.2.1 dX2_putExponent_23 (by decide) ?_
    refine z_callvV (C := RX0) (n := 1) (As := [.int (zI 45)]) (rest := []) (wr := [(h, .inr (2, [.ref hw, .ref hn]))]) (wn := (fun (u : (Nat → Int) × Int) => [(h, .inr (2, [.ref hw, .ref hn])), (hn, .inr (0, [.ref hc, .int (zI u.2)])), (hc, .inl (cC, 400, .inl (zA u.1)))])) S w (c_X0_put l D cC hn hc C10 len10 45 (by omega) (by omega)) gX2_putExponent_X0_put (by decide +kernel) rfl ⟨rfl, rfl⟩ ⟨Nat.le_of_ble_eq_true rfl, Nat.le_of_ble_eq_true rfl⟩ [0] [1, 2] [0] [0, 1, 2] rfl rfl rfl rfl rfl (by decide) (fun u => rfl) rfl rfl rfl rfl rfl hl.1 (Nat.le_of_ble_eq_true rfl) ⟨Nat.le_of_ble_eq_true rfl, Nat.le_of_ble_eq_true rfl⟩ rfl dX2_putExponent_28 (fun u H locs p28 w => ?_)
    obtain ⟨C28, len28⟩ := u
    have p28 : C28 = zu C10 len10.toNat (45 : Int) ∧ len28 = len10 + 1 := p28
    have w : zW D _ _ s [(h, .inr (2, [.ref hw, .ref hn])), (hn, .inr (0, [.ref hc, .int (zI len28)])), (hc, .inl (cC, 400, .inl (zA C28)))] H locs := w
    have t28 := lRep_put' t10 (by omega) p28
    refine lv_iload_n S.1 S.2.1 dX2_putExponent_31 rfl (lv_at hl 0 rfl) ?_
    refine z_bipush S dX2_putExponent_32 (by decide +kernel) ?_
    refine z_icmp_lt (tgt := 45) S dX2_putExponent_34 (by decide) (by omega) (by omega) (fun h34 => ?_) (fun h34 => ?_)
    · skip
      refine lv_aload_n S.1 S.2.1 dX2_putExponent_45 rfl (lv_at hl 1 rfl) ?_
      refine lv_iload_n S.1 S.2.1 dX2_putExponent_46 rfl (lv_at hl 0 rfl) ?_
      refine z_bipush S dX2_putExponent_47 (by decide +kernel) ?_
      refine z_idiv S dX2_putExponent_49 (by omega) (by omega) ?_
      refine z_bipush S dX2_putExponent_50 (by decide +kernel) ?_
      refine z_irem S dX2_putExponent_52 (by omega) (by omega) ?_
      refine z_callvV (C := RX2) (n := 1) (As := [.int (zI ((m1 / 10) % 10))]) (rest := []) (wr := []) (wn := (fun (u : (Nat → Int) × Int) => [(h, .inr (2, [.ref hw, .ref hn])), (hn, .inr (0, [.ref hc, .int (zI u.2)])), (hc, .inl (cC, 400, .inl (zA u.1)))])) S w (c_X2_putDigit l D cC h hw hn hc C28 len28 _ ((m1 / 10) % 10) (by first | exact p42.1 | exact t28) (by omega) (by omega)) gX2_putExponent_X2_putDigit (by decide +kernel) rfl ⟨rfl, rfl⟩ ⟨Nat.le_of_ble_eq_true rfl, Nat.le_of_ble_eq_true rfl⟩ [0] [0, 1, 2] [] [0, 1, 2] rfl rfl rfl rfl rfl (by decide) (fun u => rfl) rfl rfl rfl rfl rfl hl.1 (Nat.le_of_ble_eq_true rfl) ⟨Nat.le_of_ble_eq_true rfl, Nat.le_of_ble_eq_true rfl⟩ rfl dX2_putExponent_53 (fun u H locs p53 w => ?_)
      obtain ⟨C53, len53⟩ := u
      have p53 : lRep C53 len53 (_ ++ [48 + ((m1 / 10) % 10)]) ∧ len53 = len28 + 1 := p53
      have w : zW D _ _ s [(h, .inr (2, [.ref hw, .ref hn])), (hn, .inr (0, [.ref hc, .int (zI len53)])), (hc, .inl (cC, 400, .inl (zA C53)))] H locs := w
      refine lv_aload_n S.1 S.2.1 dX2_putExponent_56 rfl (lv_at hl 1 rfl) ?_
      refine lv_iload_n S.1 S.2.1 dX2_putExponent_57 rfl (lv_at hl 0 rfl) ?_
      refine z_bipush S dX2_putExponent_58 (by decide +kernel) ?_
      refine z_irem S dX2_putExponent_60 (by omega) (by omega) ?_
      refine z_callvV (C := RX2) (n := 1) (As := [.int (zI (m1 % 10))]) (rest := []) (wr := []) (wn := (fun (u : (Nat → Int) × Int) => [(h, .inr (2, [.ref hw, .ref hn])), (hn, .inr (0, [.ref hc, .int (zI u.2)])), (hc, .inl (cC, 400, .inl (zA u.1)))])) S w (c_X2_putDigit l D cC h hw hn hc C53 len53 _ (m1 % 10) p53.1 (by omega) (by omega)) gX2_putExponent_X2_putDigit (by decide +kernel) rfl ⟨rfl, rfl⟩ ⟨Nat.le_of_ble_eq_true rfl, Nat.le_of_ble_eq_true rfl⟩ [0] [0, 1, 2] [] [0, 1, 2] rfl rfl rfl rfl rfl (by decide) (fun u => rfl) rfl rfl rfl rfl rfl hl.1 (Nat.le_of_ble_eq_true rfl) ⟨Nat.le_of_ble_eq_true rfl, Nat.le_of_ble_eq_true rfl⟩ rfl dX2_putExponent_61 (fun u H locs p61 w => ?_)
      obtain ⟨C61, len61⟩ := u
      have p61 : lRep C61 len61 (_ ++ [48 + (m1 % 10)]) ∧ len61 = len53 + 1 := p61
      have w : zW D _ _ s [(h, .inr (2, [.ref hw, .ref hn])), (hn, .inr (0, [.ref hc, .int (zI len61)])), (hc, .inl (cC, 400, .inl (zA C61)))] H locs := w
      have k3_ : lRep C61 len61 (T ++ exT po mk) ∧ len61 = len + ((exT po mk).length : Int) := by
        have q1 := p61.1
        have e : exT po mk = [mk, if po < 0 then 45 else 43] ++ (if 100 ≤ m1 then [48 + m1 / 100] else []) ++ [48 + m1 / 10 % 10, 48 + m1 % 10] := by unfold exT; rw [ea]
        rw [e]
        first
          | (rw [if_pos (show po < 0 by omega), if_pos (show 100 ≤ m1 by omega)]; simp only [List.append_assoc, List.singleton_append, List.cons_append, List.nil_append, List.append_nil] at q1 ⊢; exact ⟨q1, by simp only [List.length_cons, List.length_nil]; omega⟩)
          | (rw [if_pos (show po < 0 by omega), if_neg (show ¬ 100 ≤ m1 by omega)]; simp only [List.append_assoc, List.singleton_append, List.cons_append, List.nil_append, List.append_nil] at q1 ⊢; exact ⟨q1, by simp only [List.length_cons, List.length_nil]; omega⟩)
          | (rw [if_neg (show ¬ po < 0 by omega), if_pos (show 100 ≤ m1 by omega)]; simp only [List.append_assoc, List.singleton_append, List.cons_append, List.nil_append, List.append_nil] at q1 ⊢; exact ⟨q1, by simp only [List.length_cons, List.length_nil]; omega⟩)
          | (rw [if_neg (show ¬ po < 0 by omega), if_neg (show ¬ 100 ≤ m1 by omega)]; simp only [List.append_assoc, List.singleton_append, List.cons_append, List.nil_append, List.append_nil] at q1 ⊢; exact ⟨q1, by simp only [List.length_cons, List.length_nil]; omega⟩)
      exact z_vret S hr hlk w (C61, len61) k3_ rfl dX2_putExponent_64
    · skip
      refine lv_aload_n S.1 S.2.1 dX2_putExponent_37 rfl (lv_at hl 1 rfl) ?_
      refine lv_iload_n S.1 S.2.1 dX2_putExponent_38 rfl (lv_at hl 0 rfl) ?_
      refine z_bipush S dX2_putExponent_39 (by decide +kernel) ?_
      refine z_idiv S dX2_putExponent_41 (by omega) (by omega) ?_
      refine z_callvV (C := RX2) (n := 1) (As := [.int (zI (m1 / 100))]) (rest := []) (wr := []) (wn := (fun (u : (Nat → Int) × Int) => [(h, .inr (2, [.ref hw, .ref hn])), (hn, .inr (0, [.ref hc, .int (zI u.2)])), (hc, .inl (cC, 400, .inl (zA u.1)))])) S w (c_X2_putDigit l D cC h hw hn hc C28 len28 _ (m1 / 100) t28 (by omega) (by omega)) gX2_putExponent_X2_putDigit (by decide +kernel) rfl ⟨rfl, rfl⟩ ⟨Nat.le_of_ble_eq_true rfl, Nat.le_of_ble_eq_true rfl⟩ [0] [0, 1, 2] [] [0, 1, 2] rfl rfl rfl rfl rfl (by decide) (fun u => rfl) rfl rfl rfl rfl rfl hl.1 (Nat.le_of_ble_eq_true rfl) ⟨Nat.le_of_ble_eq_true rfl, Nat.le_of_ble_eq_true rfl⟩ rfl dX2_putExponent_42 (fun u H locs p42 w => ?_)
      obtain ⟨C42, len42⟩ := u
      have p42 : lRep C42 len42 (_ ++ [48 + (m1 / 100)]) ∧ len42 = len28 + 1 := p42
      have w : zW D _ _ s [(h, .inr (2, [.ref hw, .ref hn])), (hn, .inr (0, [.ref hc, .int (zI len42)])), (hc, .inl (cC, 400, .inl (zA C42)))] H locs := w
      refine lv_aload_n S.1 S.2.1 dX2_putExponent_45 rfl (lv_at hl 1 rfl) ?_
      refine lv_iload_n S.1 S.2.1 dX2_putExponent_46 rfl (lv_at hl 0 rfl) ?_
      refine z_bipush S dX2_putExponent_47 (by decide +kernel) ?_
      refine z_idiv S dX2_putExponent_49 (by omega) (by omega) ?_
      refine z_bipush S dX2_putExponent_50 (by decide +kernel) ?_
      refine z_irem S dX2_putExponent_52 (by omega) (by omega) ?_
      refine z_callvV (C := RX2) (n := 1) (As := [.int (zI ((m1 / 10) % 10))]) (rest := []) (wr := []) (wn := (fun (u : (Nat → Int) × Int) => [(h, .inr (2, [.ref hw, .ref hn])), (hn, .inr (0, [.ref hc, .int (zI u.2)])), (hc, .inl (cC, 400, .inl (zA u.1)))])) S w (c_X2_putDigit l D cC h hw hn hc C42 len42 _ ((m1 / 10) % 10) (by first | exact p42.1 | exact t28) (by omega) (by omega)) gX2_putExponent_X2_putDigit (by decide +kernel) rfl ⟨rfl, rfl⟩ ⟨Nat.le_of_ble_eq_true rfl, Nat.le_of_ble_eq_true rfl⟩ [0] [0, 1, 2] [] [0, 1, 2] rfl rfl rfl rfl rfl (by decide) (fun u => rfl) rfl rfl rfl rfl rfl hl.1 (Nat.le_of_ble_eq_true rfl) ⟨Nat.le_of_ble_eq_true rfl, Nat.le_of_ble_eq_true rfl⟩ rfl dX2_putExponent_53 (fun u H locs p53 w => ?_)
      obtain ⟨C53, len53⟩ := u
      have p53 : lRep C53 len53 (_ ++ [48 + ((m1 / 10) % 10)]) ∧ len53 = len42 + 1 := p53
      have w : zW D _ _ s [(h, .inr (2, [.ref hw, .ref hn])), (hn, .inr (0, [.ref hc, .int (zI len53)])), (hc, .inl (cC, 400, .inl (zA C53)))] H locs := w
      refine lv_aload_n S.1 S.2.1 dX2_putExponent_56 rfl (lv_at hl 1 rfl) ?_
      refine lv_iload_n S.1 S.2.1 dX2_putExponent_57 rfl (lv_at hl 0 rfl) ?_
      refine z_bipush S dX2_putExponent_58 (by decide +kernel) ?_
      refine z_irem S dX2_putExponent_60 (by omega) (by omega) ?_
      refine z_callvV (C := RX2) (n := 1) (As := [.int (zI (m1 % 10))]) (rest := []) (wr := []) (wn := (fun (u : (Nat → Int) × Int) => [(h, .inr (2, [.ref hw, .ref hn])), (hn, .inr (0, [.ref hc, .int (zI u.2)])), (hc, .inl (cC, 400, .inl (zA u.1)))])) S w (c_X2_putDigit l D cC h hw hn hc C53 len53 _ (m1 % 10) p53.1 (by omega) (by omega)) gX2_putExponent_X2_putDigit (by decide +kernel) rfl ⟨rfl, rfl⟩ ⟨Nat.le_of_ble_eq_true rfl, Nat.le_of_ble_eq_true rfl⟩ [0] [0, 1, 2] [] [0, 1, 2] rfl rfl rfl rfl rfl (by decide) (fun u => rfl) rfl rfl rfl rfl rfl hl.1 (Nat.le_of_ble_eq_true rfl) ⟨Nat.le_of_ble_eq_true rfl, Nat.le_of_ble_eq_true rfl⟩ rfl dX2_putExponent_61 (fun u H locs p61 w => ?_)
      obtain ⟨C61, len61⟩ := u
      have p61 : lRep C61 len61 (_ ++ [48 + (m1 % 10)]) ∧ len61 = len53 + 1 := p61
      have w : zW D _ _ s [(h, .inr (2, [.ref hw, .ref hn])), (hn, .inr (0, [.ref hc, .int (zI len61)])), (hc, .inl (cC, 400, .inl (zA C61)))] H locs := w
      have k4_ : lRep C61 len61 (T ++ exT po mk) ∧ len61 = len + ((exT po mk).length : Int) := by
        have q1 := p61.1
        have e : exT po mk = [mk, if po < 0 then 45 else 43] ++ (if 100 ≤ m1 then [48 + m1 / 100] else []) ++ [48 + m1 / 10 % 10, 48 + m1 % 10] := by unfold exT; rw [ea]
        rw [e]
        first
          | (rw [if_pos (show po < 0 by omega), if_pos (show 100 ≤ m1 by omega)]; simp only [List.append_assoc, List.singleton_append, List.cons_append, List.nil_append, List.append_nil] at q1 ⊢; exact ⟨q1, by simp only [List.length_cons, List.length_nil]; omega⟩)
          | (rw [if_pos (show po < 0 by omega), if_neg (show ¬ 100 ≤ m1 by omega)]; simp only [List.append_assoc, List.singleton_append, List.cons_append, List.nil_append, List.append_nil] at q1 ⊢; exact ⟨q1, by simp only [List.length_cons, List.length_nil]; omega⟩)
          | (rw [if_neg (show ¬ po < 0 by omega), if_pos (show 100 ≤ m1 by omega)]; simp only [List.append_assoc, List.singleton_append, List.cons_append, List.nil_append, List.append_nil] at q1 ⊢; exact ⟨q1, by simp only [List.length_cons, List.length_nil]; omega⟩)
          | (rw [if_neg (show ¬ po < 0 by omega), if_neg (show ¬ 100 ≤ m1 by omega)]; simp only [List.append_assoc, List.singleton_append, List.cons_append, List.nil_append, List.append_nil] at q1 ⊢; exact ⟨q1, by simp only [List.length_cons, List.length_nil]; omega⟩)
      exact z_vret S hr hlk w (C61, len61) k4_ rfl dX2_putExponent_64

set_option maxRecDepth 20000 in
theorem ln_X2_pad_19 : Cond.fieldLink RX2 19 "DecimalText" "line" "LDecimalText$Line;" ∈ wsX2_pad := by decide +kernel
theorem in_X2_pad_X2 : ∀ w ∈ u_ws RX2 TX2 2, w ∈ wsX2_pad := by decide +kernel
set_option maxHeartbeats 4000000 in
set_option maxRecDepth 100000 in
theorem c_X2_pad (l : Launch) (D : va_G) (cC : ClassId) (h : Nat) (hw : Nat) (hn : Nat) (hc : Nat) (C : Nat → Int) (len : Int) (T : List Int) (bs : Int) (mi : Int) (fin : Int) (fl : Int) (hT : lRep C len T) (hlen : len ≤ 400) (hbs : 0 ≤ bs ∧ bs ≤ len) (hmi : -1000 ≤ mi ∧ mi ≤ 400 - len) (hfin : fin = 0 ∨ fin = 1) (hfl : 0 ≤ fl ∧ fl ≤ 31) : zMv (T := (Nat → Int) × Int) l yX2_pad wsX2_pad ({ frames := 1, cells := 0, slots := 0, locals := 24 } : Room) D [(cC, .char)] [.ref h, .int (zI bs), .int (zI mi), .int (zI fin), .int (zI fl)] [(h, .inr (2, [.ref hw, .ref hn])), (hn, .inr (0, [.ref hc, .int (zI len)])), (hc, .inl (cC, 400, .inl (zA C)))] (fun (u : (Nat → Int) × Int) => tRep u.1 u.2 (padT T bs mi fin fl)) (fun (u : (Nat → Int) × Int) => [(h, .inr (2, [.ref hw, .ref hn])), (hn, .inr (0, [.ref hc, .int (zI u.2)])), (hc, .inl (cC, 400, .inl (zA u.1)))]) 0 0 := by
  refine zMv.of (bytes := cX2_pad) (nL := 5) (own := RX2) (by decide) rfl rfl (Nat.le_of_ble_eq_true rfl) ?_
  intro p e s m below meth c ls S hr hlk hnm w hl
  have hl : lv_has ls 5 [(0, .ref h), (1, .int (zI bs)), (2, .int (zI mi)), (3, .int (zI fin)), (4, .int (zI fl))] := hl
  have hl0 := hT.1.1
  have hCr := hT.2
  refine lv_iload S.1 S.2.1 dX2_pad_0 (lv_at hl 4 rfl) ?_
  refine z_iconst S dX2_pad_2 ?_
  refine z_calliS (n := 2) (As := [.int (zI fl), .int (zI 1)]) (rest := []) (wr := [(h, .inr (2, [.ref hw, .ref hn])), (hn, .inr (0, [.ref hc, .int (zI len)])), (hc, .inl (cC, 400, .inl (zA C)))]) (wn := (fun (u : Unit) => [(h, .inr (2, [.ref hw, .ref hn])), (hn, .inr (0, [.ref hc, .int (zI len)])), (hc, .inl (cC, 400, .inl (zA C)))])) S w (c_X2_has l D fl 1 (by omega) (by decide)) gX2_pad_X2_has (by decide +kernel) rfl ⟨rfl, rfl⟩ ⟨Nat.le_of_ble_eq_true rfl, Nat.le_of_ble_eq_true rfl⟩ [] [] [0, 1, 2] [0, 1, 2] rfl rfl rfl rfl rfl (by decide) (fun u => rfl) rfl rfl hl.1 (Nat.le_of_ble_eq_true rfl) ⟨Nat.le_of_ble_eq_true rfl, Nat.le_of_ble_eq_true rfl⟩ rfl dX2_pad_3 (fun z3 _ H locs p3 w => ?_)
  have p3 : (z3 = 1 ∧ fl / (1 : Int) % 2 = 1) ∨ (z3 = 0 ∧ fl / (1 : Int) % 2 ≠ 1) := p3
  have w : zW D _ _ s [(h, .inr (2, [.ref hw, .ref hn])), (hn, .inr (0, [.ref hc, .int (zI len)])), (hc, .inl (cC, 400, .inl (zA C)))] H locs := w
  refine z_if_eq (tgt := 29) S dX2_pad_6 (by decide) (by omega) (fun h6 => ?_) (fun h6 => ?_)
  · skip
    refine lv_iload S.1 S.2.1 dX2_pad_29 (lv_at hl 4 rfl) ?_
    refine z_bipush S dX2_pad_31 (by decide +kernel) ?_
    refine z_calliS (n := 2) (As := [.int (zI fl), .int (zI 8)]) (rest := []) (wr := [(h, .inr (2, [.ref hw, .ref hn])), (hn, .inr (0, [.ref hc, .int (zI len)])), (hc, .inl (cC, 400, .inl (zA C)))]) (wn := (fun (u : Unit) => [(h, .inr (2, [.ref hw, .ref hn])), (hn, .inr (0, [.ref hc, .int (zI len)])), (hc, .inl (cC, 400, .inl (zA C)))])) S w (c_X2_has l D fl 8 (by omega) (by decide)) gX2_pad_X2_has (by decide +kernel) rfl ⟨rfl, rfl⟩ ⟨Nat.le_of_ble_eq_true rfl, Nat.le_of_ble_eq_true rfl⟩ [] [] [0, 1, 2] [0, 1, 2] rfl rfl rfl rfl rfl (by decide) (fun u => rfl) rfl rfl hl.1 (Nat.le_of_ble_eq_true rfl) ⟨Nat.le_of_ble_eq_true rfl, Nat.le_of_ble_eq_true rfl⟩ rfl dX2_pad_33 (fun z33 _ H locs p33 w => ?_)
    have p33 : (z33 = 1 ∧ fl / (8 : Int) % 2 = 1) ∨ (z33 = 0 ∧ fl / (8 : Int) % 2 ≠ 1) := p33
    have w : zW D _ _ s [(h, .inr (2, [.ref hw, .ref hn])), (hn, .inr (0, [.ref hc, .int (zI len)])), (hc, .inl (cC, 400, .inl (zA C)))] H locs := w
    refine z_if_eq (tgt := 57) S dX2_pad_36 (by decide) (by omega) (fun h36 => ?_) (fun h36 => ?_)
    · skip
      refine lv_aload_n S.1 S.2.1 dX2_pad_57 rfl (lv_at hl 0 rfl) ?_
      refine z_get (ci := 2) (C := RX2) (T := TX2) (N := 2) S w 0 rfl rfl in_X2_pad_X2 1 (by decide) ln_X2_pad_19 rfl rfl dX2_pad_58 ?_
      refine z_iconst S dX2_pad_61 ?_
      refine lv_iload_n S.1 S.2.1 dX2_pad_62 rfl (lv_at hl 2 rfl) ?_
      refine z_bipush S dX2_pad_63 (by decide +kernel) ?_
      refine z_callvV (C := RX0) (n := 3) (As := [.int (zI 0), .int (zI mi), .int (zI 32)]) (rest := []) (wr := [(h, .inr (2, [.ref hw, .ref hn]))]) (wn := (fun (u : (Nat → Int) × Int) => [(h, .inr (2, [.ref hw, .ref hn])), (hn, .inr (0, [.ref hc, .int (zI u.2)])), (hc, .inl (cC, 400, .inl (zA u.1)))])) S w (c_X0_insert l D cC hn hc C len 0 mi 32 (by omega) (by omega) (by omega) (by omega) hCr) gX2_pad_X0_insert (by decide +kernel) rfl ⟨rfl, rfl⟩ ⟨Nat.le_of_ble_eq_true rfl, Nat.le_of_ble_eq_true rfl⟩ [0] [1, 2] [0] [0, 1, 2] rfl rfl rfl rfl rfl (by decide) (fun u => rfl) rfl rfl rfl rfl rfl hl.1 (Nat.le_of_ble_eq_true rfl) ⟨Nat.le_of_ble_eq_true rfl, Nat.le_of_ble_eq_true rfl⟩ rfl dX2_pad_65 (fun u H locs p65 w => ?_)
      obtain ⟨C65, len65⟩ := u
      have p65 : (mi ≤ 0 → C65 = C ∧ len65 = len) ∧ (0 < mi → len65 = len + mi ∧ ∀ j : Nat, (j : Int) < len + mi → C65 j = if (j : Int) < (0 : Int) then C j else if (j : Int) < (0 : Int) + mi then (32 : Int) else C (j - mi.toNat)) := p65
      have w : zW D _ _ s [(h, .inr (2, [.ref hw, .ref hn])), (hn, .inr (0, [.ref hc, .int (zI len65)])), (hc, .inl (cC, 400, .inl (zA C65)))] H locs := w
      have k1_ : tRep C65 len65 (padT T bs mi fin fl) := by
        unfold padT
        by_cases q : mi ≤ 0
        · rw [if_pos q, (p65.1 q).1, (p65.1 q).2]; exact hT.1
        · rw [if_neg q, if_neg (by omega), if_neg (by omega), (p65.2 (by omega)).1]
          exact tRep_ins hT.1 (pl := 0) (by omega) (by omega : 0 < mi) (p65.2 (by omega)).2
      exact z_vret S hr hlk w (C65, len65) k1_ rfl dX2_pad_68
    · skip
      refine lv_iload_n S.1 S.2.1 dX2_pad_39 rfl (lv_at hl 3 rfl) ?_
      refine z_if_eq (tgt := 57) S dX2_pad_40 (by decide) (by omega) (fun h40 => ?_) (fun h40 => ?_)
      · skip
        refine lv_aload_n S.1 S.2.1 dX2_pad_57 rfl (lv_at hl 0 rfl) ?_
        refine z_get (ci := 2) (C := RX2) (T := TX2) (N := 2) S w 0 rfl rfl in_X2_pad_X2 1 (by decide) ln_X2_pad_19 rfl rfl dX2_pad_58 ?_
        refine z_iconst S dX2_pad_61 ?_
        refine lv_iload_n S.1 S.2.1 dX2_pad_62 rfl (lv_at hl 2 rfl) ?_
        refine z_bipush S dX2_pad_63 (by decide +kernel) ?_
        refine z_callvV (C := RX0) (n := 3) (As := [.int (zI 0), .int (zI mi), .int (zI 32)]) (rest := []) (wr := [(h, .inr (2, [.ref hw, .ref hn]))]) (wn := (fun (u : (Nat → Int) × Int) => [(h, .inr (2, [.ref hw, .ref hn])), (hn, .inr (0, [.ref hc, .int (zI u.2)])), (hc, .inl (cC, 400, .inl (zA u.1)))])) S w (c_X0_insert l D cC hn hc C len 0 mi 32 (by omega) (by omega) (by omega) (by omega) hCr) gX2_pad_X0_insert (by decide +kernel) rfl ⟨rfl, rfl⟩ ⟨Nat.le_of_ble_eq_true rfl, Nat.le_of_ble_eq_true rfl⟩ [0] [1, 2] [0] [0, 1, 2] rfl rfl rfl rfl rfl (by decide) (fun u => rfl) rfl rfl rfl rfl rfl hl.1 (Nat.le_of_ble_eq_true rfl) ⟨Nat.le_of_ble_eq_true rfl, Nat.le_of_ble_eq_true rfl⟩ rfl dX2_pad_65 (fun u H locs p65 w => ?_)
        obtain ⟨C65, len65⟩ := u
        have p65 : (mi ≤ 0 → C65 = C ∧ len65 = len) ∧ (0 < mi → len65 = len + mi ∧ ∀ j : Nat, (j : Int) < len + mi → C65 j = if (j : Int) < (0 : Int) then C j else if (j : Int) < (0 : Int) + mi then (32 : Int) else C (j - mi.toNat)) := p65
        have w : zW D _ _ s [(h, .inr (2, [.ref hw, .ref hn])), (hn, .inr (0, [.ref hc, .int (zI len65)])), (hc, .inl (cC, 400, .inl (zA C65)))] H locs := w
        have k2_ : tRep C65 len65 (padT T bs mi fin fl) := by
          unfold padT
          by_cases q : mi ≤ 0
          · rw [if_pos q, (p65.1 q).1, (p65.1 q).2]; exact hT.1
          · rw [if_neg q, if_neg (by omega), if_neg (by omega), (p65.2 (by omega)).1]
            exact tRep_ins hT.1 (pl := 0) (by omega) (by omega : 0 < mi) (p65.2 (by omega)).2
        exact z_vret S hr hlk w (C65, len65) k2_ rfl dX2_pad_68
      · skip
        refine lv_aload_n S.1 S.2.1 dX2_pad_43 rfl (lv_at hl 0 rfl) ?_
        refine z_get (ci := 2) (C := RX2) (T := TX2) (N := 2) S w 0 rfl rfl in_X2_pad_X2 1 (by decide) ln_X2_pad_19 rfl rfl dX2_pad_44 ?_
        refine lv_iload_n S.1 S.2.1 dX2_pad_47 rfl (lv_at hl 1 rfl) ?_
        refine lv_iload_n S.1 S.2.1 dX2_pad_48 rfl (lv_at hl 2 rfl) ?_
        refine z_bipush S dX2_pad_49 (by decide +kernel) ?_
        refine z_callvV (C := RX0) (n := 3) (As := [.int (zI bs), .int (zI mi), .int (zI 48)]) (rest := []) (wr := [(h, .inr (2, [.ref hw, .ref hn]))]) (wn := (fun (u : (Nat → Int) × Int) => [(h, .inr (2, [.ref hw, .ref hn])), (hn, .inr (0, [.ref hc, .int (zI u.2)])), (hc, .inl (cC, 400, .inl (zA u.1)))])) S w (c_X0_insert l D cC hn hc C len bs mi 48 (by omega) (by omega) (by omega) (by omega) hCr) gX2_pad_X0_insert (by decide +kernel) rfl ⟨rfl, rfl⟩ ⟨Nat.le_of_ble_eq_true rfl, Nat.le_of_ble_eq_true rfl⟩ [0] [1, 2] [0] [0, 1, 2] rfl rfl rfl rfl rfl (by decide) (fun u => rfl) rfl rfl rfl rfl rfl hl.1 (Nat.le_of_ble_eq_true rfl) ⟨Nat.le_of_ble_eq_true rfl, Nat.le_of_ble_eq_true rfl⟩ rfl dX2_pad_51 (fun u H locs p51 w => ?_)
        obtain ⟨C51, len51⟩ := u
        have p51 : (mi ≤ 0 → C51 = C ∧ len51 = len) ∧ (0 < mi → len51 = len + mi ∧ ∀ j : Nat, (j : Int) < len + mi → C51 j = if (j : Int) < bs then C j else if (j : Int) < bs + mi then (48 : Int) else C (j - mi.toNat)) := p51
        have w : zW D _ _ s [(h, .inr (2, [.ref hw, .ref hn])), (hn, .inr (0, [.ref hc, .int (zI len51)])), (hc, .inl (cC, 400, .inl (zA C51)))] H locs := w
        refine lv_goto (tgt := 68) S.1 S.2.1 dX2_pad_54 (by decide) ?_
        have k3_ : tRep C51 len51 (padT T bs mi fin fl) := by
          unfold padT
          by_cases q : mi ≤ 0
          · rw [if_pos q, (p51.1 q).1, (p51.1 q).2]; exact hT.1
          · rw [if_neg q, if_neg (by omega), if_pos (by omega), (p51.2 (by omega)).1]
            exact tRep_ins hT.1 (by omega) (by omega : 0 < mi) (p51.2 (by omega)).2
        exact z_vret S hr hlk w (C51, len51) k3_ rfl dX2_pad_68
  · skip
    refine lv_aload_n S.1 S.2.1 dX2_pad_9 rfl (lv_at hl 0 rfl) ?_
    refine z_get (ci := 2) (C := RX2) (T := TX2) (N := 2) S w 0 rfl rfl in_X2_pad_X2 1 (by decide) ln_X2_pad_19 rfl rfl dX2_pad_10 ?_
    refine lv_aload_n S.1 S.2.1 dX2_pad_13 rfl (lv_at hl 0 rfl) ?_
    refine z_get (ci := 2) (C := RX2) (T := TX2) (N := 2) S w 0 rfl rfl in_X2_pad_X2 1 (by decide) ln_X2_pad_19 rfl rfl dX2_pad_14 ?_
    refine z_calliV (C := RX0) (n := 0) (As := []) (rest := [.ref hn]) (wr := [(h, .inr (2, [.ref hw, .ref hn]))]) (wn := (fun (u : Unit) => [(h, .inr (2, [.ref hw, .ref hn])), (hn, .inr (0, [.ref hc, .int (zI len)])), (hc, .inl (cC, 400, .inl (zA C)))])) S w (c_X0_length l D cC hn hc C len) gX2_pad_X0_length (by decide +kernel) rfl ⟨rfl, rfl⟩ ⟨Nat.le_of_ble_eq_true rfl, Nat.le_of_ble_eq_true rfl⟩ [0] [1, 2] [0] [0, 1, 2] rfl rfl rfl rfl rfl (by decide) (fun u => rfl) rfl rfl rfl rfl rfl hl.1 (Nat.le_of_ble_eq_true rfl) ⟨Nat.le_of_ble_eq_true rfl, Nat.le_of_ble_eq_true rfl⟩ rfl dX2_pad_17 (fun z17 _ H locs p17 w => ?_)
    have p17 : z17 = len := p17
    have w : zW D _ _ s [(h, .inr (2, [.ref hw, .ref hn])), (hn, .inr (0, [.ref hc, .int (zI len)])), (hc, .inl (cC, 400, .inl (zA C)))] H locs := w
    refine lv_iload_n S.1 S.2.1 dX2_pad_20 rfl (lv_at hl 2 rfl) ?_
    refine z_bipush S dX2_pad_21 (by decide +kernel) ?_
    refine z_callvV (C := RX0) (n := 3) (As := [.int (zI z17), .int (zI mi), .int (zI 32)]) (rest := []) (wr := [(h, .inr (2, [.ref hw, .ref hn]))]) (wn := (fun (u : (Nat → Int) × Int) => [(h, .inr (2, [.ref hw, .ref hn])), (hn, .inr (0, [.ref hc, .int (zI u.2)])), (hc, .inl (cC, 400, .inl (zA u.1)))])) S w (c_X0_insert l D cC hn hc C len z17 mi 32 (by omega) (by omega) (by omega) (by omega) hCr) gX2_pad_X0_insert (by decide +kernel) rfl ⟨rfl, rfl⟩ ⟨Nat.le_of_ble_eq_true rfl, Nat.le_of_ble_eq_true rfl⟩ [0] [1, 2] [0] [0, 1, 2] rfl rfl rfl rfl rfl (by decide) (fun u => rfl) rfl rfl rfl rfl rfl hl.1 (Nat.le_of_ble_eq_true rfl) ⟨Nat.le_of_ble_eq_true rfl, Nat.le_of_ble_eq_true rfl⟩ rfl dX2_pad_23 (fun u H locs p23 w => ?_)
    obtain ⟨C23, len23⟩ := u
    have p23 : (mi ≤ 0 → C23 = C ∧ len23 = len) ∧ (0 < mi → len23 = len + mi ∧ ∀ j : Nat, (j : Int) < len + mi → C23 j = if (j : Int) < z17 then C j else if (j : Int) < z17 + mi then (32 : Int) else C (j - mi.toNat)) := p23
    have w : zW D _ _ s [(h, .inr (2, [.ref hw, .ref hn])), (hn, .inr (0, [.ref hc, .int (zI len23)])), (hc, .inl (cC, 400, .inl (zA C23)))] H locs := w
    refine lv_goto (tgt := 68) S.1 S.2.1 dX2_pad_26 (by decide) ?_
    have k4_ : tRep C23 len23 (padT T bs mi fin fl) := by
      unfold padT
      by_cases q : mi ≤ 0
      · rw [if_pos q, (p23.1 q).1, (p23.1 q).2]; exact hT.1
      · rw [if_neg q, if_pos (by omega), (p23.2 (by omega)).1]
        have r := tRep_ins hT.1 (pl := z17) (by omega) (by omega : 0 < mi) (p23.2 (by omega)).2
        have e : z17.toNat = T.length := by omega
        rw [e, List.take_length, List.drop_length, List.append_nil] at r
        exact r
    exact z_vret S hr hlk w (C23, len23) k4_ rfl dX2_pad_68
end
section
set_option maxRecDepth 20000 in
theorem ln_X2_putDigits_12 : Cond.fieldLink RX2 12 "DecimalText" "worth" "LDecimalText$Worth;" ∈ wsX2_putDigits := by decide +kernel
theorem in_X2_putDigits_X2 : ∀ w ∈ u_ws RX2 TX2 2, w ∈ wsX2_putDigits := by decide +kernel
set_option maxHeartbeats 4000000 in
set_option maxRecDepth 100000 in
theorem c_X2_putDigits (l : Launch) (D : va_G) (cL cR cC : ClassId) (h : Nat) (hw : Nat) (ha : Nat) (hr1 : Nat) (hn : Nat) (hc : Nat) (L : Nat → Int) (lc : Int) (Rw : Nat → Int) (cnt : Int) (dec : Int) (C : Nat → Int) (len : Int) (T : List Int) (fr : Int) (to : Int) (hT : lRep C len T) (h9 : ∀ j : Nat, j < 774 → 0 ≤ Rw j ∧ Rw j ≤ 9) (hdec : 0 ≤ dec ∧ dec ≤ 1074) (hfr : -1500 ≤ fr ∧ fr ≤ 1500 ∧ -1500 ≤ to ∧ to ≤ 1500) (hlen : len ≤ 400 ∧ len + (fr - to + 1) ≤ 400) : zMv (T := (Nat → Int) × Int) l yX2_putDigits wsX2_putDigits ({ frames := 2, cells := 0, slots := 0, locals := 42 } : Room) D [(cL, .int), (cR, .int), (cC, .char)] [.ref h, .int (zI fr), .int (zI to)] [(h, .inr (2, [.ref hw, .ref hn])), (hw, .inr (1, [.ref ha, .int (zI lc), .ref hr1, .int (zI cnt), .int (zI dec)])), (ha, .inl (cL, 86, .inl (zA L))), (hr1, .inl (cR, 774, .inl (zA Rw))), (hn, .inr (0, [.ref hc, .int (zI len)])), (hc, .inl (cC, 400, .inl (zA C)))] (fun (u : (Nat → Int) × Int) => lRep u.1 u.2 (T ++ dT (fun x9 => dI Rw (x9 + dec)) fr to) ∧ u.2 = len + ((fr - to + 1).toNat : Int)) (fun (u : (Nat → Int) × Int) => [(h, .inr (2, [.ref hw, .ref hn])), (hw, .inr (1, [.ref ha, .int (zI lc), .ref hr1, .int (zI cnt), .int (zI dec)])), (ha, .inl (cL, 86, .inl (zA L))), (hr1, .inl (cR, 774, .inl (zA Rw))), (hn, .inr (0, [.ref hc, .int (zI u.2)])), (hc, .inl (cC, 400, .inl (zA u.1)))]) 0 0 := by
  refine zMv.of (bytes := cX2_putDigits) (nL := 4) (own := RX2) (by decide) rfl rfl (Nat.le_of_ble_eq_true rfl) ?_
  intro p e s m below meth c ls S hr hlk hnm w hl
  have lab2 : ∀ (n : Nat) (C1 : Nat → Int) (len1 : Int) (q : Int), (q - to + 1).toNat < n → ((q ≤ fr ∧ to - 1 ≤ q) ∨ q = fr) → (lRep C1 len1 (T ++ dT (fun x9 => dI Rw (x9 + dec)) fr (q + 1))) → (len1 = len + (fr - q)) → ∀ (H : Heap) (locs : List Loc) (ls : Array Slot), zW D [(cL, .int), (cR, .int), (cC, .char)] (va_A [(h, .inr (2, [.ref hw, .ref hn])), (hw, .inr (1, [.ref ha, .int (zI lc), .ref hr1, .int (zI cnt), .int (zI dec)])), (ha, .inl (cL, 86, .inl (zA L))), (hr1, .inl (cR, 774, .inl (zA Rw))), (hn, .inr (0, [.ref hc, .int (zI len)])), (hc, .inl (cC, 400, .inl (zA C)))] s.heap.size) s [(h, .inr (2, [.ref hw, .ref hn])), (hw, .inr (1, [.ref ha, .int (zI lc), .ref hr1, .int (zI cnt), .int (zI dec)])), (ha, .inl (cL, 86, .inl (zA L))), (hr1, .inl (cR, 774, .inl (zA Rw))), (hn, .inr (0, [.ref hc, .int (zI len1)])), (hc, .inl (cC, 400, .inl (zA C1)))] H locs → lv_has ls 4 [(0, .ref h), (2, .int (zI to)), (3, .int (zI q))] → W p l e ({ frames := 2, cells := 0, slots := 0, locals := 42 } : Room) s m ([.ref h, .int (zI fr), .int (zI to)] : List Value).toArray below meth c H locs 0 0 (MQ below (zQv D [(cL, .int), (cR, .int), (cC, .char)] [(h, .inr (2, [.ref hw, .ref hn])), (hw, .inr (1, [.ref ha, .int (zI lc), .ref hr1, .int (zI cnt), .int (zI dec)])), (ha, .inl (cL, 86, .inl (zA L))), (hr1, .inl (cR, 774, .inl (zA Rw))), (hn, .inr (0, [.ref hc, .int (zI len)])), (hc, .inl (cC, 400, .inl (zA C)))] s.heap.size (fun (u : (Nat → Int) × Int) => lRep u.1 u.2 (T ++ dT (fun x9 => dI Rw (x9 + dec)) fr to) ∧ u.2 = len + ((fr - to + 1).toNat : Int)) (fun (u : (Nat → Int) × Int) => [(h, .inr (2, [.ref hw, .ref hn])), (hw, .inr (1, [.ref ha, .int (zI lc), .ref hr1, .int (zI cnt), .int (zI dec)])), (ha, .inl (cL, 86, .inl (zA L))), (hr1, .inl (cR, 774, .inl (zA Rw))), (hn, .inr (0, [.ref hc, .int (zI u.2)])), (hc, .inl (cC, 400, .inl (zA u.1)))])) ([.ref h, .int (zI fr), .int (zI to)] : List Value).toArray s 0 0 (va_A [(h, .inr (2, [.ref hw, .ref hn])), (hw, .inr (1, [.ref ha, .int (zI lc), .ref hr1, .int (zI cnt), .int (zI dec)])), (ha, .inl (cL, 86, .inl (zA L))), (hr1, .inl (cR, 774, .inl (zA Rw))), (hn, .inr (0, [.ref hc, .int (zI len)])), (hc, .inl (cC, 400, .inl (zA C)))] s.heap.size)) (F0 m 2 ls []) := by
    intro n
    induction n with
    | zero => intro C1 len1 q hm; exact absurd hm (Nat.not_lt_zero _)
    | succ n ih =>
      intro C1 len1 q hm hq t1 hl1 H locs ls w hl
      refine lv_iload_n S.1 S.2.1 dX2_putDigits_2 rfl (lv_at hl 2 rfl) ?_
      refine lv_iload_n S.1 S.2.1 dX2_putDigits_3 rfl (lv_at hl 1 rfl) ?_
      refine z_icmp_lt (tgt := 25) S dX2_putDigits_4 (by decide) (by omega) (by omega) (fun h4 => ?_) (fun h4 => ?_)
      · skip
        have k1_ : lRep C1 len1 (T ++ dT (fun x9 => dI Rw (x9 + dec)) fr to) ∧ len1 = len + ((fr - to + 1).toNat : Int) := by
          refine ⟨?_, by omega⟩
          by_cases k : q + 1 = to
          · rw [← k]; exact t1
          · rw [dT_nil _ (by omega : fr < to)]
            rw [dT_nil _ (by omega : fr < q + 1)] at t1
            exact t1
        exact z_vret S hr hlk w (C1, len1) k1_ rfl dX2_putDigits_25
      · skip
        refine lv_aload_n S.1 S.2.1 dX2_putDigits_7 rfl (lv_at hl 0 rfl) ?_
        refine lv_aload_n S.1 S.2.1 dX2_putDigits_8 rfl (lv_at hl 0 rfl) ?_
        refine z_get (ci := 2) (C := RX2) (T := TX2) (N := 2) S w 0 rfl rfl in_X2_putDigits_X2 0 (by decide) ln_X2_putDigits_12 rfl rfl dX2_putDigits_9 ?_
        refine lv_iload_n S.1 S.2.1 dX2_putDigits_12 rfl (lv_at hl 2 rfl) ?_
        refine z_calliV (C := RX1) (n := 1) (As := [.int (zI q)]) (rest := [.ref h]) (wr := [(h, .inr (2, [.ref hw, .ref hn])), (hn, .inr (0, [.ref hc, .int (zI len1)])), (hc, .inl (cC, 400, .inl (zA C1)))]) (wn := (fun (u : Unit) => [(h, .inr (2, [.ref hw, .ref hn])), (hw, .inr (1, [.ref ha, .int (zI lc), .ref hr1, .int (zI cnt), .int (zI dec)])), (ha, .inl (cL, 86, .inl (zA L))), (hr1, .inl (cR, 774, .inl (zA Rw))), (hn, .inr (0, [.ref hc, .int (zI len1)])), (hc, .inl (cC, 400, .inl (zA C1)))])) S w (c_X1_digitOf l D cL cR hw ha hr1 L lc Rw cnt dec q (by omega) (by omega)) gX2_putDigits_X1_digitOf (by decide +kernel) rfl ⟨rfl, rfl⟩ ⟨Nat.le_of_ble_eq_true rfl, Nat.le_of_ble_eq_true rfl⟩ [0, 1] [1, 2, 3] [0, 4, 5] [0, 3, 4, 5, 1, 2] rfl rfl rfl rfl rfl (by decide) (fun u => rfl) rfl rfl rfl rfl rfl hl.1 (Nat.le_of_ble_eq_true rfl) ⟨Nat.le_of_ble_eq_true rfl, Nat.le_of_ble_eq_true rfl⟩ rfl dX2_putDigits_13 (fun z13 _ H locs p13 w => ?_)
        have p13 : z13 = dI Rw (q + dec) := p13
        have w : zW D _ _ s [(h, .inr (2, [.ref hw, .ref hn])), (hw, .inr (1, [.ref ha, .int (zI lc), .ref hr1, .int (zI cnt), .int (zI dec)])), (ha, .inl (cL, 86, .inl (zA L))), (hr1, .inl (cR, 774, .inl (zA Rw))), (hn, .inr (0, [.ref hc, .int (zI len1)])), (hc, .inl (cC, 400, .inl (zA C1)))] H locs := w
        have b13 := dI_9 h9 (q + dec)
        rw [← p13] at b13
        refine z_callvV (C := RX2) (n := 1) (As := [.int (zI z13)]) (rest := []) (wr := [(hw, .inr (1, [.ref ha, .int (zI lc), .ref hr1, .int (zI cnt), .int (zI dec)])), (ha, .inl (cL, 86, .inl (zA L))), (hr1, .inl (cR, 774, .inl (zA Rw)))]) (wn := (fun (u : (Nat → Int) × Int) => [(h, .inr (2, [.ref hw, .ref hn])), (hw, .inr (1, [.ref ha, .int (zI lc), .ref hr1, .int (zI cnt), .int (zI dec)])), (ha, .inl (cL, 86, .inl (zA L))), (hr1, .inl (cR, 774, .inl (zA Rw))), (hn, .inr (0, [.ref hc, .int (zI u.2)])), (hc, .inl (cC, 400, .inl (zA u.1)))])) S w (c_X2_putDigit l D cC h hw hn hc C1 len1 _ z13 t1 (by omega) (by omega)) gX2_putDigits_X2_putDigit (by decide +kernel) rfl ⟨rfl, rfl⟩ ⟨Nat.le_of_ble_eq_true rfl, Nat.le_of_ble_eq_true rfl⟩ [2] [0, 4, 5] [1, 2, 3] [3, 0, 1, 2, 4, 5] rfl rfl rfl rfl rfl (by decide) (fun u => rfl) rfl rfl rfl rfl rfl hl.1 (Nat.le_of_ble_eq_true rfl) ⟨Nat.le_of_ble_eq_true rfl, Nat.le_of_ble_eq_true rfl⟩ rfl dX2_putDigits_16 (fun u H locs p16 w => ?_)
        obtain ⟨C16, len16⟩ := u
        have p16 : lRep C16 len16 (_ ++ [48 + z13]) ∧ len16 = len1 + 1 := p16
        have w : zW D _ _ s [(h, .inr (2, [.ref hw, .ref hn])), (hw, .inr (1, [.ref ha, .int (zI lc), .ref hr1, .int (zI cnt), .int (zI dec)])), (ha, .inl (cL, 86, .inl (zA L))), (hr1, .inl (cR, 774, .inl (zA Rw))), (hn, .inr (0, [.ref hc, .int (zI len16)])), (hc, .inl (cC, 400, .inl (zA C16)))] H locs := w
        refine lv_iinc (v := zI (q + (-1))) (lv' := [(3, .int (zI (q + (-1)))), (0, .ref h), (2, .int (zI to))]) S.1 S.2.1 dX2_putDigits_19 hl (k := 2) rfl (zI_add q (-1)) (by decide) rfl (fun ls hl => ?_)
        refine lv_goto (tgt := 2) S.1 S.2.1 dX2_putDigits_22 (by decide) ?_
        have k2_ : lRep C16 len16 (T ++ dT (fun x9 => dI Rw (x9 + dec)) fr ((q + (-1)) + 1)) := by
          have q1 := p16.1
          have e : q + (-1) + 1 = q := by omega
          rw [e, dT_snoc _ (by omega : q ≤ fr), ← List.append_assoc]
          rw [p13] at q1; exact q1
        exact ih C16 len16 (q + (-1)) (by omega) (by omega) k2_ (by omega) _ _ _ w (lv_sub hl [1, 2, 0] rfl)
  have hl : lv_has ls 4 [(0, .ref h), (1, .int (zI fr)), (2, .int (zI to))] := hl
  refine lv_iload_n S.1 S.2.1 dX2_putDigits_0 rfl (lv_at hl 1 rfl) ?_
  refine lv_istore_n (lv' := [(3, .int (zI fr)), (0, .ref h), (1, .int (zI fr)), (2, .int (zI to))]) S.1 S.2.1 dX2_putDigits_1 rfl hl (by decide) rfl (fun ls hl => ?_)
  exact lab2 _ C len fr (Nat.lt_succ_self _) (by omega) (by rw [dT_nil _ (by omega), List.append_nil]; exact hT) (by omega) _ _ _ w (lv_sub hl [1, 3, 0] rfl)

set_option maxRecDepth 20000 in
theorem ln_X2_putDecimals_19 : Cond.fieldLink RX2 19 "DecimalText" "line" "LDecimalText$Line;" ∈ wsX2_putDecimals := by decide +kernel
theorem in_X2_putDecimals_X2 : ∀ w ∈ u_ws RX2 TX2 2, w ∈ wsX2_putDecimals := by decide +kernel
set_option maxHeartbeats 4000000 in
set_option maxRecDepth 100000 in
theorem c_X2_putDecimals (l : Launch) (D : va_G) (cL cR cC : ClassId) (h : Nat) (hw : Nat) (ha : Nat) (hr1 : Nat) (hn : Nat) (hc : Nat) (L : Nat → Int) (lc : Int) (Rw : Nat → Int) (cnt : Int) (dec : Int) (C : Nat → Int) (len : Int) (T : List Int) (un : Int) (p1 : Int) (pt : Int) (hT : lRep C len T) (h9 : ∀ j : Nat, j < 774 → 0 ≤ Rw j ∧ Rw j ≤ 9) (hdec : 0 ≤ dec ∧ dec ≤ 1074) (hp : 0 ≤ p1 ∧ p1 ≤ 15) (hpt : pt = 0 ∨ pt = 1) (hun : -1400 ≤ un ∧ un ≤ 1400) (hlen : len ≤ 380) : zMv (T := (Nat → Int) × Int) l yX2_putDecimals wsX2_putDecimals ({ frames := 3, cells := 0, slots := 0, locals := 65 } : Room) D [(cL, .int), (cR, .int), (cC, .char)] [.ref h, .int (zI un), .int (zI p1), .int (zI pt)] [(h, .inr (2, [.ref hw, .ref hn])), (hw, .inr (1, [.ref ha, .int (zI lc), .ref hr1, .int (zI cnt), .int (zI dec)])), (ha, .inl (cL, 86, .inl (zA L))), (hr1, .inl (cR, 774, .inl (zA Rw))), (hn, .inr (0, [.ref hc, .int (zI len)])), (hc, .inl (cC, 400, .inl (zA C)))] (fun (u : (Nat → Int) × Int) => lRep u.1 u.2 (T ++ ptT pt ++ dT (fun x9 => dI Rw (x9 + dec)) (un - 1) (un - p1)) ∧ u.2 = len + ((ptT pt).length : Int) + p1) (fun (u : (Nat → Int) × Int) => [(h, .inr (2, [.ref hw, .ref hn])), (hw, .inr (1, [.ref ha, .int (zI lc), .ref hr1, .int (zI cnt), .int (zI dec)])), (ha, .inl (cL, 86, .inl (zA L))), (hr1, .inl (cR, 774, .inl (zA Rw))), (hn, .inr (0, [.ref hc, .int (zI u.2)])), (hc, .inl (cC, 400, .inl (zA u.1)))]) 0 0 := by
  refine zMv.of (bytes := cX2_putDecimals) (nL := 4) (own := RX2) (by decide) rfl rfl (Nat.le_of_ble_eq_true rfl) ?_
  intro p e s m below meth c ls S hr hlk hnm w hl
  have hl : lv_has ls 4 [(0, .ref h), (1, .int (zI un)), (2, .int (zI p1)), (3, .int (zI pt))] := hl
  have hl0 := hT.1.1
  refine lv_iload_n S.1 S.2.1 dX2_putDecimals_0 rfl (lv_at hl 3 rfl) ?_
  refine z_if_eq (tgt := 13) S dX2_putDecimals_1 (by decide) (by omega) (fun h1 => ?_) (fun h1 => ?_)
  · skip
    refine lv_aload_n S.1 S.2.1 dX2_putDecimals_13 rfl (lv_at hl 0 rfl) ?_
    refine lv_iload_n S.1 S.2.1 dX2_putDecimals_14 rfl (lv_at hl 1 rfl) ?_
    refine z_iconst S dX2_putDecimals_15 ?_
    refine z_isub S dX2_putDecimals_16 ?_
    refine lv_iload_n S.1 S.2.1 dX2_putDecimals_17 rfl (lv_at hl 1 rfl) ?_
    refine lv_iload_n S.1 S.2.1 dX2_putDecimals_18 rfl (lv_at hl 2 rfl) ?_
    refine z_isub S dX2_putDecimals_19 ?_
    refine z_callvV (C := RX2) (n := 2) (As := [.int (zI (un - 1)), .int (zI (un - p1))]) (rest := []) (wr := []) (wn := (fun (u : (Nat → Int) × Int) => [(h, .inr (2, [.ref hw, .ref hn])), (hw, .inr (1, [.ref ha, .int (zI lc), .ref hr1, .int (zI cnt), .int (zI dec)])), (ha, .inl (cL, 86, .inl (zA L))), (hr1, .inl (cR, 774, .inl (zA Rw))), (hn, .inr (0, [.ref hc, .int (zI u.2)])), (hc, .inl (cC, 400, .inl (zA u.1)))])) S w (c_X2_putDigits l D cL cR cC h hw ha hr1 hn hc L lc Rw cnt dec C len _ (un - 1) (un - p1) (by first | exact t10 | exact hT) h9 (by omega) (by omega) (by omega)) gX2_putDecimals_X2_putDigits (by decide +kernel) rfl ⟨rfl, rfl⟩ ⟨Nat.le_of_ble_eq_true rfl, Nat.le_of_ble_eq_true rfl⟩ [0, 1, 2] [0, 1, 2, 3, 4, 5] [] [0, 1, 2, 3, 4, 5] rfl rfl rfl rfl rfl (by decide) (fun u => rfl) rfl rfl rfl rfl rfl hl.1 (Nat.le_of_ble_eq_true rfl) ⟨Nat.le_of_ble_eq_true rfl, Nat.le_of_ble_eq_true rfl⟩ rfl dX2_putDecimals_20 (fun u H locs p20 w => ?_)
    obtain ⟨C20, len20⟩ := u
    have p20 : lRep C20 len20 (_ ++ dT (fun x9 => dI Rw (x9 + dec)) (un - 1) (un - p1)) ∧ len20 = len + (((un - 1) - (un - p1) + 1).toNat : Int) := p20
    have w : zW D _ _ s [(h, .inr (2, [.ref hw, .ref hn])), (hw, .inr (1, [.ref ha, .int (zI lc), .ref hr1, .int (zI cnt), .int (zI dec)])), (ha, .inl (cL, 86, .inl (zA L))), (hr1, .inl (cR, 774, .inl (zA Rw))), (hn, .inr (0, [.ref hc, .int (zI len20)])), (hc, .inl (cC, 400, .inl (zA C20)))] H locs := w
    have k1_ : lRep C20 len20 (T ++ ptT pt ++ dT (fun x9 => dI Rw (x9 + dec)) (un - 1) (un - p1)) ∧ len20 = len + ((ptT pt).length : Int) + p1 := by
      unfold ptT
      first
        | (rw [if_pos (show pt = 1 by omega)]; exact ⟨p20.1, by rw [List.length_singleton]; omega⟩)
        | (rw [if_neg (show ¬ pt = 1 by omega), List.append_nil]; exact ⟨p20.1, by rw [List.length_nil]; omega⟩)
    exact z_vret S hr hlk w (C20, len20) k1_ rfl dX2_putDecimals_23
  · skip
    refine lv_aload_n S.1 S.2.1 dX2_putDecimals_4 rfl (lv_at hl 0 rfl) ?_
    refine z_get (ci := 2) (C := RX2) (T := TX2) (N := 2) S w 0 rfl rfl in_X2_putDecimals_X2 1 (by decide) ln_X2_putDecimals_19 rfl rfl dX2_putDecimals_5 ?_
    refine z_bipush S dX2_putDecimals_8 (by decide +kernel) ?_
    refine z_callvV (C := RX0) (n := 1) (As := [.int (zI 46)]) (rest := []) (wr := [(h, .inr (2, [.ref hw, .ref hn])), (hw, .inr (1, [.ref ha, .int (zI lc), .ref hr1, .int (zI cnt), .int (zI dec)])), (ha, .inl (cL, 86, .inl (zA L))), (hr1, .inl (cR, 774, .inl (zA Rw)))]) (wn := (fun (u : (Nat → Int) × Int) => [(h, .inr (2, [.ref hw, .ref hn])), (hw, .inr (1, [.ref ha, .int (zI lc), .ref hr1, .int (zI cnt), .int (zI dec)])), (ha, .inl (cL, 86, .inl (zA L))), (hr1, .inl (cR, 774, .inl (zA Rw))), (hn, .inr (0, [.ref hc, .int (zI u.2)])), (hc, .inl (cC, 400, .inl (zA u.1)))])) S w (c_X0_put l D cC hn hc C len 46 (by omega) (by omega)) gX2_putDecimals_X0_put (by decide +kernel) rfl ⟨rfl, rfl⟩ ⟨Nat.le_of_ble_eq_true rfl, Nat.le_of_ble_eq_true rfl⟩ [2] [4, 5] [0, 1, 2, 3] [0, 1, 2, 3, 4, 5] rfl rfl rfl rfl rfl (by decide) (fun u => rfl) rfl rfl rfl rfl rfl hl.1 (Nat.le_of_ble_eq_true rfl) ⟨Nat.le_of_ble_eq_true rfl, Nat.le_of_ble_eq_true rfl⟩ rfl dX2_putDecimals_10 (fun u H locs p10 w => ?_)
    obtain ⟨C10, len10⟩ := u
    have p10 : C10 = zu C len.toNat (46 : Int) ∧ len10 = len + 1 := p10
    have w : zW D _ _ s [(h, .inr (2, [.ref hw, .ref hn])), (hw, .inr (1, [.ref ha, .int (zI lc), .ref hr1, .int (zI cnt), .int (zI dec)])), (ha, .inl (cL, 86, .inl (zA L))), (hr1, .inl (cR, 774, .inl (zA Rw))), (hn, .inr (0, [.ref hc, .int (zI len10)])), (hc, .inl (cC, 400, .inl (zA C10)))] H locs := w
    have t10 := lRep_put' hT (by omega) p10
    refine lv_aload_n S.1 S.2.1 dX2_putDecimals_13 rfl (lv_at hl 0 rfl) ?_
    refine lv_iload_n S.1 S.2.1 dX2_putDecimals_14 rfl (lv_at hl 1 rfl) ?_
    refine z_iconst S dX2_putDecimals_15 ?_
    refine z_isub S dX2_putDecimals_16 ?_
    refine lv_iload_n S.1 S.2.1 dX2_putDecimals_17 rfl (lv_at hl 1 rfl) ?_
    refine lv_iload_n S.1 S.2.1 dX2_putDecimals_18 rfl (lv_at hl 2 rfl) ?_
    refine z_isub S dX2_putDecimals_19 ?_
    refine z_callvV (C := RX2) (n := 2) (As := [.int (zI (un - 1)), .int (zI (un - p1))]) (rest := []) (wr := []) (wn := (fun (u : (Nat → Int) × Int) => [(h, .inr (2, [.ref hw, .ref hn])), (hw, .inr (1, [.ref ha, .int (zI lc), .ref hr1, .int (zI cnt), .int (zI dec)])), (ha, .inl (cL, 86, .inl (zA L))), (hr1, .inl (cR, 774, .inl (zA Rw))), (hn, .inr (0, [.ref hc, .int (zI u.2)])), (hc, .inl (cC, 400, .inl (zA u.1)))])) S w (c_X2_putDigits l D cL cR cC h hw ha hr1 hn hc L lc Rw cnt dec C10 len10 _ (un - 1) (un - p1) (by first | exact t10 | exact hT) h9 (by omega) (by omega) (by omega)) gX2_putDecimals_X2_putDigits (by decide +kernel) rfl ⟨rfl, rfl⟩ ⟨Nat.le_of_ble_eq_true rfl, Nat.le_of_ble_eq_true rfl⟩ [0, 1, 2] [0, 1, 2, 3, 4, 5] [] [0, 1, 2, 3, 4, 5] rfl rfl rfl rfl rfl (by decide) (fun u => rfl) rfl rfl rfl rfl rfl hl.1 (Nat.le_of_ble_eq_true rfl) ⟨Nat.le_of_ble_eq_true rfl, Nat.le_of_ble_eq_true rfl⟩ rfl dX2_putDecimals_20 (fun u H locs p20 w => ?_)
    obtain ⟨C20, len20⟩ := u
    have p20 : lRep C20 len20 (_ ++ dT (fun x9 => dI Rw (x9 + dec)) (un - 1) (un - p1)) ∧ len20 = len10 + (((un - 1) - (un - p1) + 1).toNat : Int) := p20
    have w : zW D _ _ s [(h, .inr (2, [.ref hw, .ref hn])), (hw, .inr (1, [.ref ha, .int (zI lc), .ref hr1, .int (zI cnt), .int (zI dec)])), (ha, .inl (cL, 86, .inl (zA L))), (hr1, .inl (cR, 774, .inl (zA Rw))), (hn, .inr (0, [.ref hc, .int (zI len20)])), (hc, .inl (cC, 400, .inl (zA C20)))] H locs := w
    have k2_ : lRep C20 len20 (T ++ ptT pt ++ dT (fun x9 => dI Rw (x9 + dec)) (un - 1) (un - p1)) ∧ len20 = len + ((ptT pt).length : Int) + p1 := by
      unfold ptT
      first
        | (rw [if_pos (show pt = 1 by omega)]; exact ⟨p20.1, by rw [List.length_singleton]; omega⟩)
        | (rw [if_neg (show ¬ pt = 1 by omega), List.append_nil]; exact ⟨p20.1, by rw [List.length_nil]; omega⟩)
    exact z_vret S hr hlk w (C20, len20) k2_ rfl dX2_putDecimals_23

set_option maxRecDepth 20000 in
theorem ln_X2_putPlain_12 : Cond.fieldLink RX2 12 "DecimalText" "worth" "LDecimalText$Worth;" ∈ wsX2_putPlain := by decide +kernel
theorem in_X2_putPlain_X2 : ∀ w ∈ u_ws RX2 TX2 2, w ∈ wsX2_putPlain := by decide +kernel
set_option maxRecDepth 20000 in
theorem ml_X2_putPlain_99 : Cond.methodLink RX2 99 Lib.Math.max.name ∈ wsX2_putPlain := by decide +kernel
set_option maxRecDepth 20000 in
theorem st_X2_putPlain_max : Cond.static Lib.Math.max.name ∈ wsX2_putPlain := by decide +kernel
set_option maxRecDepth 20000 in
theorem ini_X2_putPlain_Math : Cond.initialized "java/lang/Math" ∈ wsX2_putPlain := by decide +kernel
set_option maxRecDepth 20000 in
theorem co_X2_putPlain_max : Cond.code Lib.Math.max.name Lib.Math.max.code 2 (some .int) ∈ wsX2_putPlain := by decide +kernel
set_option maxHeartbeats 4000000 in
set_option maxRecDepth 100000 in
theorem c_X2_putPlain (l : Launch) (D : va_G) (cL cR cC : ClassId) (h : Nat) (hw : Nat) (ha : Nat) (hr1 : Nat) (hn : Nat) (hc : Nat) (L : Nat → Int) (lc : Int) (Rw : Nat → Int) (cnt : Int) (dec : Int) (C : Nat → Int) (len : Int) (T : List Int) (N : Nat) (X : Nat) (p1 : Int) (pt : Int) (hT : lRep C len T) (hrep : ∀ j : Nat, j < 774 → Rw j = (dg N j : Int)) (hcn : cnt = (ln N : Int)) (hdec : 0 ≤ dec ∧ dec ≤ 1074) (hN : N < 10 ^ 767) (hX : N * 10 ^ (1200 - dec).toNat = X) (hXb : X ≤ 2 * 10 ^ 1508) (hp : 0 ≤ p1 ∧ p1 ≤ 15) (hpt : pt = 0 ∨ pt = 1) (hlen : len ≤ 10) : zMv (T := (Nat → Int) × Int × (Nat → Int) × Int) l yX2_putPlain wsX2_putPlain ({ frames := 4, cells := 0, slots := 0, locals := 88 } : Room) D [(cL, .int), (cR, .int), (cC, .char)] [.ref h, .int (zI p1), .int (zI pt)] [(h, .inr (2, [.ref hw, .ref hn])), (hw, .inr (1, [.ref ha, .int (zI lc), .ref hr1, .int (zI cnt), .int (zI dec)])), (ha, .inl (cL, 86, .inl (zA L))), (hr1, .inl (cR, 774, .inl (zA Rw))), (hn, .inr (0, [.ref hc, .int (zI len)])), (hc, .inl (cC, 400, .inl (zA C)))] (fun (u : (Nat → Int) × Int × (Nat → Int) × Int) => lRep u.2.2.1 u.2.2.2 (T ++ plT X p1 pt) ∧ u.2.2.2 ≤ 340) (fun (u : (Nat → Int) × Int × (Nat → Int) × Int) => [(h, .inr (2, [.ref hw, .ref hn])), (hw, .inr (1, [.ref ha, .int (zI lc), .ref hr1, .int (zI u.2.1), .int (zI dec)])), (ha, .inl (cL, 86, .inl (zA L))), (hr1, .inl (cR, 774, .inl (zA u.1))), (hn, .inr (0, [.ref hc, .int (zI u.2.2.2)])), (hc, .inl (cC, 400, .inl (zA u.2.2.1)))]) 0 0 := by
  refine zMv.of (bytes := cX2_putPlain) (nL := 3) (own := RX2) (by decide) rfl rfl (Nat.le_of_ble_eq_true rfl) ?_
  intro p e s m below meth c ls S hr hlk hnm w hl
  have hl : lv_has ls 3 [(0, .ref h), (1, .int (zI p1)), (2, .int (zI pt))] := hl
  have hl0 := hT.1.1
  refine lv_aload_n S.1 S.2.1 dX2_putPlain_0 rfl (lv_at hl 0 rfl) ?_
  refine z_get (ci := 2) (C := RX2) (T := TX2) (N := 2) S w 0 rfl rfl in_X2_putPlain_X2 0 (by decide) ln_X2_putPlain_12 rfl rfl dX2_putPlain_1 ?_
  refine lv_iload_n S.1 S.2.1 dX2_putPlain_4 rfl (lv_at hl 1 rfl) ?_
  refine z_ineg S dX2_putPlain_5 ?_
  refine z_callvV (C := RX1) (n := 1) (As := [.int (zI (-p1))]) (rest := []) (wr := [(h, .inr (2, [.ref hw, .ref hn])), (hn, .inr (0, [.ref hc, .int (zI len)])), (hc, .inl (cC, 400, .inl (zA C)))]) (wn := (fun (u : (Nat → Int) × Int) => [(h, .inr (2, [.ref hw, .ref hn])), (hw, .inr (1, [.ref ha, .int (zI lc), .ref hr1, .int (zI u.2), .int (zI dec)])), (ha, .inl (cL, 86, .inl (zA L))), (hr1, .inl (cR, 774, .inl (zA u.1))), (hn, .inr (0, [.ref hc, .int (zI len)])), (hc, .inl (cC, 400, .inl (zA C)))])) S w (c_X1_roundTo l D cL cR hw ha hr1 L lc Rw cnt dec (-p1) N (by omega) (by omega) hrep (by omega) hN) gX2_putPlain_X1_roundTo (by decide +kernel) rfl ⟨rfl, rfl⟩ ⟨Nat.le_of_ble_eq_true rfl, Nat.le_of_ble_eq_true rfl⟩ [0, 1] [1, 2, 3] [0, 4, 5] [0, 3, 4, 5, 1, 2] rfl rfl rfl rfl rfl (by decide) (fun u => rfl) rfl rfl rfl rfl rfl hl.1 (Nat.le_of_ble_eq_true rfl) ⟨Nat.le_of_ble_eq_true rfl, Nat.le_of_ble_eq_true rfl⟩ rfl dX2_putPlain_6 (fun u H locs p6 w => ?_)
  obtain ⟨R6, cn6⟩ := u
  have p6 : (∀ j : Nat, ((-p1) + dec).toNat ≤ j → j < 774 → R6 j = (dg (rX N ((-p1) + dec).toNat) j : Int)) ∧ (0 < rX N ((-p1) + dec).toNat → cn6 = (ln (rX N ((-p1) + dec).toNat) : Int)) ∧ (rX N ((-p1) + dec).toNat = 0 → cn6 ≤ (((-p1) + dec).toNat : Int)) ∧ (0 ≤ cn6 ∧ cn6 ≤ 774) ∧ (∀ j : Nat, j < 774 → 0 ≤ R6 j ∧ R6 j ≤ 9) ∧ (N = 0 → cn6 = 0) := p6
  have w : zW D _ _ s [(h, .inr (2, [.ref hw, .ref hn])), (hw, .inr (1, [.ref ha, .int (zI lc), .ref hr1, .int (zI cn6), .int (zI dec)])), (ha, .inl (cL, 86, .inl (zA L))), (hr1, .inl (cR, 774, .inl (zA R6))), (hn, .inr (0, [.ref hc, .int (zI len)])), (hc, .inl (cC, 400, .inl (zA C)))] H locs := w
  obtain ⟨r1, r2, r3, r4, r5, r6⟩ := p6
  obtain ⟨Y, eY0⟩ : ∃ Y, rX X (1200 - p1).toNat = Y := ⟨_, rfl⟩
  have eY1 : Y = rX N (-p1 + dec).toNat * 10 ^ (1200 - dec).toNat := by rw [← eY0]; exact rX_scale hX (by omega)
  have hY : Y < 10 ^ 1509 := by rw [← eY0]; exact pl_bnd hXb (by omega)
  have hM : rX N (-p1 + dec).toNat < 10 ^ 774 := by
    rcases Nat.eq_zero_or_pos (rX N (-p1 + dec).toNat) with q | q
    · rw [q]; exact p10_pos 774
    · exact Nat.lt_of_lt_of_le (ln_lt _) (Nat.pow_le_pow_right (by decide) (by have := r2 q; omega))
  have hg : ∀ q : Int, -p1 ≤ q → dI R6 (q + dec) = gX Y q := fun q hq => row_gX eY1 hdec r1 hM (by omega)
  have hb := ln_bnd hY
  refine lv_aload_n S.1 S.2.1 dX2_putPlain_9 rfl (lv_at hl 0 rfl) ?_
  refine lv_aload_n S.1 S.2.1 dX2_putPlain_10 rfl (lv_at hl 0 rfl) ?_
  refine z_get (ci := 2) (C := RX2) (T := TX2) (N := 2) S w 0 rfl rfl in_X2_putPlain_X2 0 (by decide) ln_X2_putPlain_12 rfl rfl dX2_putPlain_11 ?_
  refine z_calliV (C := RX1) (n := 0) (As := []) (rest := [.ref h]) (wr := [(h, .inr (2, [.ref hw, .ref hn])), (hn, .inr (0, [.ref hc, .int (zI len)])), (hc, .inl (cC, 400, .inl (zA C)))]) (wn := (fun (u : Unit) => [(h, .inr (2, [.ref hw, .ref hn])), (hw, .inr (1, [.ref ha, .int (zI lc), .ref hr1, .int (zI cn6), .int (zI dec)])), (ha, .inl (cL, 86, .inl (zA L))), (hr1, .inl (cR, 774, .inl (zA R6))), (hn, .inr (0, [.ref hc, .int (zI len)])), (hc, .inl (cC, 400, .inl (zA C)))])) S w (c_X1_highestPower l D cL cR hw ha hr1 L lc R6 cn6 dec (by omega) (by omega)) gX2_putPlain_X1_highestPower (by decide +kernel) rfl ⟨rfl, rfl⟩ ⟨Nat.le_of_ble_eq_true rfl, Nat.le_of_ble_eq_true rfl⟩ [0, 1] [1, 2, 3] [0, 4, 5] [0, 3, 4, 5, 1, 2] rfl rfl rfl rfl rfl (by decide) (fun u => rfl) rfl rfl rfl rfl rfl hl.1 (Nat.le_of_ble_eq_true rfl) ⟨Nat.le_of_ble_eq_true rfl, Nat.le_of_ble_eq_true rfl⟩ rfl dX2_putPlain_14 (fun z14 _ H locs p14 w => ?_)
  have p14 : z14 = (if cn6 = 0 then 0 else cn6 - 1 - dec) := p14
  have w : zW D _ _ s [(h, .inr (2, [.ref hw, .ref hn])), (hw, .inr (1, [.ref ha, .int (zI lc), .ref hr1, .int (zI cn6), .int (zI dec)])), (ha, .inl (cL, 86, .inl (zA L))), (hr1, .inl (cR, 774, .inl (zA R6))), (hn, .inr (0, [.ref hc, .int (zI len)])), (hc, .inl (cC, 400, .inl (zA C)))] H locs := w
  have b14 : -2000 ≤ z14 ∧ z14 ≤ 2000 := by
    rw [p14]
    by_cases k5 : cn6 = 0
    · rw [if_pos k5]; omega
    · rw [if_neg k5]; omega
  refine z_iconst S dX2_putPlain_17 ?_
  refine z_mmax S ml_X2_putPlain_99 st_X2_putPlain_max ini_X2_putPlain_Math co_X2_putPlain_max hl.1 (Nat.le_of_ble_eq_true rfl) (Nat.le_of_ble_eq_true rfl) (Nat.le_of_ble_eq_true rfl) (Nat.le_of_ble_eq_true rfl) dX2_putPlain_18 (by omega) (by omega) (fun m18 hm18 => ?_)
  have hmx : m18 = (if 0 < hiX Y then hiX Y else 0) := by
    rcases Nat.eq_zero_or_pos (rX N (-p1 + dec).toNat) with q | q
    · have k1 := r3 q
      have k2 : Y = 0 := by rw [eY1, q, Nat.zero_mul]
      have k3 : hiX Y = 0 := by unfold hiX; rw [if_pos k2]
      rw [if_neg (by omega)]
      have k4 : z14 ≤ 0 := by
        rw [p14]
        by_cases k5 : cn6 = 0
        · rw [if_pos k5]; omega
        · rw [if_neg k5]; omega
      omega
    · rw [hi_gX eY1 hdec q (r2 q)] at p14
      by_cases k5 : 0 < hiX Y
      · rw [if_pos k5]; omega
      · rw [if_neg k5]; omega
  have hmb : 0 ≤ m18 ∧ m18 ≤ 308 := by
    by_cases k5 : 0 < hiX Y
    · rw [if_pos k5] at hmx; omega
    · rw [if_neg k5] at hmx; omega
  refine z_iconst S dX2_putPlain_21 ?_
  refine z_callvV (C := RX2) (n := 2) (As := [.int (zI m18), .int (zI 0)]) (rest := []) (wr := []) (wn := (fun (u : (Nat → Int) × Int) => [(h, .inr (2, [.ref hw, .ref hn])), (hw, .inr (1, [.ref ha, .int (zI lc), .ref hr1, .int (zI cn6), .int (zI dec)])), (ha, .inl (cL, 86, .inl (zA L))), (hr1, .inl (cR, 774, .inl (zA R6))), (hn, .inr (0, [.ref hc, .int (zI u.2)])), (hc, .inl (cC, 400, .inl (zA u.1)))])) S w (c_X2_putDigits l D cL cR cC h hw ha hr1 hn hc L lc R6 cn6 dec C len T m18 0 hT r5 (by omega) (by omega) (by omega)) gX2_putPlain_X2_putDigits (by decide +kernel) rfl ⟨rfl, rfl⟩ ⟨Nat.le_of_ble_eq_true rfl, Nat.le_of_ble_eq_true rfl⟩ [0, 1, 2] [0, 1, 2, 3, 4, 5] [] [0, 1, 2, 3, 4, 5] rfl rfl rfl rfl rfl (by decide) (fun u => rfl) rfl rfl rfl rfl rfl hl.1 (Nat.le_of_ble_eq_true rfl) ⟨Nat.le_of_ble_eq_true rfl, Nat.le_of_ble_eq_true rfl⟩ rfl dX2_putPlain_22 (fun u H locs p22 w => ?_)
  obtain ⟨C22, len22⟩ := u
  have p22 : lRep C22 len22 (T ++ dT (fun x9 => dI R6 (x9 + dec)) m18 (0 : Int)) ∧ len22 = len + ((m18 - (0 : Int) + 1).toNat : Int) := p22
  have w : zW D _ _ s [(h, .inr (2, [.ref hw, .ref hn])), (hw, .inr (1, [.ref ha, .int (zI lc), .ref hr1, .int (zI cn6), .int (zI dec)])), (ha, .inl (cL, 86, .inl (zA L))), (hr1, .inl (cR, 774, .inl (zA R6))), (hn, .inr (0, [.ref hc, .int (zI len22)])), (hc, .inl (cC, 400, .inl (zA C22)))] H locs := w
  refine lv_aload_n S.1 S.2.1 dX2_putPlain_25 rfl (lv_at hl 0 rfl) ?_
  refine z_iconst S dX2_putPlain_26 ?_
  refine lv_iload_n S.1 S.2.1 dX2_putPlain_27 rfl (lv_at hl 1 rfl) ?_
  refine lv_iload_n S.1 S.2.1 dX2_putPlain_28 rfl (lv_at hl 2 rfl) ?_
  refine z_callvV (C := RX2) (n := 3) (As := [.int (zI 0), .int (zI p1), .int (zI pt)]) (rest := []) (wr := []) (wn := (fun (u : (Nat → Int) × Int) => [(h, .inr (2, [.ref hw, .ref hn])), (hw, .inr (1, [.ref ha, .int (zI lc), .ref hr1, .int (zI cn6), .int (zI dec)])), (ha, .inl (cL, 86, .inl (zA L))), (hr1, .inl (cR, 774, .inl (zA R6))), (hn, .inr (0, [.ref hc, .int (zI u.2)])), (hc, .inl (cC, 400, .inl (zA u.1)))])) S w (c_X2_putDecimals l D cL cR cC h hw ha hr1 hn hc L lc R6 cn6 dec C22 len22 _ 0 p1 pt p22.1 r5 (by omega) (by omega) (by omega) (by omega) (by omega)) gX2_putPlain_X2_putDecimals (by decide +kernel) rfl ⟨rfl, rfl⟩ ⟨Nat.le_of_ble_eq_true rfl, Nat.le_of_ble_eq_true rfl⟩ [0, 1, 2] [0, 1, 2, 3, 4, 5] [] [0, 1, 2, 3, 4, 5] rfl rfl rfl rfl rfl (by decide) (fun u => rfl) rfl rfl rfl rfl rfl hl.1 (Nat.le_of_ble_eq_true rfl) ⟨Nat.le_of_ble_eq_true rfl, Nat.le_of_ble_eq_true rfl⟩ rfl dX2_putPlain_29 (fun u H locs p29 w => ?_)
  obtain ⟨C29, len29⟩ := u
  have p29 : lRep C29 len29 (_ ++ ptT pt ++ dT (fun x9 => dI R6 (x9 + dec)) ((0 : Int) - 1) ((0 : Int) - p1)) ∧ len29 = len22 + ((ptT pt).length : Int) + p1 := p29
  have w : zW D _ _ s [(h, .inr (2, [.ref hw, .ref hn])), (hw, .inr (1, [.ref ha, .int (zI lc), .ref hr1, .int (zI cn6), .int (zI dec)])), (ha, .inl (cL, 86, .inl (zA L))), (hr1, .inl (cR, 774, .inl (zA R6))), (hn, .inr (0, [.ref hc, .int (zI len29)])), (hc, .inl (cC, 400, .inl (zA C29)))] H locs := w
  have k1_ : lRep C29 len29 (T ++ plT X p1 pt) ∧ len29 ≤ 340 := by
    have q1 := p29.1
    have e1 : dT (fun q => dI R6 (q + dec)) m18 0 = dT (gX Y) m18 0 := dT_congr (fun q k1 k2 => hg q (by omega))
    have e2 : dT (fun q => dI R6 (q + dec)) (0 - 1) (0 - p1) = dT (gX Y) (-1) (-p1) := by
      have k1 : (0 : Int) - 1 = -1 := by omega
      have k2 : 0 - p1 = -p1 := by omega
      rw [k1, k2]; exact dT_congr (fun q k1 k2 => hg q (by omega))
    rw [e1, e2, hmx] at q1
    have hpl : ((ptT pt).length : Int) ≤ 1 := by
      unfold ptT
      by_cases k : pt = 1
      · rw [if_pos k]; decide
      · rw [if_neg k]; decide
    unfold plT
    rw [eY0]
    simp only [List.append_assoc] at q1 ⊢
    exact ⟨q1, by omega⟩
  exact z_vret S hr hlk w (R6, cn6, C29, len29) k1_ rfl dX2_putPlain_32

set_option maxRecDepth 20000 in
theorem ln_X2_putWithExponent_12 : Cond.fieldLink RX2 12 "DecimalText" "worth" "LDecimalText$Worth;" ∈ wsX2_putWithExponent := by decide +kernel
theorem in_X2_putWithExponent_X2 : ∀ w ∈ u_ws RX2 TX2 2, w ∈ wsX2_putWithExponent := by decide +kernel
set_option maxHeartbeats 4000000 in
set_option maxRecDepth 100000 in
theorem c_X2_putWithExponent (l : Launch) (D : va_G) (cL cR cC : ClassId) (h : Nat) (hw : Nat) (ha : Nat) (hr1 : Nat) (hn : Nat) (hc : Nat) (L : Nat → Int) (lc : Int) (Rw : Nat → Int) (cnt : Int) (dec : Int) (C : Nat → Int) (len : Int) (T : List Int) (N : Nat) (X : Nat) (p1 : Int) (pt : Int) (mk : Int) (hT : lRep C len T) (hrep : ∀ j : Nat, j < 774 → Rw j = (dg N j : Int)) (hcn : cnt = (ln N : Int)) (hdec : 0 ≤ dec ∧ dec ≤ 1074) (hN : N < 10 ^ 767) (hX : N * 10 ^ (1200 - dec).toNat = X) (hXb : X ≤ 2 * 10 ^ 1508) (hp : 0 ≤ p1 ∧ p1 ≤ 15) (hpt : pt = 0 ∨ pt = 1) (hmk : 0 ≤ mk ∧ mk ≤ 65535) (hlen : len ≤ 10) : zMv (T := (Nat → Int) × Int × (Nat → Int) × Int) l yX2_putWithExponent wsX2_putWithExponent ({ frames := 4, cells := 0, slots := 0, locals := 88 } : Room) D [(cL, .int), (cR, .int), (cC, .char)] [.ref h, .int (zI p1), .int (zI pt), .int (zI mk)] [(h, .inr (2, [.ref hw, .ref hn])), (hw, .inr (1, [.ref ha, .int (zI lc), .ref hr1, .int (zI cnt), .int (zI dec)])), (ha, .inl (cL, 86, .inl (zA L))), (hr1, .inl (cR, 774, .inl (zA Rw))), (hn, .inr (0, [.ref hc, .int (zI len)])), (hc, .inl (cC, 400, .inl (zA C)))] (fun (u : (Nat → Int) × Int × (Nat → Int) × Int) => lRep u.2.2.1 u.2.2.2 (T ++ epT X p1 pt mk) ∧ u.2.2.2 ≤ 340) (fun (u : (Nat → Int) × Int × (Nat → Int) × Int) => [(h, .inr (2, [.ref hw, .ref hn])), (hw, .inr (1, [.ref ha, .int (zI lc), .ref hr1, .int (zI u.2.1), .int (zI dec)])), (ha, .inl (cL, 86, .inl (zA L))), (hr1, .inl (cR, 774, .inl (zA u.1))), (hn, .inr (0, [.ref hc, .int (zI u.2.2.2)])), (hc, .inl (cC, 400, .inl (zA u.2.2.1)))]) 0 0 := by
  refine zMv.of (bytes := cX2_putWithExponent) (nL := 5) (own := RX2) (by decide) rfl rfl (Nat.le_of_ble_eq_true rfl) ?_
  intro p e s m below meth c ls S hr hlk hnm w hl
  have hl : lv_has ls 5 [(0, .ref h), (1, .int (zI p1)), (2, .int (zI pt)), (3, .int (zI mk))] := hl
  have hl0 := hT.1.1
  have hlN := ln_le_of hN
  have hcnt : 0 ≤ cnt ∧ cnt ≤ 774 := by omega
  refine lv_aload_n S.1 S.2.1 dX2_putWithExponent_0 rfl (lv_at hl 0 rfl) ?_
  refine z_get (ci := 2) (C := RX2) (T := TX2) (N := 2) S w 0 rfl rfl in_X2_putWithExponent_X2 0 (by decide) ln_X2_putWithExponent_12 rfl rfl dX2_putWithExponent_1 ?_
  refine lv_aload_n S.1 S.2.1 dX2_putWithExponent_4 rfl (lv_at hl 0 rfl) ?_
  refine z_get (ci := 2) (C := RX2) (T := TX2) (N := 2) S w 0 rfl rfl in_X2_putWithExponent_X2 0 (by decide) ln_X2_putWithExponent_12 rfl rfl dX2_putWithExponent_5 ?_
  refine z_calliV (C := RX1) (n := 0) (As := []) (rest := [.ref hw]) (wr := [(h, .inr (2, [.ref hw, .ref hn])), (hn, .inr (0, [.ref hc, .int (zI len)])), (hc, .inl (cC, 400, .inl (zA C)))]) (wn := (fun (u : Unit) => [(h, .inr (2, [.ref hw, .ref hn])), (hw, .inr (1, [.ref ha, .int (zI lc), .ref hr1, .int (zI cnt), .int (zI dec)])), (ha, .inl (cL, 86, .inl (zA L))), (hr1, .inl (cR, 774, .inl (zA Rw))), (hn, .inr (0, [.ref hc, .int (zI len)])), (hc, .inl (cC, 400, .inl (zA C)))])) S w (c_X1_highestPower l D cL cR hw ha hr1 L lc Rw cnt dec (by omega) (by omega)) gX2_putWithExponent_X1_highestPower (by decide +kernel) rfl ⟨rfl, rfl⟩ ⟨Nat.le_of_ble_eq_true rfl, Nat.le_of_ble_eq_true rfl⟩ [0, 1] [1, 2, 3] [0, 4, 5] [0, 3, 4, 5, 1, 2] rfl rfl rfl rfl rfl (by decide) (fun u => rfl) rfl rfl rfl rfl rfl hl.1 (Nat.le_of_ble_eq_true rfl) ⟨Nat.le_of_ble_eq_true rfl, Nat.le_of_ble_eq_true rfl⟩ rfl dX2_putWithExponent_8 (fun z8 _ H locs p8 w => ?_)
  have p8 : z8 = (if cnt = 0 then 0 else cnt - 1 - dec) := p8
  have w : zW D _ _ s [(h, .inr (2, [.ref hw, .ref hn])), (hw, .inr (1, [.ref ha, .int (zI lc), .ref hr1, .int (zI cnt), .int (zI dec)])), (ha, .inl (cL, 86, .inl (zA L))), (hr1, .inl (cR, 774, .inl (zA Rw))), (hn, .inr (0, [.ref hc, .int (zI len)])), (hc, .inl (cC, 400, .inl (zA C)))] H locs := w
  have b8 : (N = 0 ∧ z8 = 0) ∨ (0 < N ∧ z8 = (ln N : Int) - 1 - dec) := by
    rw [p8]
    rcases Nat.eq_zero_or_pos N with q | q
    · rw [if_pos (by rw [hcn, q, ln_0]; rfl)]; exact Or.inl ⟨q, rfl⟩
    · have q1 : 0 < ln N := by rw [ln_pos q]; omega
      rw [if_neg (by omega)]; exact Or.inr ⟨q, by omega⟩
  refine lv_iload_n S.1 S.2.1 dX2_putWithExponent_11 rfl (lv_at hl 1 rfl) ?_
  refine z_isub S dX2_putWithExponent_12 ?_
  refine z_callvV (C := RX1) (n := 1) (As := [.int (zI (z8 - p1))]) (rest := []) (wr := [(h, .inr (2, [.ref hw, .ref hn])), (hn, .inr (0, [.ref hc, .int (zI len)])), (hc, .inl (cC, 400, .inl (zA C)))]) (wn := (fun (u : (Nat → Int) × Int) => [(h, .inr (2, [.ref hw, .ref hn])), (hw, .inr (1, [.ref ha, .int (zI lc), .ref hr1, .int (zI u.2), .int (zI dec)])), (ha, .inl (cL, 86, .inl (zA L))), (hr1, .inl (cR, 774, .inl (zA u.1))), (hn, .inr (0, [.ref hc, .int (zI len)])), (hc, .inl (cC, 400, .inl (zA C)))])) S w (c_X1_roundTo l D cL cR hw ha hr1 L lc Rw cnt dec (z8 - p1) N (by omega) (by omega) hrep (by omega) hN) gX2_putWithExponent_X1_roundTo (by decide +kernel) rfl ⟨rfl, rfl⟩ ⟨Nat.le_of_ble_eq_true rfl, Nat.le_of_ble_eq_true rfl⟩ [0, 1] [1, 2, 3] [0, 4, 5] [0, 3, 4, 5, 1, 2] rfl rfl rfl rfl rfl (by decide) (fun u => rfl) rfl rfl rfl rfl rfl hl.1 (Nat.le_of_ble_eq_true rfl) ⟨Nat.le_of_ble_eq_true rfl, Nat.le_of_ble_eq_true rfl⟩ rfl dX2_putWithExponent_13 (fun u H locs p13 w => ?_)
  obtain ⟨R6, cn6⟩ := u
  have p13 : (∀ j : Nat, ((z8 - p1) + dec).toNat ≤ j → j < 774 → R6 j = (dg (rX N ((z8 - p1) + dec).toNat) j : Int)) ∧ (0 < rX N ((z8 - p1) + dec).toNat → cn6 = (ln (rX N ((z8 - p1) + dec).toNat) : Int)) ∧ (rX N ((z8 - p1) + dec).toNat = 0 → cn6 ≤ (((z8 - p1) + dec).toNat : Int)) ∧ (0 ≤ cn6 ∧ cn6 ≤ 774) ∧ (∀ j : Nat, j < 774 → 0 ≤ R6 j ∧ R6 j ≤ 9) ∧ (N = 0 → cn6 = 0) := p13
  have w : zW D _ _ s [(h, .inr (2, [.ref hw, .ref hn])), (hw, .inr (1, [.ref ha, .int (zI lc), .ref hr1, .int (zI cn6), .int (zI dec)])), (ha, .inl (cL, 86, .inl (zA L))), (hr1, .inl (cR, 774, .inl (zA R6))), (hn, .inr (0, [.ref hc, .int (zI len)])), (hc, .inl (cC, 400, .inl (zA C)))] H locs := w
  obtain ⟨r1, r2, r3, r4, r5, r6⟩ := p13
  obtain ⟨Y, eY0⟩ : ∃ Y, eY X p1 = Y := ⟨_, rfl⟩
  have eY1 : Y = rX N (z8 - p1 + dec).toNat * 10 ^ (1200 - dec).toNat := by
    rw [← eY0]
    unfold eY
    rcases b8 with ⟨q1, q2⟩ | ⟨q1, q2⟩
    · rw [← hX, q1, Nat.zero_mul, rX_z, rX_z, Nat.zero_mul]
    · have q3 : ln X = ln N + (1200 - dec).toNat := by rw [← hX, ln_mul q1]
      exact rX_scale hX (by omega)
  have hM : rX N (z8 - p1 + dec).toNat < 10 ^ 774 := by
    rcases Nat.eq_zero_or_pos (rX N (z8 - p1 + dec).toNat) with q | q
    · rw [q]; exact p10_pos 774
    · exact Nat.lt_of_lt_of_le (ln_lt _) (Nat.pow_le_pow_right (by decide) (by have := r2 q; omega))
  have hg : ∀ q : Int, z8 - p1 ≤ q → dI R6 (q + dec) = gX Y q := fun q hq => row_gX eY1 hdec r1 hM (by omega)
  refine lv_aload_n S.1 S.2.1 dX2_putWithExponent_16 rfl (lv_at hl 0 rfl) ?_
  refine z_get (ci := 2) (C := RX2) (T := TX2) (N := 2) S w 0 rfl rfl in_X2_putWithExponent_X2 0 (by decide) ln_X2_putWithExponent_12 rfl rfl dX2_putWithExponent_17 ?_
  refine z_calliV (C := RX1) (n := 0) (As := []) (rest := []) (wr := [(h, .inr (2, [.ref hw, .ref hn])), (hn, .inr (0, [.ref hc, .int (zI len)])), (hc, .inl (cC, 400, .inl (zA C)))]) (wn := (fun (u : Unit) => [(h, .inr (2, [.ref hw, .ref hn])), (hw, .inr (1, [.ref ha, .int (zI lc), .ref hr1, .int (zI cn6), .int (zI dec)])), (ha, .inl (cL, 86, .inl (zA L))), (hr1, .inl (cR, 774, .inl (zA R6))), (hn, .inr (0, [.ref hc, .int (zI len)])), (hc, .inl (cC, 400, .inl (zA C)))])) S w (c_X1_highestPower l D cL cR hw ha hr1 L lc R6 cn6 dec (by omega) (by omega)) gX2_putWithExponent_X1_highestPower (by decide +kernel) rfl ⟨rfl, rfl⟩ ⟨Nat.le_of_ble_eq_true rfl, Nat.le_of_ble_eq_true rfl⟩ [0, 1] [1, 2, 3] [0, 4, 5] [0, 3, 4, 5, 1, 2] rfl rfl rfl rfl rfl (by decide) (fun u => rfl) rfl rfl rfl rfl rfl hl.1 (Nat.le_of_ble_eq_true rfl) ⟨Nat.le_of_ble_eq_true rfl, Nat.le_of_ble_eq_true rfl⟩ rfl dX2_putWithExponent_20 (fun z20 _ H locs p20 w => ?_)
  have p20 : z20 = (if cn6 = 0 then 0 else cn6 - 1 - dec) := p20
  have w : zW D _ _ s [(h, .inr (2, [.ref hw, .ref hn])), (hw, .inr (1, [.ref ha, .int (zI lc), .ref hr1, .int (zI cn6), .int (zI dec)])), (ha, .inl (cL, 86, .inl (zA L))), (hr1, .inl (cR, 774, .inl (zA R6))), (hn, .inr (0, [.ref hc, .int (zI len)])), (hc, .inl (cC, 400, .inl (zA C)))] H locs := w
  have b20 : z20 = hiX Y ∧ z8 ≤ z20 := by
    rcases b8 with ⟨q1, q2⟩ | ⟨q1, q2⟩
    · have k1 : Y = 0 := by rw [eY1, q1, rX_z, Nat.zero_mul]
      have k2 : hiX Y = 0 := by unfold hiX; rw [if_pos k1]
      rw [if_pos (r6 q1)] at p20
      omega
    · have k0 : 0 < ln N := by rw [ln_pos q1]; omega
      have k1 : ln N ≤ ln (rX N (z8 - p1 + dec).toNat) := rX_ge q1 (by omega)
      have k2 : 0 < rX N (z8 - p1 + dec).toNat := by
        rcases Nat.eq_zero_or_pos (rX N (z8 - p1 + dec).toNat) with q | q
        · rw [q, ln_0] at k1; omega
        · exact q
      have k3 := r2 k2
      rw [← hi_gX eY1 hdec k2 k3]
      refine ⟨p20, ?_⟩
      rw [p20, if_neg (by omega)]
      omega
  have c20 : -1100 ≤ z20 ∧ z20 ≤ 800 := by
    rw [p20]
    by_cases k5 : cn6 = 0
    · rw [if_pos k5]; omega
    · rw [if_neg k5]; omega
  refine lv_istore (lv' := [(4, .int (zI z20)), (0, .ref h), (1, .int (zI p1)), (2, .int (zI pt)), (3, .int (zI mk))]) S.1 S.2.1 dX2_putWithExponent_23 hl (by decide) rfl (fun ls hl => ?_)
  refine lv_aload_n S.1 S.2.1 dX2_putWithExponent_25 rfl (lv_at hl 1 rfl) ?_
  refine lv_iload S.1 S.2.1 dX2_putWithExponent_26 (lv_at hl 0 rfl) ?_
  refine lv_iload S.1 S.2.1 dX2_putWithExponent_28 (lv_at hl 0 rfl) ?_
  refine z_callvV (C := RX2) (n := 2) (As := [.int (zI z20), .int (zI z20)]) (rest := []) (wr := []) (wn := (fun (u : (Nat → Int) × Int) => [(h, .inr (2, [.ref hw, .ref hn])), (hw, .inr (1, [.ref ha, .int (zI lc), .ref hr1, .int (zI cn6), .int (zI dec)])), (ha, .inl (cL, 86, .inl (zA L))), (hr1, .inl (cR, 774, .inl (zA R6))), (hn, .inr (0, [.ref hc, .int (zI u.2)])), (hc, .inl (cC, 400, .inl (zA u.1)))])) S w (c_X2_putDigits l D cL cR cC h hw ha hr1 hn hc L lc R6 cn6 dec C len T z20 z20 hT r5 (by omega) (by omega) (by omega)) gX2_putWithExponent_X2_putDigits (by decide +kernel) rfl ⟨rfl, rfl⟩ ⟨Nat.le_of_ble_eq_true rfl, Nat.le_of_ble_eq_true rfl⟩ [0, 1, 2] [0, 1, 2, 3, 4, 5] [] [0, 1, 2, 3, 4, 5] rfl rfl rfl rfl rfl (by decide) (fun u => rfl) rfl rfl rfl rfl rfl hl.1 (Nat.le_of_ble_eq_true rfl) ⟨Nat.le_of_ble_eq_true rfl, Nat.le_of_ble_eq_true rfl⟩ rfl dX2_putWithExponent_30 (fun u H locs p30 w => ?_)
  obtain ⟨C30, len30⟩ := u
  have p30 : lRep C30 len30 (T ++ dT (fun x9 => dI R6 (x9 + dec)) z20 z20) ∧ len30 = len + ((z20 - z20 + 1).toNat : Int) := p30
  have w : zW D _ _ s [(h, .inr (2, [.ref hw, .ref hn])), (hw, .inr (1, [.ref ha, .int (zI lc), .ref hr1, .int (zI cn6), .int (zI dec)])), (ha, .inl (cL, 86, .inl (zA L))), (hr1, .inl (cR, 774, .inl (zA R6))), (hn, .inr (0, [.ref hc, .int (zI len30)])), (hc, .inl (cC, 400, .inl (zA C30)))] H locs := w
  refine lv_aload_n S.1 S.2.1 dX2_putWithExponent_33 rfl (lv_at hl 1 rfl) ?_
  refine lv_iload S.1 S.2.1 dX2_putWithExponent_34 (lv_at hl 0 rfl) ?_
  refine lv_iload_n S.1 S.2.1 dX2_putWithExponent_36 rfl (lv_at hl 2 rfl) ?_
  refine lv_iload_n S.1 S.2.1 dX2_putWithExponent_37 rfl (lv_at hl 3 rfl) ?_
  refine z_callvV (C := RX2) (n := 3) (As := [.int (zI z20), .int (zI p1), .int (zI pt)]) (rest := []) (wr := []) (wn := (fun (u : (Nat → Int) × Int) => [(h, .inr (2, [.ref hw, .ref hn])), (hw, .inr (1, [.ref ha, .int (zI lc), .ref hr1, .int (zI cn6), .int (zI dec)])), (ha, .inl (cL, 86, .inl (zA L))), (hr1, .inl (cR, 774, .inl (zA R6))), (hn, .inr (0, [.ref hc, .int (zI u.2)])), (hc, .inl (cC, 400, .inl (zA u.1)))])) S w (c_X2_putDecimals l D cL cR cC h hw ha hr1 hn hc L lc R6 cn6 dec C30 len30 _ z20 p1 pt p30.1 r5 (by omega) (by omega) (by omega) (by omega) (by omega)) gX2_putWithExponent_X2_putDecimals (by decide +kernel) rfl ⟨rfl, rfl⟩ ⟨Nat.le_of_ble_eq_true rfl, Nat.le_of_ble_eq_true rfl⟩ [0, 1, 2] [0, 1, 2, 3, 4, 5] [] [0, 1, 2, 3, 4, 5] rfl rfl rfl rfl rfl (by decide) (fun u => rfl) rfl rfl rfl rfl rfl hl.1 (Nat.le_of_ble_eq_true rfl) ⟨Nat.le_of_ble_eq_true rfl, Nat.le_of_ble_eq_true rfl⟩ rfl dX2_putWithExponent_38 (fun u H locs p38 w => ?_)
  obtain ⟨C38, len38⟩ := u
  have p38 : lRep C38 len38 (_ ++ ptT pt ++ dT (fun x9 => dI R6 (x9 + dec)) (z20 - 1) (z20 - p1)) ∧ len38 = len30 + ((ptT pt).length : Int) + p1 := p38
  have w : zW D _ _ s [(h, .inr (2, [.ref hw, .ref hn])), (hw, .inr (1, [.ref ha, .int (zI lc), .ref hr1, .int (zI cn6), .int (zI dec)])), (ha, .inl (cL, 86, .inl (zA L))), (hr1, .inl (cR, 774, .inl (zA R6))), (hn, .inr (0, [.ref hc, .int (zI len38)])), (hc, .inl (cC, 400, .inl (zA C38)))] H locs := w
  have hpl : ((ptT pt).length : Int) ≤ 1 := by
    unfold ptT
    by_cases k : pt = 1
    · rw [if_pos k]; decide
    · rw [if_neg k]; decide
  refine lv_aload_n S.1 S.2.1 dX2_putWithExponent_41 rfl (lv_at hl 1 rfl) ?_
  refine lv_iload S.1 S.2.1 dX2_putWithExponent_42 (lv_at hl 0 rfl) ?_
  refine lv_iload_n S.1 S.2.1 dX2_putWithExponent_44 rfl (lv_at hl 4 rfl) ?_
  refine z_callvV (C := RX2) (n := 2) (As := [.int (zI z20), .int (zI mk)]) (rest := []) (wr := [(hw, .inr (1, [.ref ha, .int (zI lc), .ref hr1, .int (zI cn6), .int (zI dec)])), (ha, .inl (cL, 86, .inl (zA L))), (hr1, .inl (cR, 774, .inl (zA R6)))]) (wn := (fun (u : (Nat → Int) × Int) => [(h, .inr (2, [.ref hw, .ref hn])), (hw, .inr (1, [.ref ha, .int (zI lc), .ref hr1, .int (zI cn6), .int (zI dec)])), (ha, .inl (cL, 86, .inl (zA L))), (hr1, .inl (cR, 774, .inl (zA R6))), (hn, .inr (0, [.ref hc, .int (zI u.2)])), (hc, .inl (cC, 400, .inl (zA u.1)))])) S w (c_X2_putExponent l D cC h hw hn hc C38 len38 _ z20 mk p38.1 (by omega) (by omega) (by omega)) gX2_putWithExponent_X2_putExponent (by decide +kernel) rfl ⟨rfl, rfl⟩ ⟨Nat.le_of_ble_eq_true rfl, Nat.le_of_ble_eq_true rfl⟩ [2] [0, 4, 5] [1, 2, 3] [3, 0, 1, 2, 4, 5] rfl rfl rfl rfl rfl (by decide) (fun u => rfl) rfl rfl rfl rfl rfl hl.1 (Nat.le_of_ble_eq_true rfl) ⟨Nat.le_of_ble_eq_true rfl, Nat.le_of_ble_eq_true rfl⟩ rfl dX2_putWithExponent_45 (fun u H locs p45 w => ?_)
  obtain ⟨C45, len45⟩ := u
  have p45 : lRep C45 len45 (_ ++ exT z20 mk) ∧ len45 = len38 + ((exT z20 mk).length : Int) := p45
  have w : zW D _ _ s [(h, .inr (2, [.ref hw, .ref hn])), (hw, .inr (1, [.ref ha, .int (zI lc), .ref hr1, .int (zI cn6), .int (zI dec)])), (ha, .inl (cL, 86, .inl (zA L))), (hr1, .inl (cR, 774, .inl (zA R6))), (hn, .inr (0, [.ref hc, .int (zI len45)])), (hc, .inl (cC, 400, .inl (zA C45)))] H locs := w
  have k1_ : lRep C45 len45 (T ++ epT X p1 pt mk) ∧ len45 ≤ 340 := by
    have q1 := p45.1
    have e1 : dT (fun q => dI R6 (q + dec)) z20 z20 = dT (gX Y) z20 z20 := dT_congr (fun q k1 k2 => hg q (by omega))
    have e2 : dT (fun q => dI R6 (q + dec)) (z20 - 1) (z20 - p1) = dT (gX Y) (z20 - 1) (z20 - p1) := dT_congr (fun q k1 k2 => hg q (by omega))
    rw [e1, e2, b20.1] at q1
    have hxl : ((exT z20 mk).length : Int) ≤ 5 := by
      unfold exT
      by_cases k : 100 ≤ exA z20
      · rw [if_pos k]; simp
      · rw [if_neg k]; simp
    unfold epT
    rw [eY0]
    simp only [List.append_assoc] at q1 ⊢
    exact ⟨q1, by omega⟩
  exact z_vret S hr hlk w (R6, cn6, C45, len45) k1_ rfl dX2_putWithExponent_48

set_option maxHeartbeats 4000000 in
set_option maxRecDepth 100000 in
theorem c_X2_putBody (l : Launch) (D : va_G) (cL cR cC : ClassId) (h : Nat) (hw : Nat) (ha : Nat) (hr1 : Nat) (hn : Nat) (hc : Nat) (L : Nat → Int) (lc : Int) (Rw : Nat → Int) (cnt : Int) (dec : Int) (C : Nat → Int) (len : Int) (T : List Int) (N : Nat) (X : Nat) (how : Int) (p1 : Int) (pt : Int) (hT : lRep C len T) (hrep : ∀ j : Nat, j < 774 → Rw j = (dg N j : Int)) (hcn : cnt = (ln N : Int)) (hdec : 0 ≤ dec ∧ dec ≤ 1074) (hN : N < 10 ^ 767) (hX : N * 10 ^ (1200 - dec).toNat = X) (hXb : X ≤ 2 * 10 ^ 1508) (hhow : 0 ≤ how ∧ how ≤ 2) (hp : 0 ≤ p1 ∧ p1 ≤ 15) (hpt : pt = 0 ∨ pt = 1) (hlen : len ≤ 10) : zMv (T := (Nat → Int) × Int × (Nat → Int) × Int) l yX2_putBody wsX2_putBody ({ frames := 5, cells := 0, slots := 0, locals := 112 } : Room) D [(cL, .int), (cR, .int), (cC, .char)] [.ref h, .int (zI how), .int (zI p1), .int (zI pt)] [(h, .inr (2, [.ref hw, .ref hn])), (hw, .inr (1, [.ref ha, .int (zI lc), .ref hr1, .int (zI cnt), .int (zI dec)])), (ha, .inl (cL, 86, .inl (zA L))), (hr1, .inl (cR, 774, .inl (zA Rw))), (hn, .inr (0, [.ref hc, .int (zI len)])), (hc, .inl (cC, 400, .inl (zA C)))] (fun (u : (Nat → Int) × Int × (Nat → Int) × Int) => lRep u.2.2.1 u.2.2.2 (T ++ (if how = 0 then plT X p1 pt else epT X p1 pt (if how = 2 then 69 else 101))) ∧ u.2.2.2 ≤ 340) (fun (u : (Nat → Int) × Int × (Nat → Int) × Int) => [(h, .inr (2, [.ref hw, .ref hn])), (hw, .inr (1, [.ref ha, .int (zI lc), .ref hr1, .int (zI u.2.1), .int (zI dec)])), (ha, .inl (cL, 86, .inl (zA L))), (hr1, .inl (cR, 774, .inl (zA u.1))), (hn, .inr (0, [.ref hc, .int (zI u.2.2.2)])), (hc, .inl (cC, 400, .inl (zA u.2.2.1)))]) 0 0 := by
  refine zMv.of (bytes := cX2_putBody) (nL := 4) (own := RX2) (by decide) rfl rfl (Nat.le_of_ble_eq_true rfl) ?_
  intro p e s m below meth c ls S hr hlk hnm w hl
  have hl : lv_has ls 4 [(0, .ref h), (1, .int (zI how)), (2, .int (zI p1)), (3, .int (zI pt))] := hl
  refine lv_iload_n S.1 S.2.1 dX2_putBody_0 rfl (lv_at hl 1 rfl) ?_
  refine z_if_ne (tgt := 13) S dX2_putBody_1 (by decide) (by omega) (fun h1 => ?_) (fun h1 => ?_)
  · skip
    refine lv_aload_n S.1 S.2.1 dX2_putBody_13 rfl (lv_at hl 0 rfl) ?_
    refine lv_iload_n S.1 S.2.1 dX2_putBody_14 rfl (lv_at hl 2 rfl) ?_
    refine lv_iload_n S.1 S.2.1 dX2_putBody_15 rfl (lv_at hl 3 rfl) ?_
    refine lv_iload_n S.1 S.2.1 dX2_putBody_16 rfl (lv_at hl 1 rfl) ?_
    refine z_iconst S dX2_putBody_17 ?_
    refine z_icmp_ne (tgt := 26) S dX2_putBody_18 (by decide) (by omega) (by omega) (fun h18 => ?_) (fun h18 => ?_)
    · skip
      refine z_bipush S dX2_putBody_26 (by decide +kernel) ?_
      refine z_callvV (C := RX2) (n := 3) (As := [.int (zI p1), .int (zI pt), .int (zI 101)]) (rest := []) (wr := []) (wn := (fun (u : (Nat → Int) × Int × (Nat → Int) × Int) => [(h, .inr (2, [.ref hw, .ref hn])), (hw, .inr (1, [.ref ha, .int (zI lc), .ref hr1, .int (zI u.2.1), .int (zI dec)])), (ha, .inl (cL, 86, .inl (zA L))), (hr1, .inl (cR, 774, .inl (zA u.1))), (hn, .inr (0, [.ref hc, .int (zI u.2.2.2)])), (hc, .inl (cC, 400, .inl (zA u.2.2.1)))])) S w (c_X2_putWithExponent l D cL cR cC h hw ha hr1 hn hc L lc Rw cnt dec C len T N X p1 pt 101 hT hrep (by omega) (by omega) hN hX hXb (by omega) (by omega) (by omega) (by omega)) gX2_putBody_X2_putWithExponent (by decide +kernel) rfl ⟨rfl, rfl⟩ ⟨Nat.le_of_ble_eq_true rfl, Nat.le_of_ble_eq_true rfl⟩ [0, 1, 2] [0, 1, 2, 3, 4, 5] [] [0, 1, 2, 3, 4, 5] rfl rfl rfl rfl rfl (by decide) (fun u => rfl) rfl rfl rfl rfl rfl hl.1 (Nat.le_of_ble_eq_true rfl) ⟨Nat.le_of_ble_eq_true rfl, Nat.le_of_ble_eq_true rfl⟩ rfl dX2_putBody_28 (fun u H locs p28 w => ?_)
      obtain ⟨Rw28, cnt28, C28, len28⟩ := u
      have p28 : lRep C28 len28 (T ++ epT X p1 pt (101 : Int)) ∧ len28 ≤ 340 := p28
      have w : zW D _ _ s [(h, .inr (2, [.ref hw, .ref hn])), (hw, .inr (1, [.ref ha, .int (zI lc), .ref hr1, .int (zI cnt28), .int (zI dec)])), (ha, .inl (cL, 86, .inl (zA L))), (hr1, .inl (cR, 774, .inl (zA Rw28))), (hn, .inr (0, [.ref hc, .int (zI len28)])), (hc, .inl (cC, 400, .inl (zA C28)))] H locs := w
      have k1_ : lRep C28 len28 (T ++ (if how = 0 then plT X p1 pt else epT X p1 pt (if how = 2 then 69 else 101))) ∧ len28 ≤ 340 := by
        rw [if_neg (by omega)]
        first
          | (rw [if_pos (show how = 2 by omega)]; exact p28)
          | (rw [if_neg (show ¬ how = 2 by omega)]; exact p28)
      exact z_vret S hr hlk w (Rw28, cnt28, C28, len28) k1_ rfl dX2_putBody_31
    · skip
      refine z_bipush S dX2_putBody_21 (by decide +kernel) ?_
      refine lv_goto (tgt := 28) S.1 S.2.1 dX2_putBody_23 (by decide) ?_
      refine z_callvV (C := RX2) (n := 3) (As := [.int (zI p1), .int (zI pt), .int (zI 69)]) (rest := []) (wr := []) (wn := (fun (u : (Nat → Int) × Int × (Nat → Int) × Int) => [(h, .inr (2, [.ref hw, .ref hn])), (hw, .inr (1, [.ref ha, .int (zI lc), .ref hr1, .int (zI u.2.1), .int (zI dec)])), (ha, .inl (cL, 86, .inl (zA L))), (hr1, .inl (cR, 774, .inl (zA u.1))), (hn, .inr (0, [.ref hc, .int (zI u.2.2.2)])), (hc, .inl (cC, 400, .inl (zA u.2.2.1)))])) S w (c_X2_putWithExponent l D cL cR cC h hw ha hr1 hn hc L lc Rw cnt dec C len T N X p1 pt 69 hT hrep (by omega) (by omega) hN hX hXb (by omega) (by omega) (by omega) (by omega)) gX2_putBody_X2_putWithExponent (by decide +kernel) rfl ⟨rfl, rfl⟩ ⟨Nat.le_of_ble_eq_true rfl, Nat.le_of_ble_eq_true rfl⟩ [0, 1, 2] [0, 1, 2, 3, 4, 5] [] [0, 1, 2, 3, 4, 5] rfl rfl rfl rfl rfl (by decide) (fun u => rfl) rfl rfl rfl rfl rfl hl.1 (Nat.le_of_ble_eq_true rfl) ⟨Nat.le_of_ble_eq_true rfl, Nat.le_of_ble_eq_true rfl⟩ rfl dX2_putBody_28 (fun u H locs p28 w => ?_)
      obtain ⟨Rw28, cnt28, C28, len28⟩ := u
      have p28 : lRep C28 len28 (T ++ epT X p1 pt (69 : Int)) ∧ len28 ≤ 340 := p28
      have w : zW D _ _ s [(h, .inr (2, [.ref hw, .ref hn])), (hw, .inr (1, [.ref ha, .int (zI lc), .ref hr1, .int (zI cnt28), .int (zI dec)])), (ha, .inl (cL, 86, .inl (zA L))), (hr1, .inl (cR, 774, .inl (zA Rw28))), (hn, .inr (0, [.ref hc, .int (zI len28)])), (hc, .inl (cC, 400, .inl (zA C28)))] H locs := w
      have k2_ : lRep C28 len28 (T ++ (if how = 0 then plT X p1 pt else epT X p1 pt (if how = 2 then 69 else 101))) ∧ len28 ≤ 340 := by
        rw [if_neg (by omega)]
        first
          | (rw [if_pos (show how = 2 by omega)]; exact p28)
          | (rw [if_neg (show ¬ how = 2 by omega)]; exact p28)
      exact z_vret S hr hlk w (Rw28, cnt28, C28, len28) k2_ rfl dX2_putBody_31
  · skip
    refine lv_aload_n S.1 S.2.1 dX2_putBody_4 rfl (lv_at hl 0 rfl) ?_
    refine lv_iload_n S.1 S.2.1 dX2_putBody_5 rfl (lv_at hl 2 rfl) ?_
    refine lv_iload_n S.1 S.2.1 dX2_putBody_6 rfl (lv_at hl 3 rfl) ?_
    refine z_callvV (C := RX2) (n := 2) (As := [.int (zI p1), .int (zI pt)]) (rest := []) (wr := []) (wn := (fun (u : (Nat → Int) × Int × (Nat → Int) × Int) => [(h, .inr (2, [.ref hw, .ref hn])), (hw, .inr (1, [.ref ha, .int (zI lc), .ref hr1, .int (zI u.2.1), .int (zI dec)])), (ha, .inl (cL, 86, .inl (zA L))), (hr1, .inl (cR, 774, .inl (zA u.1))), (hn, .inr (0, [.ref hc, .int (zI u.2.2.2)])), (hc, .inl (cC, 400, .inl (zA u.2.2.1)))])) S w (c_X2_putPlain l D cL cR cC h hw ha hr1 hn hc L lc Rw cnt dec C len T N X p1 pt hT hrep (by omega) (by omega) hN hX hXb (by omega) (by omega) (by omega)) gX2_putBody_X2_putPlain (by decide +kernel) rfl ⟨rfl, rfl⟩ ⟨Nat.le_of_ble_eq_true rfl, Nat.le_of_ble_eq_true rfl⟩ [0, 1, 2] [0, 1, 2, 3, 4, 5] [] [0, 1, 2, 3, 4, 5] rfl rfl rfl rfl rfl (by decide) (fun u => rfl) rfl rfl rfl rfl rfl hl.1 (Nat.le_of_ble_eq_true rfl) ⟨Nat.le_of_ble_eq_true rfl, Nat.le_of_ble_eq_true rfl⟩ rfl dX2_putBody_7 (fun u H locs p7 w => ?_)
    obtain ⟨Rw7, cnt7, C7, len7⟩ := u
    have p7 : lRep C7 len7 (T ++ plT X p1 pt) ∧ len7 ≤ 340 := p7
    have w : zW D _ _ s [(h, .inr (2, [.ref hw, .ref hn])), (hw, .inr (1, [.ref ha, .int (zI lc), .ref hr1, .int (zI cnt7), .int (zI dec)])), (ha, .inl (cL, 86, .inl (zA L))), (hr1, .inl (cR, 774, .inl (zA Rw7))), (hn, .inr (0, [.ref hc, .int (zI len7)])), (hc, .inl (cC, 400, .inl (zA C7)))] H locs := w
    refine lv_goto (tgt := 31) S.1 S.2.1 dX2_putBody_10 (by decide) ?_
    exact z_vret S hr hlk w (Rw7, cnt7, C7, len7) (by rw [if_pos (by omega)]; exact p7) rfl dX2_putBody_31

set_option maxRecDepth 20000 in
theorem ln_X2_digits_12 : Cond.fieldLink RX2 12 "DecimalText" "worth" "LDecimalText$Worth;" ∈ wsX2_digits := by decide +kernel
theorem in_X2_digits_X2 : ∀ w ∈ u_ws RX2 TX2 2, w ∈ wsX2_digits := by decide +kernel
set_option maxHeartbeats 4000000 in
set_option maxRecDepth 100000 in
theorem c_X2_digits (l : Launch) (D : va_G) (cL cR : ClassId) (h : Nat) (hw : Nat) (ha : Nat) (hr1 : Nat) (hn : Nat) (L : Nat → Int) (lc : Int) (Rw : Nat → Int) (cnt : Int) (dec : Int) (bz : Int) (hbz : -9223372036854775808 ≤ bz ∧ bz ≤ 9223372036854775807) : zMi (T := (Nat → Int) × Int × (Nat → Int) × Int × Int) l yX2_digits wsX2_digits ({ frames := 4, cells := 0, slots := 0, locals := 97 } : Room) D [(cL, .int), (cR, .int)] [.ref h, .long (lI bz)] [(h, .inr (2, [.ref hw, .ref hn])), (hw, .inr (1, [.ref ha, .int (zI lc), .ref hr1, .int (zI cnt), .int (zI dec)])), (ha, .inl (cL, 86, .inl (zA L))), (hr1, .inl (cR, 774, .inl (zA Rw)))] (fun (z : Int) (u : (Nat → Int) × Int × (Nat → Int) × Int × Int) => (xE bz = 2047 ∧ z = -1) ∨ (xE bz ≠ 2047 ∧ sgX (xX bz) z)) (fun (u : (Nat → Int) × Int × (Nat → Int) × Int × Int) => [(h, .inr (2, [.ref hw, .ref hn])), (hw, .inr (1, [.ref ha, .int (zI u.2.1), .ref hr1, .int (zI u.2.2.2.1), .int (zI u.2.2.2.2)])), (ha, .inl (cL, 86, .inl (zA u.1))), (hr1, .inl (cR, 774, .inl (zA u.2.2.1)))]) 0 0 := by
  refine zMi.of (bytes := cX2_digits) (nL := 3) (own := RX2) (by decide) rfl rfl (Nat.le_of_ble_eq_true rfl) ?_
  intro p e s m below meth c ls S hr hlk hnm w hl
  have hl : lv_has ls 3 [(0, .ref h), (1, .long (lI bz))] := hl
  refine lv_lload_n S.1 S.2.1 dX2_digits_0 rfl (lv_at hl 1 rfl) ?_
  refine z_calliS (n := 1) (As := [.long (lI bz)]) (rest := []) (wr := [(h, .inr (2, [.ref hw, .ref hn])), (hw, .inr (1, [.ref ha, .int (zI lc), .ref hr1, .int (zI cnt), .int (zI dec)])), (ha, .inl (cL, 86, .inl (zA L))), (hr1, .inl (cR, 774, .inl (zA Rw)))]) (wn := (fun (u : Unit) => [(h, .inr (2, [.ref hw, .ref hn])), (hw, .inr (1, [.ref ha, .int (zI lc), .ref hr1, .int (zI cnt), .int (zI dec)])), (ha, .inl (cL, 86, .inl (zA L))), (hr1, .inl (cR, 774, .inl (zA Rw)))])) S w (c_X2_isFinite l D bz (by omega)) gX2_digits_X2_isFinite (by decide +kernel) rfl ⟨rfl, rfl⟩ ⟨Nat.le_of_ble_eq_true rfl, Nat.le_of_ble_eq_true rfl⟩ [] [] [0, 1, 2, 3] [0, 1, 2, 3] rfl rfl rfl rfl rfl (by decide) (fun u => rfl) rfl rfl hl.1 (Nat.le_of_ble_eq_true rfl) ⟨Nat.le_of_ble_eq_true rfl, Nat.le_of_ble_eq_true rfl⟩ rfl dX2_digits_1 (fun z1 _ H locs p1 w => ?_)
  have p1 : (z1 = 1 ∧ xE bz ≠ 2047) ∨ (z1 = 0 ∧ xE bz = 2047) := p1
  have w : zW D _ _ s [(h, .inr (2, [.ref hw, .ref hn])), (hw, .inr (1, [.ref ha, .int (zI lc), .ref hr1, .int (zI cnt), .int (zI dec)])), (ha, .inl (cL, 86, .inl (zA L))), (hr1, .inl (cR, 774, .inl (zA Rw)))] H locs := w
  refine z_if_ne (tgt := 9) S dX2_digits_4 (by decide) (by omega) (fun h4 => ?_) (fun h4 => ?_)
  · skip
    refine lv_aload_n S.1 S.2.1 dX2_digits_9 rfl (lv_at hl 0 rfl) ?_
    refine z_get (ci := 2) (C := RX2) (T := TX2) (N := 2) S w 0 rfl rfl in_X2_digits_X2 0 (by decide) ln_X2_digits_12 rfl rfl dX2_digits_10 ?_
    refine lv_lload_n S.1 S.2.1 dX2_digits_13 rfl (lv_at hl 1 rfl) ?_
    refine z_callvV (C := RX1) (n := 1) (As := [.long (lI bz)]) (rest := []) (wr := [(h, .inr (2, [.ref hw, .ref hn]))]) (wn := (fun (u : (Nat → Int) × Int × (Nat → Int) × Int × Int) => [(h, .inr (2, [.ref hw, .ref hn])), (hw, .inr (1, [.ref ha, .int (zI u.2.1), .ref hr1, .int (zI u.2.2.2.1), .int (zI u.2.2.2.2)])), (ha, .inl (cL, 86, .inl (zA u.1))), (hr1, .inl (cR, 774, .inl (zA u.2.2.1)))])) S w (c_X1_take l D cL cR hw ha hr1 L lc Rw cnt dec bz (by omega) (by omega)) gX2_digits_X1_take (by decide +kernel) rfl ⟨rfl, rfl⟩ ⟨Nat.le_of_ble_eq_true rfl, Nat.le_of_ble_eq_true rfl⟩ [0, 1] [1, 2, 3] [0] [0, 1, 2, 3] rfl rfl rfl rfl rfl (by decide) (fun u => rfl) rfl rfl rfl rfl rfl hl.1 (Nat.le_of_ble_eq_true rfl) ⟨Nat.le_of_ble_eq_true rfl, Nat.le_of_ble_eq_true rfl⟩ rfl dX2_digits_14 (fun u H locs p14 w => ?_)
    obtain ⟨L14, lc14, Rw14, cnt14, dec14⟩ := u
    have p14 : ∃ N : Nat, (∀ j : Nat, j < 774 → Rw14 j = (dg N j : Int)) ∧ cnt14 = (ln N : Int) ∧ (0 ≤ dec14 ∧ dec14 ≤ 1074) ∧ N * 10 ^ (1200 - dec14).toNat = xX bz ∧ N < 10 ^ 767 := p14
    have w : zW D _ _ s [(h, .inr (2, [.ref hw, .ref hn])), (hw, .inr (1, [.ref ha, .int (zI lc14), .ref hr1, .int (zI cnt14), .int (zI dec14)])), (ha, .inl (cL, 86, .inl (zA L14))), (hr1, .inl (cR, 774, .inl (zA Rw14)))] H locs := w
    obtain ⟨N, n1, n2, n3, n4, n5⟩ := p14
    have n6 := ln_le_of n5
    have h9 : ∀ j : Nat, j < 774 → 0 ≤ Rw14 j ∧ Rw14 j ≤ 9 := fun j q => by rw [n1 j q]; have := dg_lt N j; omega
    refine lv_aload_n S.1 S.2.1 dX2_digits_17 rfl (lv_at hl 0 rfl) ?_
    refine z_get (ci := 2) (C := RX2) (T := TX2) (N := 2) S w 0 rfl rfl in_X2_digits_X2 0 (by decide) ln_X2_digits_12 rfl rfl dX2_digits_18 ?_
    refine z_calliV (C := RX1) (n := 0) (As := []) (rest := []) (wr := [(h, .inr (2, [.ref hw, .ref hn]))]) (wn := (fun (u : Unit) => [(h, .inr (2, [.ref hw, .ref hn])), (hw, .inr (1, [.ref ha, .int (zI lc14), .ref hr1, .int (zI cnt14), .int (zI dec14)])), (ha, .inl (cL, 86, .inl (zA L14))), (hr1, .inl (cR, 774, .inl (zA Rw14)))])) S w (c_X1_digitCount l D cL cR hw ha hr1 L14 lc14 Rw14 cnt14 dec14 (by omega) h9) gX2_digits_X1_digitCount (by decide +kernel) rfl ⟨rfl, rfl⟩ ⟨Nat.le_of_ble_eq_true rfl, Nat.le_of_ble_eq_true rfl⟩ [0, 1] [1, 2, 3] [0] [0, 1, 2, 3] rfl rfl rfl rfl rfl (by decide) (fun u => rfl) rfl rfl rfl rfl rfl hl.1 (Nat.le_of_ble_eq_true rfl) ⟨Nat.le_of_ble_eq_true rfl, Nat.le_of_ble_eq_true rfl⟩ rfl dX2_digits_21 (fun z21 _ H locs p21 w => ?_)
    have p21 : ∃ k : Int, z21 = cnt14 - k ∧ (0 ≤ k ∧ k ≤ cnt14) ∧ (∀ j : Nat, (j : Int) < k → Rw14 j = 0) ∧ (k < cnt14 → Rw14 k.toNat ≠ 0) := p21
    have w : zW D _ _ s [(h, .inr (2, [.ref hw, .ref hn])), (hw, .inr (1, [.ref ha, .int (zI lc14), .ref hr1, .int (zI cnt14), .int (zI dec14)])), (ha, .inl (cL, 86, .inl (zA L14))), (hr1, .inl (cR, 774, .inl (zA Rw14)))] H locs := w
    obtain ⟨k, k1, k2, k3, k4⟩ := p21
    exact z_iret S hr hlk w (zNar_int _) (L14, lc14, Rw14, cnt14, dec14) (Or.inr ⟨by omega, by rw [k1]; exact sg_row n4 n1 n2 n5 k2 k3 k4⟩) rfl dX2_digits_24
  · skip
    refine z_iconst S dX2_digits_7 ?_
    exact z_iret S hr hlk w (zNar_int _) (L, lc, Rw, cnt, dec) (Or.inl ⟨by omega, rfl⟩) rfl dX2_digits_8
end
section
set_option maxRecDepth 20000 in
theorem ln_X2_make_19 : Cond.fieldLink RX2 19 "DecimalText" "line" "LDecimalText$Line;" ∈ wsX2_make := by decide +kernel
theorem in_X2_make_X2 : ∀ w ∈ u_ws RX2 TX2 2, w ∈ wsX2_make := by decide +kernel
set_option maxRecDepth 20000 in
theorem ln_X2_make_12 : Cond.fieldLink RX2 12 "DecimalText" "worth" "LDecimalText$Worth;" ∈ wsX2_make := by decide +kernel
set_option maxHeartbeats 4000000 in
set_option maxRecDepth 100000 in
theorem c_X2_make (l : Launch) (D : va_G) (cL cR cC : ClassId) (h : Nat) (hw : Nat) (ha : Nat) (hr1 : Nat) (hn : Nat) (hc : Nat) (L : Nat → Int) (lc : Int) (Rw : Nat → Int) (cnt : Int) (dec : Int) (C : Nat → Int) (len : Int) (bz : Int) (how : Int) (p1 : Int) (wd : Int) (fl : Int) (hbz : -9223372036854775808 ≤ bz ∧ bz ≤ 9223372036854775807) (a1 : -2147483648 ≤ how ∧ how ≤ 2147483647) (a2 : -2147483648 ≤ p1 ∧ p1 ≤ 2147483647) (a3 : -2147483648 ≤ wd ∧ wd ≤ 2147483647) (a4 : -2147483648 ≤ fl ∧ fl ≤ 2147483647) : zMi (T := (Nat → Int) × Int × (Nat → Int) × Int × Int × (Nat → Int) × Int) l yX2_make wsX2_make ({ frames := 6, cells := 0, slots := 0, locals := 135 } : Room) D [(cL, .int), (cR, .int), (cC, .char)] [.ref h, .long (lI bz), .int (zI how), .int (zI p1), .int (zI wd), .int (zI fl)] [(h, .inr (2, [.ref hw, .ref hn])), (hw, .inr (1, [.ref ha, .int (zI lc), .ref hr1, .int (zI cnt), .int (zI dec)])), (ha, .inl (cL, 86, .inl (zA L))), (hr1, .inl (cR, 774, .inl (zA Rw))), (hn, .inr (0, [.ref hc, .int (zI len)])), (hc, .inl (cC, 400, .inl (zA C)))] (fun (z : Int) (u : (Nat → Int) × Int × (Nat → Int) × Int × Int × (Nat → Int) × Int) => (¬ okF bz how p1 wd fl ∧ z = -1 ∧ u.2.2.2.2.2.1 = C ∧ u.2.2.2.2.2.2 = len) ∨ (okF bz how p1 wd fl ∧ z = ((mkT bz how p1 wd fl).length : Int) ∧ tRep u.2.2.2.2.2.1 u.2.2.2.2.2.2 (mkT bz how p1 wd fl) ∧ u.2.2.2.2.2.2 ≤ 400)) (fun (u : (Nat → Int) × Int × (Nat → Int) × Int × Int × (Nat → Int) × Int) => [(h, .inr (2, [.ref hw, .ref hn])), (hw, .inr (1, [.ref ha, .int (zI u.2.1), .ref hr1, .int (zI u.2.2.2.1), .int (zI u.2.2.2.2.1)])), (ha, .inl (cL, 86, .inl (zA u.1))), (hr1, .inl (cR, 774, .inl (zA u.2.2.1))), (hn, .inr (0, [.ref hc, .int (zI u.2.2.2.2.2.2)])), (hc, .inl (cC, 400, .inl (zA u.2.2.2.2.2.1)))]) 0 0 := by
  refine zMi.of (bytes := cX2_make) (nL := 9) (own := RX2) (by decide) rfl rfl (Nat.le_of_ble_eq_true rfl) ?_
  intro p e s m below meth c ls S hr hlk hnm w hl
  have lab98 : ∀ (L1 : Nat → Int) (lc1 : Int) (R1 : Nat → Int) (cn1 : Int) (de1 : Int) (C1 : Nat → Int) (len1 : Int) (sg : Int) (fi : Int), (okF bz how p1 wd fl) → (lRep C1 len1 (bare bz how p1 fl)) → (len1 ≤ 350) → (sg = ((sgT bz fl).length : Int)) → ((fi = 1 ∧ xE bz ≠ 2047) ∨ (fi = 0 ∧ xE bz = 2047)) → ∀ (H : Heap) (locs : List Loc) (ls : Array Slot), zW D [(cL, .int), (cR, .int), (cC, .char)] (va_A [(h, .inr (2, [.ref hw, .ref hn])), (hw, .inr (1, [.ref ha, .int (zI lc), .ref hr1, .int (zI cnt), .int (zI dec)])), (ha, .inl (cL, 86, .inl (zA L))), (hr1, .inl (cR, 774, .inl (zA Rw))), (hn, .inr (0, [.ref hc, .int (zI len)])), (hc, .inl (cC, 400, .inl (zA C)))] s.heap.size) s [(h, .inr (2, [.ref hw, .ref hn])), (hw, .inr (1, [.ref ha, .int (zI lc1), .ref hr1, .int (zI cn1), .int (zI de1)])), (ha, .inl (cL, 86, .inl (zA L1))), (hr1, .inl (cR, 774, .inl (zA R1))), (hn, .inr (0, [.ref hc, .int (zI len1)])), (hc, .inl (cC, 400, .inl (zA C1)))] H locs → lv_has ls 9 [(0, .ref h), (5, .int (zI wd)), (6, .int (zI fl)), (7, .int (zI sg)), (8, .int (zI fi))] → W p l e ({ frames := 6, cells := 0, slots := 0, locals := 135 } : Room) s m ([.ref h, .long (lI bz), .int (zI how), .int (zI p1), .int (zI wd), .int (zI fl)] : List Value).toArray below meth c H locs 0 0 (MQ below (zQi D [(cL, .int), (cR, .int), (cC, .char)] [(h, .inr (2, [.ref hw, .ref hn])), (hw, .inr (1, [.ref ha, .int (zI lc), .ref hr1, .int (zI cnt), .int (zI dec)])), (ha, .inl (cL, 86, .inl (zA L))), (hr1, .inl (cR, 774, .inl (zA Rw))), (hn, .inr (0, [.ref hc, .int (zI len)])), (hc, .inl (cC, 400, .inl (zA C)))] s.heap.size (fun (z : Int) (u : (Nat → Int) × Int × (Nat → Int) × Int × Int × (Nat → Int) × Int) => (¬ okF bz how p1 wd fl ∧ z = -1 ∧ u.2.2.2.2.2.1 = C ∧ u.2.2.2.2.2.2 = len) ∨ (okF bz how p1 wd fl ∧ z = ((mkT bz how p1 wd fl).length : Int) ∧ tRep u.2.2.2.2.2.1 u.2.2.2.2.2.2 (mkT bz how p1 wd fl) ∧ u.2.2.2.2.2.2 ≤ 400)) (fun (u : (Nat → Int) × Int × (Nat → Int) × Int × Int × (Nat → Int) × Int) => [(h, .inr (2, [.ref hw, .ref hn])), (hw, .inr (1, [.ref ha, .int (zI u.2.1), .ref hr1, .int (zI u.2.2.2.1), .int (zI u.2.2.2.2.1)])), (ha, .inl (cL, 86, .inl (zA u.1))), (hr1, .inl (cR, 774, .inl (zA u.2.2.1))), (hn, .inr (0, [.ref hc, .int (zI u.2.2.2.2.2.2)])), (hc, .inl (cC, 400, .inl (zA u.2.2.2.2.2.1)))])) ([.ref h, .long (lI bz), .int (zI how), .int (zI p1), .int (zI wd), .int (zI fl)] : List Value).toArray s 0 0 (va_A [(h, .inr (2, [.ref hw, .ref hn])), (hw, .inr (1, [.ref ha, .int (zI lc), .ref hr1, .int (zI cnt), .int (zI dec)])), (ha, .inl (cL, 86, .inl (zA L))), (hr1, .inl (cR, 774, .inl (zA Rw))), (hn, .inr (0, [.ref hc, .int (zI len)])), (hc, .inl (cC, 400, .inl (zA C)))] s.heap.size)) (F0 m 98 ls []) := by
    intro L1 lc1 R1 cn1 de1 C1 len1 sg fi hok t1 hlen1 hsg hfi H locs ls w hl
    have hk2 := hok
    unfold okF at hk2
    have hl1 := t1.1.1
    have hbl : ((sgT bz fl).length : Int) ≤ ((bare bz how p1 fl).length : Int) := by unfold bare; rw [List.length_append]; omega
    refine lv_aload_n S.1 S.2.1 dX2_make_98 rfl (lv_at hl 0 rfl) ?_
    refine lv_iload S.1 S.2.1 dX2_make_99 (lv_at hl 3 rfl) ?_
    refine lv_iload S.1 S.2.1 dX2_make_101 (lv_at hl 1 rfl) ?_
    refine lv_aload_n S.1 S.2.1 dX2_make_103 rfl (lv_at hl 0 rfl) ?_
    refine z_get (ci := 2) (C := RX2) (T := TX2) (N := 2) S w 0 rfl rfl in_X2_make_X2 1 (by decide) ln_X2_make_19 rfl rfl dX2_make_104 ?_
    refine z_calliV (C := RX0) (n := 0) (As := []) (rest := [.int (zI wd), .int (zI sg), .ref h]) (wr := [(h, .inr (2, [.ref hw, .ref hn])), (hw, .inr (1, [.ref ha, .int (zI lc1), .ref hr1, .int (zI cn1), .int (zI de1)])), (ha, .inl (cL, 86, .inl (zA L1))), (hr1, .inl (cR, 774, .inl (zA R1)))]) (wn := (fun (u : Unit) => [(h, .inr (2, [.ref hw, .ref hn])), (hw, .inr (1, [.ref ha, .int (zI lc1), .ref hr1, .int (zI cn1), .int (zI de1)])), (ha, .inl (cL, 86, .inl (zA L1))), (hr1, .inl (cR, 774, .inl (zA R1))), (hn, .inr (0, [.ref hc, .int (zI len1)])), (hc, .inl (cC, 400, .inl (zA C1)))])) S w (c_X0_length l D cC hn hc C1 len1) gX2_make_X0_length (by decide +kernel) rfl ⟨rfl, rfl⟩ ⟨Nat.le_of_ble_eq_true rfl, Nat.le_of_ble_eq_true rfl⟩ [2] [4, 5] [0, 1, 2, 3] [0, 1, 2, 3, 4, 5] rfl rfl rfl rfl rfl (by decide) (fun u => rfl) rfl rfl rfl rfl rfl hl.1 (Nat.le_of_ble_eq_true rfl) ⟨Nat.le_of_ble_eq_true rfl, Nat.le_of_ble_eq_true rfl⟩ rfl dX2_make_107 (fun z107 _ H locs p107 w => ?_)
    have p107 : z107 = len1 := p107
    have w : zW D _ _ s [(h, .inr (2, [.ref hw, .ref hn])), (hw, .inr (1, [.ref ha, .int (zI lc1), .ref hr1, .int (zI cn1), .int (zI de1)])), (ha, .inl (cL, 86, .inl (zA L1))), (hr1, .inl (cR, 774, .inl (zA R1))), (hn, .inr (0, [.ref hc, .int (zI len1)])), (hc, .inl (cC, 400, .inl (zA C1)))] H locs := w
    refine z_isub S dX2_make_110 ?_
    refine lv_iload S.1 S.2.1 dX2_make_111 (lv_at hl 4 rfl) ?_
    refine lv_iload S.1 S.2.1 dX2_make_113 (lv_at hl 2 rfl) ?_
    refine z_callvV (C := RX2) (n := 4) (As := [.int (zI sg), .int (zI (wd - z107)), .int (zI fi), .int (zI fl)]) (rest := []) (wr := [(hw, .inr (1, [.ref ha, .int (zI lc1), .ref hr1, .int (zI cn1), .int (zI de1)])), (ha, .inl (cL, 86, .inl (zA L1))), (hr1, .inl (cR, 774, .inl (zA R1)))]) (wn := (fun (u : (Nat → Int) × Int) => [(h, .inr (2, [.ref hw, .ref hn])), (hw, .inr (1, [.ref ha, .int (zI lc1), .ref hr1, .int (zI cn1), .int (zI de1)])), (ha, .inl (cL, 86, .inl (zA L1))), (hr1, .inl (cR, 774, .inl (zA R1))), (hn, .inr (0, [.ref hc, .int (zI u.2)])), (hc, .inl (cC, 400, .inl (zA u.1)))])) S w (c_X2_pad l D cC h hw hn hc C1 len1 (bare bz how p1 fl) sg (wd - z107) fi fl t1 (by omega) (by omega) (by omega) (by omega) (by omega)) gX2_make_X2_pad (by decide +kernel) rfl ⟨rfl, rfl⟩ ⟨Nat.le_of_ble_eq_true rfl, Nat.le_of_ble_eq_true rfl⟩ [2] [0, 4, 5] [1, 2, 3] [3, 0, 1, 2, 4, 5] rfl rfl rfl rfl rfl (by decide) (fun u => rfl) rfl rfl rfl rfl rfl hl.1 (Nat.le_of_ble_eq_true rfl) ⟨Nat.le_of_ble_eq_true rfl, Nat.le_of_ble_eq_true rfl⟩ rfl dX2_make_115 (fun u H locs p115 w => ?_)
    obtain ⟨C115, len115⟩ := u
    have p115 : tRep C115 len115 (padT (bare bz how p1 fl) sg (wd - z107) fi fl) := p115
    have w : zW D _ _ s [(h, .inr (2, [.ref hw, .ref hn])), (hw, .inr (1, [.ref ha, .int (zI lc1), .ref hr1, .int (zI cn1), .int (zI de1)])), (ha, .inl (cL, 86, .inl (zA L1))), (hr1, .inl (cR, 774, .inl (zA R1))), (hn, .inr (0, [.ref hc, .int (zI len115)])), (hc, .inl (cC, 400, .inl (zA C115)))] H locs := w
    have tm : tRep C115 len115 (mkT bz how p1 wd fl) := by
      have e : (if xE bz = 2047 then (0 : Int) else 1) = fi := by
        by_cases q : xE bz = 2047
        · rw [if_pos q]; omega
        · rw [if_neg q]; omega
      unfold mkT
      rw [e, ← hsg, ← hl1, ← p107]
      exact p115
    have tl := tm.1
    have tl2 : ((mkT bz how p1 wd fl).length : Int) ≤ 400 := by
      unfold mkT
      rw [padT_len _ (by omega)]
      by_cases q : 0 < wd - ((bare bz how p1 fl).length : Int)
      · rw [if_pos q]; omega
      · rw [if_neg q]; omega
    refine lv_aload_n S.1 S.2.1 dX2_make_118 rfl (lv_at hl 0 rfl) ?_
    refine z_get (ci := 2) (C := RX2) (T := TX2) (N := 2) S w 0 rfl rfl in_X2_make_X2 1 (by decide) ln_X2_make_19 rfl rfl dX2_make_119 ?_
    refine z_calliV (C := RX0) (n := 0) (As := []) (rest := []) (wr := [(h, .inr (2, [.ref hw, .ref hn])), (hw, .inr (1, [.ref ha, .int (zI lc1), .ref hr1, .int (zI cn1), .int (zI de1)])), (ha, .inl (cL, 86, .inl (zA L1))), (hr1, .inl (cR, 774, .inl (zA R1)))]) (wn := (fun (u : Unit) => [(h, .inr (2, [.ref hw, .ref hn])), (hw, .inr (1, [.ref ha, .int (zI lc1), .ref hr1, .int (zI cn1), .int (zI de1)])), (ha, .inl (cL, 86, .inl (zA L1))), (hr1, .inl (cR, 774, .inl (zA R1))), (hn, .inr (0, [.ref hc, .int (zI len115)])), (hc, .inl (cC, 400, .inl (zA C115)))])) S w (c_X0_length l D cC hn hc C115 len115) gX2_make_X0_length (by decide +kernel) rfl ⟨rfl, rfl⟩ ⟨Nat.le_of_ble_eq_true rfl, Nat.le_of_ble_eq_true rfl⟩ [2] [4, 5] [0, 1, 2, 3] [0, 1, 2, 3, 4, 5] rfl rfl rfl rfl rfl (by decide) (fun u => rfl) rfl rfl rfl rfl rfl hl.1 (Nat.le_of_ble_eq_true rfl) ⟨Nat.le_of_ble_eq_true rfl, Nat.le_of_ble_eq_true rfl⟩ rfl dX2_make_122 (fun z122 _ H locs p122 w => ?_)
    have p122 : z122 = len115 := p122
    have w : zW D _ _ s [(h, .inr (2, [.ref hw, .ref hn])), (hw, .inr (1, [.ref ha, .int (zI lc1), .ref hr1, .int (zI cn1), .int (zI de1)])), (ha, .inl (cL, 86, .inl (zA L1))), (hr1, .inl (cR, 774, .inl (zA R1))), (hn, .inr (0, [.ref hc, .int (zI len115)])), (hc, .inl (cC, 400, .inl (zA C115)))] H locs := w
    exact z_iret S hr hlk w (zNar_int _) (L1, lc1, R1, cn1, de1, C115, len115) (Or.inr ⟨hok, by omega, tm, (show len115 ≤ 400 by omega)⟩) rfl dX2_make_125
  have lab88 : ∀ (L1 : Nat → Int) (lc1 : Int) (R1 : Nat → Int) (cn1 : Int) (de1 : Int) (C1 : Nat → Int) (len1 : Int) (sg : Int) (fi : Int) (pt : Int) (N : Nat), (okF bz how p1 wd fl) → (lRep C1 len1 (sgT bz fl)) → (len1 ≤ 1) → (sg = ((sgT bz fl).length : Int)) → ((fi = 1 ∧ xE bz ≠ 2047)) → (pt = ptF p1 fl) → (∀ j : Nat, j < 774 → R1 j = (dg N j : Int)) → (cn1 = (ln N : Int)) → (0 ≤ de1 ∧ de1 ≤ 1074) → (N * 10 ^ (1200 - de1).toNat = xX bz) → (N < 10 ^ 767) → ∀ (H : Heap) (locs : List Loc) (ls : Array Slot), zW D [(cL, .int), (cR, .int), (cC, .char)] (va_A [(h, .inr (2, [.ref hw, .ref hn])), (hw, .inr (1, [.ref ha, .int (zI lc), .ref hr1, .int (zI cnt), .int (zI dec)])), (ha, .inl (cL, 86, .inl (zA L))), (hr1, .inl (cR, 774, .inl (zA Rw))), (hn, .inr (0, [.ref hc, .int (zI len)])), (hc, .inl (cC, 400, .inl (zA C)))] s.heap.size) s [(h, .inr (2, [.ref hw, .ref hn])), (hw, .inr (1, [.ref ha, .int (zI lc1), .ref hr1, .int (zI cn1), .int (zI de1)])), (ha, .inl (cL, 86, .inl (zA L1))), (hr1, .inl (cR, 774, .inl (zA R1))), (hn, .inr (0, [.ref hc, .int (zI len1)])), (hc, .inl (cC, 400, .inl (zA C1)))] H locs → lv_has ls 9 [(0, .ref h), (5, .int (zI wd)), (6, .int (zI fl)), (7, .int (zI sg)), (8, .int (zI fi))] → W p l e ({ frames := 6, cells := 0, slots := 0, locals := 135 } : Room) s m ([.ref h, .long (lI bz), .int (zI how), .int (zI p1), .int (zI wd), .int (zI fl)] : List Value).toArray below meth c H locs 0 0 (MQ below (zQi D [(cL, .int), (cR, .int), (cC, .char)] [(h, .inr (2, [.ref hw, .ref hn])), (hw, .inr (1, [.ref ha, .int (zI lc), .ref hr1, .int (zI cnt), .int (zI dec)])), (ha, .inl (cL, 86, .inl (zA L))), (hr1, .inl (cR, 774, .inl (zA Rw))), (hn, .inr (0, [.ref hc, .int (zI len)])), (hc, .inl (cC, 400, .inl (zA C)))] s.heap.size (fun (z : Int) (u : (Nat → Int) × Int × (Nat → Int) × Int × Int × (Nat → Int) × Int) => (¬ okF bz how p1 wd fl ∧ z = -1 ∧ u.2.2.2.2.2.1 = C ∧ u.2.2.2.2.2.2 = len) ∨ (okF bz how p1 wd fl ∧ z = ((mkT bz how p1 wd fl).length : Int) ∧ tRep u.2.2.2.2.2.1 u.2.2.2.2.2.2 (mkT bz how p1 wd fl) ∧ u.2.2.2.2.2.2 ≤ 400)) (fun (u : (Nat → Int) × Int × (Nat → Int) × Int × Int × (Nat → Int) × Int) => [(h, .inr (2, [.ref hw, .ref hn])), (hw, .inr (1, [.ref ha, .int (zI u.2.1), .ref hr1, .int (zI u.2.2.2.1), .int (zI u.2.2.2.2.1)])), (ha, .inl (cL, 86, .inl (zA u.1))), (hr1, .inl (cR, 774, .inl (zA u.2.2.1))), (hn, .inr (0, [.ref hc, .int (zI u.2.2.2.2.2.2)])), (hc, .inl (cC, 400, .inl (zA u.2.2.2.2.2.1)))])) ([.ref h, .long (lI bz), .int (zI how), .int (zI p1), .int (zI wd), .int (zI fl)] : List Value).toArray s 0 0 (va_A [(h, .inr (2, [.ref hw, .ref hn])), (hw, .inr (1, [.ref ha, .int (zI lc), .ref hr1, .int (zI cnt), .int (zI dec)])), (ha, .inl (cL, 86, .inl (zA L))), (hr1, .inl (cR, 774, .inl (zA Rw))), (hn, .inr (0, [.ref hc, .int (zI len)])), (hc, .inl (cC, 400, .inl (zA C)))] s.heap.size)) (F0 m 88 ls [.int (zI pt), .int (zI p1), .int (zI how), .ref h]) := by
    intro L1 lc1 R1 cn1 de1 C1 len1 sg fi pt N hok t1 hlen1 hsg hfi hpt n1 n2 n3 n4 n5 H locs ls w hl
    have hk2 := hok
    unfold okF at hk2
    have hptb : pt = 0 ∨ pt = 1 := by
      rw [hpt]; unfold ptF
      by_cases q : 0 < p1 ∨ fl / 16 % 2 = 1
      · rw [if_pos q]; omega
      · rw [if_neg q]; omega
    refine z_callvV (C := RX2) (n := 3) (As := [.int (zI how), .int (zI p1), .int (zI pt)]) (rest := []) (wr := []) (wn := (fun (u : (Nat → Int) × Int × (Nat → Int) × Int) => [(h, .inr (2, [.ref hw, .ref hn])), (hw, .inr (1, [.ref ha, .int (zI lc1), .ref hr1, .int (zI u.2.1), .int (zI de1)])), (ha, .inl (cL, 86, .inl (zA L1))), (hr1, .inl (cR, 774, .inl (zA u.1))), (hn, .inr (0, [.ref hc, .int (zI u.2.2.2)])), (hc, .inl (cC, 400, .inl (zA u.2.2.1)))])) S w (c_X2_putBody l D cL cR cC h hw ha hr1 hn hc L1 lc1 R1 cn1 de1 C1 len1 (sgT bz fl) N (xX bz) how p1 pt t1 n1 (by omega) (by omega) n5 n4 (xX_bnd hfi.2) (by omega) (by omega) (by omega) (by omega)) gX2_make_X2_putBody (by decide +kernel) rfl ⟨rfl, rfl⟩ ⟨Nat.le_of_ble_eq_true rfl, Nat.le_of_ble_eq_true rfl⟩ [0, 1, 2] [0, 1, 2, 3, 4, 5] [] [0, 1, 2, 3, 4, 5] rfl rfl rfl rfl rfl (by decide) (fun u => rfl) rfl rfl rfl rfl rfl hl.1 (Nat.le_of_ble_eq_true rfl) ⟨Nat.le_of_ble_eq_true rfl, Nat.le_of_ble_eq_true rfl⟩ rfl dX2_make_88 (fun u H locs p88 w => ?_)
    obtain ⟨Rw88, cnt88, C88, len88⟩ := u
    have p88 : lRep C88 len88 ((sgT bz fl) ++ (if how = 0 then plT (xX bz) p1 pt else epT (xX bz) p1 pt (if how = 2 then 69 else 101))) ∧ len88 ≤ 340 := p88
    have w : zW D _ _ s [(h, .inr (2, [.ref hw, .ref hn])), (hw, .inr (1, [.ref ha, .int (zI lc1), .ref hr1, .int (zI cnt88), .int (zI de1)])), (ha, .inl (cL, 86, .inl (zA L1))), (hr1, .inl (cR, 774, .inl (zA Rw88))), (hn, .inr (0, [.ref hc, .int (zI len88)])), (hc, .inl (cC, 400, .inl (zA C88)))] H locs := w
    refine lv_goto (tgt := 98) S.1 S.2.1 dX2_make_91 (by decide) ?_
    exact lab98 L1 lc1 Rw88 cnt88 de1 C88 len88 sg fi hok (by unfold bare boT; rw [if_neg hfi.2, ← hpt]; exact p88.1) (by omega) (by omega) (by omega) _ _ _ w (lv_sub hl [0, 1, 2, 3, 4] rfl)
  have hl : lv_has ls 9 [(0, .ref h), (1, .long (lI bz)), (3, .int (zI how)), (4, .int (zI p1)), (5, .int (zI wd)), (6, .int (zI fl))] := hl
  refine lv_iload_n S.1 S.2.1 dX2_make_0 rfl (lv_at hl 2 rfl) ?_
  refine lv_iload S.1 S.2.1 dX2_make_1 (lv_at hl 3 rfl) ?_
  refine lv_iload S.1 S.2.1 dX2_make_3 (lv_at hl 4 rfl) ?_
  refine lv_iload S.1 S.2.1 dX2_make_5 (lv_at hl 5 rfl) ?_
  refine z_calliS (n := 4) (As := [.int (zI how), .int (zI p1), .int (zI wd), .int (zI fl)]) (rest := []) (wr := [(h, .inr (2, [.ref hw, .ref hn])), (hw, .inr (1, [.ref ha, .int (zI lc), .ref hr1, .int (zI cnt), .int (zI dec)])), (ha, .inl (cL, 86, .inl (zA L))), (hr1, .inl (cR, 774, .inl (zA Rw))), (hn, .inr (0, [.ref hc, .int (zI len)])), (hc, .inl (cC, 400, .inl (zA C)))]) (wn := (fun (u : Unit) => [(h, .inr (2, [.ref hw, .ref hn])), (hw, .inr (1, [.ref ha, .int (zI lc), .ref hr1, .int (zI cnt), .int (zI dec)])), (ha, .inl (cL, 86, .inl (zA L))), (hr1, .inl (cR, 774, .inl (zA Rw))), (hn, .inr (0, [.ref hc, .int (zI len)])), (hc, .inl (cC, 400, .inl (zA C)))])) S w (c_X2_isForm l D how p1 wd fl (by omega) (by omega) (by omega) (by omega)) gX2_make_X2_isForm (by decide +kernel) rfl ⟨rfl, rfl⟩ ⟨Nat.le_of_ble_eq_true rfl, Nat.le_of_ble_eq_true rfl⟩ [] [] [0, 1, 2, 3, 4, 5] [0, 1, 2, 3, 4, 5] rfl rfl rfl rfl rfl (by decide) (fun u => rfl) rfl rfl hl.1 (Nat.le_of_ble_eq_true rfl) ⟨Nat.le_of_ble_eq_true rfl, Nat.le_of_ble_eq_true rfl⟩ rfl dX2_make_7 (fun z7 _ H locs p7 w => ?_)
  have p7 : (z7 = 1 ∧ (0 ≤ how ∧ how ≤ 2) ∧ (0 ≤ p1 ∧ p1 ≤ 15) ∧ (0 ≤ wd ∧ wd ≤ 400) ∧ (0 ≤ fl ∧ fl ≤ 31)) ∨ (z7 = 0 ∧ ¬ ((0 ≤ how ∧ how ≤ 2) ∧ (0 ≤ p1 ∧ p1 ≤ 15) ∧ (0 ≤ wd ∧ wd ≤ 400) ∧ (0 ≤ fl ∧ fl ≤ 31))) := p7
  have w : zW D _ _ s [(h, .inr (2, [.ref hw, .ref hn])), (hw, .inr (1, [.ref ha, .int (zI lc), .ref hr1, .int (zI cnt), .int (zI dec)])), (ha, .inl (cL, 86, .inl (zA L))), (hr1, .inl (cR, 774, .inl (zA Rw))), (hn, .inr (0, [.ref hc, .int (zI len)])), (hc, .inl (cC, 400, .inl (zA C)))] H locs := w
  refine z_if_eq (tgt := 20) S dX2_make_10 (by decide) (by omega) (fun h10 => ?_) (fun h10 => ?_)
  · skip
    refine z_iconst S dX2_make_20 ?_
    exact z_iret S hr hlk w (zNar_int _) (L, lc, Rw, cnt, dec, C, len) (Or.inl ⟨by unfold okF; omega, rfl, rfl, rfl⟩) rfl dX2_make_21
  · skip
    refine lv_lload_n S.1 S.2.1 dX2_make_13 rfl (lv_at hl 1 rfl) ?_
    refine z_calliS (n := 1) (As := [.long (lI bz)]) (rest := []) (wr := [(h, .inr (2, [.ref hw, .ref hn])), (hw, .inr (1, [.ref ha, .int (zI lc), .ref hr1, .int (zI cnt), .int (zI dec)])), (ha, .inl (cL, 86, .inl (zA L))), (hr1, .inl (cR, 774, .inl (zA Rw))), (hn, .inr (0, [.ref hc, .int (zI len)])), (hc, .inl (cC, 400, .inl (zA C)))]) (wn := (fun (u : Unit) => [(h, .inr (2, [.ref hw, .ref hn])), (hw, .inr (1, [.ref ha, .int (zI lc), .ref hr1, .int (zI cnt), .int (zI dec)])), (ha, .inl (cL, 86, .inl (zA L))), (hr1, .inl (cR, 774, .inl (zA Rw))), (hn, .inr (0, [.ref hc, .int (zI len)])), (hc, .inl (cC, 400, .inl (zA C)))])) S w (c_X2_isNoNumber l D bz (by omega)) gX2_make_X2_isNoNumber (by decide +kernel) rfl ⟨rfl, rfl⟩ ⟨Nat.le_of_ble_eq_true rfl, Nat.le_of_ble_eq_true rfl⟩ [] [] [0, 1, 2, 3, 4, 5] [0, 1, 2, 3, 4, 5] rfl rfl rfl rfl rfl (by decide) (fun u => rfl) rfl rfl hl.1 (Nat.le_of_ble_eq_true rfl) ⟨Nat.le_of_ble_eq_true rfl, Nat.le_of_ble_eq_true rfl⟩ rfl dX2_make_14 (fun z14 _ H locs p14 w => ?_)
    have p14 : (z14 = 1 ∧ (xE bz = 2047 ∧ bz % 4503599627370496 ≠ 0)) ∨ (z14 = 0 ∧ ¬ (xE bz = 2047 ∧ bz % 4503599627370496 ≠ 0)) := p14
    have w : zW D _ _ s [(h, .inr (2, [.ref hw, .ref hn])), (hw, .inr (1, [.ref ha, .int (zI lc), .ref hr1, .int (zI cnt), .int (zI dec)])), (ha, .inl (cL, 86, .inl (zA L))), (hr1, .inl (cR, 774, .inl (zA Rw))), (hn, .inr (0, [.ref hc, .int (zI len)])), (hc, .inl (cC, 400, .inl (zA C)))] H locs := w
    refine z_if_eq (tgt := 22) S dX2_make_17 (by decide) (by omega) (fun h17 => ?_) (fun h17 => ?_)
    · skip
      have hok : okF bz how p1 wd fl := by unfold okF; omega
      have hk2 := hok
      unfold okF at hk2
      refine lv_aload_n S.1 S.2.1 dX2_make_22 rfl (lv_at hl 0 rfl) ?_
      refine z_get (ci := 2) (C := RX2) (T := TX2) (N := 2) S w 0 rfl rfl in_X2_make_X2 1 (by decide) ln_X2_make_19 rfl rfl dX2_make_23 ?_
      refine z_callvV (C := RX0) (n := 0) (As := []) (rest := []) (wr := [(h, .inr (2, [.ref hw, .ref hn])), (hw, .inr (1, [.ref ha, .int (zI lc), .ref hr1, .int (zI cnt), .int (zI dec)])), (ha, .inl (cL, 86, .inl (zA L))), (hr1, .inl (cR, 774, .inl (zA Rw)))]) (wn := (fun (u : Int) => [(h, .inr (2, [.ref hw, .ref hn])), (hw, .inr (1, [.ref ha, .int (zI lc), .ref hr1, .int (zI cnt), .int (zI dec)])), (ha, .inl (cL, 86, .inl (zA L))), (hr1, .inl (cR, 774, .inl (zA Rw))), (hn, .inr (0, [.ref hc, .int (zI u)])), (hc, .inl (cC, 400, .inl (zA C)))])) S w (c_X0_clear l D cC hn hc C len) gX2_make_X0_clear (by decide +kernel) rfl ⟨rfl, rfl⟩ ⟨Nat.le_of_ble_eq_true rfl, Nat.le_of_ble_eq_true rfl⟩ [2] [4, 5] [0, 1, 2, 3] [0, 1, 2, 3, 4, 5] rfl rfl rfl rfl rfl (by decide) (fun u => rfl) rfl rfl rfl rfl rfl hl.1 (Nat.le_of_ble_eq_true rfl) ⟨Nat.le_of_ble_eq_true rfl, Nat.le_of_ble_eq_true rfl⟩ rfl dX2_make_26 (fun len26 H locs p26 w => ?_)
      have p26 : len26 = 0 := p26
      have w : zW D _ _ s [(h, .inr (2, [.ref hw, .ref hn])), (hw, .inr (1, [.ref ha, .int (zI lc), .ref hr1, .int (zI cnt), .int (zI dec)])), (ha, .inl (cL, 86, .inl (zA L))), (hr1, .inl (cR, 774, .inl (zA Rw))), (hn, .inr (0, [.ref hc, .int (zI len26)])), (hc, .inl (cC, 400, .inl (zA C)))] H locs := w
      have t26 : lRep C len26 [] := by rw [p26]; exact lRep_nil C
      refine lv_aload_n S.1 S.2.1 dX2_make_29 rfl (lv_at hl 0 rfl) ?_
      refine lv_lload_n S.1 S.2.1 dX2_make_30 rfl (lv_at hl 1 rfl) ?_
      refine lv_iload S.1 S.2.1 dX2_make_31 (lv_at hl 5 rfl) ?_
      refine z_callvV (C := RX2) (n := 2) (As := [.long (lI bz), .int (zI fl)]) (rest := []) (wr := [(hw, .inr (1, [.ref ha, .int (zI lc), .ref hr1, .int (zI cnt), .int (zI dec)])), (ha, .inl (cL, 86, .inl (zA L))), (hr1, .inl (cR, 774, .inl (zA Rw)))]) (wn := (fun (u : (Nat → Int) × Int) => [(h, .inr (2, [.ref hw, .ref hn])), (hw, .inr (1, [.ref ha, .int (zI lc), .ref hr1, .int (zI cnt), .int (zI dec)])), (ha, .inl (cL, 86, .inl (zA L))), (hr1, .inl (cR, 774, .inl (zA Rw))), (hn, .inr (0, [.ref hc, .int (zI u.2)])), (hc, .inl (cC, 400, .inl (zA u.1)))])) S w (c_X2_putSign l D cC h hw hn hc C len26 ([]) bz fl t26 (by omega) (by omega) (by omega)) gX2_make_X2_putSign (by decide +kernel) rfl ⟨rfl, rfl⟩ ⟨Nat.le_of_ble_eq_true rfl, Nat.le_of_ble_eq_true rfl⟩ [2] [0, 4, 5] [1, 2, 3] [3, 0, 1, 2, 4, 5] rfl rfl rfl rfl rfl (by decide) (fun u => rfl) rfl rfl rfl rfl rfl hl.1 (Nat.le_of_ble_eq_true rfl) ⟨Nat.le_of_ble_eq_true rfl, Nat.le_of_ble_eq_true rfl⟩ rfl dX2_make_33 (fun u H locs p33 w => ?_)
      obtain ⟨C33, len33⟩ := u
      have p33 : lRep C33 len33 (([]) ++ sgT bz fl) ∧ len33 = len26 + ((sgT bz fl).length : Int) := p33
      have w : zW D _ _ s [(h, .inr (2, [.ref hw, .ref hn])), (hw, .inr (1, [.ref ha, .int (zI lc), .ref hr1, .int (zI cnt), .int (zI dec)])), (ha, .inl (cL, 86, .inl (zA L))), (hr1, .inl (cR, 774, .inl (zA Rw))), (hn, .inr (0, [.ref hc, .int (zI len33)])), (hc, .inl (cC, 400, .inl (zA C33)))] H locs := w
      obtain ⟨t33, e33⟩ := p33
      rw [List.nil_append] at t33
      have hs1 : ((sgT bz fl).length : Int) ≤ 1 := by
        unfold sgT
        by_cases q1 : bz < 0
        · rw [if_pos q1]; decide
        · rw [if_neg q1]
          by_cases q2 : fl / 2 % 2 = 1
          · rw [if_pos q2]; decide
          · rw [if_neg q2]
            by_cases q3 : fl / 4 % 2 = 1
            · rw [if_pos q3]; decide
            · rw [if_neg q3]; decide
      refine lv_aload_n S.1 S.2.1 dX2_make_36 rfl (lv_at hl 0 rfl) ?_
      refine z_get (ci := 2) (C := RX2) (T := TX2) (N := 2) S w 0 rfl rfl in_X2_make_X2 1 (by decide) ln_X2_make_19 rfl rfl dX2_make_37 ?_
      refine z_calliV (C := RX0) (n := 0) (As := []) (rest := []) (wr := [(h, .inr (2, [.ref hw, .ref hn])), (hw, .inr (1, [.ref ha, .int (zI lc), .ref hr1, .int (zI cnt), .int (zI dec)])), (ha, .inl (cL, 86, .inl (zA L))), (hr1, .inl (cR, 774, .inl (zA Rw)))]) (wn := (fun (u : Unit) => [(h, .inr (2, [.ref hw, .ref hn])), (hw, .inr (1, [.ref ha, .int (zI lc), .ref hr1, .int (zI cnt), .int (zI dec)])), (ha, .inl (cL, 86, .inl (zA L))), (hr1, .inl (cR, 774, .inl (zA Rw))), (hn, .inr (0, [.ref hc, .int (zI len33)])), (hc, .inl (cC, 400, .inl (zA C33)))])) S w (c_X0_length l D cC hn hc C33 len33) gX2_make_X0_length (by decide +kernel) rfl ⟨rfl, rfl⟩ ⟨Nat.le_of_ble_eq_true rfl, Nat.le_of_ble_eq_true rfl⟩ [2] [4, 5] [0, 1, 2, 3] [0, 1, 2, 3, 4, 5] rfl rfl rfl rfl rfl (by decide) (fun u => rfl) rfl rfl rfl rfl rfl hl.1 (Nat.le_of_ble_eq_true rfl) ⟨Nat.le_of_ble_eq_true rfl, Nat.le_of_ble_eq_true rfl⟩ rfl dX2_make_40 (fun z40 _ H locs p40 w => ?_)
      have p40 : z40 = len33 := p40
      have w : zW D _ _ s [(h, .inr (2, [.ref hw, .ref hn])), (hw, .inr (1, [.ref ha, .int (zI lc), .ref hr1, .int (zI cnt), .int (zI dec)])), (ha, .inl (cL, 86, .inl (zA L))), (hr1, .inl (cR, 774, .inl (zA Rw))), (hn, .inr (0, [.ref hc, .int (zI len33)])), (hc, .inl (cC, 400, .inl (zA C33)))] H locs := w
      refine lv_istore (lv' := [(7, .int (zI z40)), (0, .ref h), (1, .long (lI bz)), (3, .int (zI how)), (4, .int (zI p1)), (5, .int (zI wd)), (6, .int (zI fl))]) S.1 S.2.1 dX2_make_43 hl (by decide) rfl (fun ls hl => ?_)
      refine lv_lload_n S.1 S.2.1 dX2_make_45 rfl (lv_at hl 2 rfl) ?_
      refine z_calliS (n := 1) (As := [.long (lI bz)]) (rest := []) (wr := [(h, .inr (2, [.ref hw, .ref hn])), (hw, .inr (1, [.ref ha, .int (zI lc), .ref hr1, .int (zI cnt), .int (zI dec)])), (ha, .inl (cL, 86, .inl (zA L))), (hr1, .inl (cR, 774, .inl (zA Rw))), (hn, .inr (0, [.ref hc, .int (zI len33)])), (hc, .inl (cC, 400, .inl (zA C33)))]) (wn := (fun (u : Unit) => [(h, .inr (2, [.ref hw, .ref hn])), (hw, .inr (1, [.ref ha, .int (zI lc), .ref hr1, .int (zI cnt), .int (zI dec)])), (ha, .inl (cL, 86, .inl (zA L))), (hr1, .inl (cR, 774, .inl (zA Rw))), (hn, .inr (0, [.ref hc, .int (zI len33)])), (hc, .inl (cC, 400, .inl (zA C33)))])) S w (c_X2_isFinite l D bz (by omega)) gX2_make_X2_isFinite (by decide +kernel) rfl ⟨rfl, rfl⟩ ⟨Nat.le_of_ble_eq_true rfl, Nat.le_of_ble_eq_true rfl⟩ [] [] [0, 1, 2, 3, 4, 5] [0, 1, 2, 3, 4, 5] rfl rfl rfl rfl rfl (by decide) (fun u => rfl) rfl rfl hl.1 (Nat.le_of_ble_eq_true rfl) ⟨Nat.le_of_ble_eq_true rfl, Nat.le_of_ble_eq_true rfl⟩ rfl dX2_make_46 (fun z46 _ H locs p46 w => ?_)
      have p46 : (z46 = 1 ∧ xE bz ≠ 2047) ∨ (z46 = 0 ∧ xE bz = 2047) := p46
      have w : zW D _ _ s [(h, .inr (2, [.ref hw, .ref hn])), (hw, .inr (1, [.ref ha, .int (zI lc), .ref hr1, .int (zI cnt), .int (zI dec)])), (ha, .inl (cL, 86, .inl (zA L))), (hr1, .inl (cR, 774, .inl (zA Rw))), (hn, .inr (0, [.ref hc, .int (zI len33)])), (hc, .inl (cC, 400, .inl (zA C33)))] H locs := w
      refine lv_istore (lv' := [(8, .int (zI z46)), (7, .int (zI z40)), (0, .ref h), (1, .long (lI bz)), (3, .int (zI how)), (4, .int (zI p1)), (5, .int (zI wd)), (6, .int (zI fl))]) S.1 S.2.1 dX2_make_49 hl (by decide) rfl (fun ls hl => ?_)
      refine lv_iload S.1 S.2.1 dX2_make_51 (lv_at hl 0 rfl) ?_
      refine z_if_eq (tgt := 94) S dX2_make_53 (by decide) (by omega) (fun h53 => ?_) (fun h53 => ?_)
      · skip
        refine lv_aload_n S.1 S.2.1 dX2_make_94 rfl (lv_at hl 2 rfl) ?_
        refine z_callvV (C := RX2) (n := 0) (As := []) (rest := []) (wr := [(hw, .inr (1, [.ref ha, .int (zI lc), .ref hr1, .int (zI cnt), .int (zI dec)])), (ha, .inl (cL, 86, .inl (zA L))), (hr1, .inl (cR, 774, .inl (zA Rw)))]) (wn := (fun (u : (Nat → Int) × Int) => [(h, .inr (2, [.ref hw, .ref hn])), (hw, .inr (1, [.ref ha, .int (zI lc), .ref hr1, .int (zI cnt), .int (zI dec)])), (ha, .inl (cL, 86, .inl (zA L))), (hr1, .inl (cR, 774, .inl (zA Rw))), (hn, .inr (0, [.ref hc, .int (zI u.2)])), (hc, .inl (cC, 400, .inl (zA u.1)))])) S w (c_X2_putInfinite l D cC h hw hn hc C33 len33 (sgT bz fl) t33 (by omega)) gX2_make_X2_putInfinite (by decide +kernel) rfl ⟨rfl, rfl⟩ ⟨Nat.le_of_ble_eq_true rfl, Nat.le_of_ble_eq_true rfl⟩ [2] [0, 4, 5] [1, 2, 3] [3, 0, 1, 2, 4, 5] rfl rfl rfl rfl rfl (by decide) (fun u => rfl) rfl rfl rfl rfl rfl hl.1 (Nat.le_of_ble_eq_true rfl) ⟨Nat.le_of_ble_eq_true rfl, Nat.le_of_ble_eq_true rfl⟩ rfl dX2_make_95 (fun u H locs p95 w => ?_)
        obtain ⟨C95, len95⟩ := u
        have p95 : lRep C95 len95 ((sgT bz fl) ++ [105, 110, 102]) ∧ len95 = len33 + 3 := p95
        have w : zW D _ _ s [(h, .inr (2, [.ref hw, .ref hn])), (hw, .inr (1, [.ref ha, .int (zI lc), .ref hr1, .int (zI cnt), .int (zI dec)])), (ha, .inl (cL, 86, .inl (zA L))), (hr1, .inl (cR, 774, .inl (zA Rw))), (hn, .inr (0, [.ref hc, .int (zI len95)])), (hc, .inl (cC, 400, .inl (zA C95)))] H locs := w
        exact lab98 L lc Rw cnt dec C95 len95 z40 z46 hok (by unfold bare boT; rw [if_pos (by omega)]; exact p95.1) (by omega) (by omega) (by omega) _ _ _ w (lv_sub hl [2, 6, 7, 1, 0] rfl)
      · skip
        refine lv_aload_n S.1 S.2.1 dX2_make_56 rfl (lv_at hl 2 rfl) ?_
        refine z_get (ci := 2) (C := RX2) (T := TX2) (N := 2) S w 0 rfl rfl in_X2_make_X2 0 (by decide) ln_X2_make_12 rfl rfl dX2_make_57 ?_
        refine lv_lload_n S.1 S.2.1 dX2_make_60 rfl (lv_at hl 3 rfl) ?_
        refine z_callvV (C := RX1) (n := 1) (As := [.long (lI bz)]) (rest := []) (wr := [(h, .inr (2, [.ref hw, .ref hn])), (hn, .inr (0, [.ref hc, .int (zI len33)])), (hc, .inl (cC, 400, .inl (zA C33)))]) (wn := (fun (u : (Nat → Int) × Int × (Nat → Int) × Int × Int) => [(h, .inr (2, [.ref hw, .ref hn])), (hw, .inr (1, [.ref ha, .int (zI u.2.1), .ref hr1, .int (zI u.2.2.2.1), .int (zI u.2.2.2.2)])), (ha, .inl (cL, 86, .inl (zA u.1))), (hr1, .inl (cR, 774, .inl (zA u.2.2.1))), (hn, .inr (0, [.ref hc, .int (zI len33)])), (hc, .inl (cC, 400, .inl (zA C33)))])) S w (c_X1_take l D cL cR hw ha hr1 L lc Rw cnt dec bz (by omega) (by omega)) gX2_make_X1_take (by decide +kernel) rfl ⟨rfl, rfl⟩ ⟨Nat.le_of_ble_eq_true rfl, Nat.le_of_ble_eq_true rfl⟩ [0, 1] [1, 2, 3] [0, 4, 5] [0, 3, 4, 5, 1, 2] rfl rfl rfl rfl rfl (by decide) (fun u => rfl) rfl rfl rfl rfl rfl hl.1 (Nat.le_of_ble_eq_true rfl) ⟨Nat.le_of_ble_eq_true rfl, Nat.le_of_ble_eq_true rfl⟩ rfl dX2_make_61 (fun u H locs p61 w => ?_)
        obtain ⟨L61, lc61, Rw61, cnt61, dec61⟩ := u
        have p61 : ∃ N : Nat, (∀ j : Nat, j < 774 → Rw61 j = (dg N j : Int)) ∧ cnt61 = (ln N : Int) ∧ (0 ≤ dec61 ∧ dec61 ≤ 1074) ∧ N * 10 ^ (1200 - dec61).toNat = xX bz ∧ N < 10 ^ 767 := p61
        have w : zW D _ _ s [(h, .inr (2, [.ref hw, .ref hn])), (hw, .inr (1, [.ref ha, .int (zI lc61), .ref hr1, .int (zI cnt61), .int (zI dec61)])), (ha, .inl (cL, 86, .inl (zA L61))), (hr1, .inl (cR, 774, .inl (zA Rw61))), (hn, .inr (0, [.ref hc, .int (zI len33)])), (hc, .inl (cC, 400, .inl (zA C33)))] H locs := w
        obtain ⟨N, n1, n2, n3, n4, n5⟩ := p61
        refine lv_aload_n S.1 S.2.1 dX2_make_64 rfl (lv_at hl 2 rfl) ?_
        refine lv_iload_n S.1 S.2.1 dX2_make_65 rfl (lv_at hl 4 rfl) ?_
        refine lv_iload S.1 S.2.1 dX2_make_66 (lv_at hl 5 rfl) ?_
        refine lv_iload S.1 S.2.1 dX2_make_68 (lv_at hl 5 rfl) ?_
        refine z_if_gt (tgt := 83) S dX2_make_70 (by decide) (by omega) (fun h70 => ?_) (fun h70 => ?_)
        · skip
          refine z_iconst S dX2_make_83 ?_
          refine lv_goto (tgt := 88) S.1 S.2.1 dX2_make_84 (by decide) ?_
          exact lab88 L61 lc61 Rw61 cnt61 dec61 C33 len33 z40 z46 1 N hok t33 (by omega) (by omega) (by omega) (by unfold ptF; first | (rw [if_pos (by omega)]; done) | (rw [if_neg (by omega)]; done)) n1 (by omega) (by omega) n4 n5 _ _ _ w (lv_sub hl [2, 6, 7, 1, 0] rfl)
        · skip
          refine lv_iload S.1 S.2.1 dX2_make_73 (lv_at hl 7 rfl) ?_
          refine z_bipush S dX2_make_75 (by decide +kernel) ?_
          refine z_calliS (n := 2) (As := [.int (zI fl), .int (zI 16)]) (rest := [.int (zI p1), .int (zI how), .ref h]) (wr := [(h, .inr (2, [.ref hw, .ref hn])), (hw, .inr (1, [.ref ha, .int (zI lc61), .ref hr1, .int (zI cnt61), .int (zI dec61)])), (ha, .inl (cL, 86, .inl (zA L61))), (hr1, .inl (cR, 774, .inl (zA Rw61))), (hn, .inr (0, [.ref hc, .int (zI len33)])), (hc, .inl (cC, 400, .inl (zA C33)))]) (wn := (fun (u : Unit) => [(h, .inr (2, [.ref hw, .ref hn])), (hw, .inr (1, [.ref ha, .int (zI lc61), .ref hr1, .int (zI cnt61), .int (zI dec61)])), (ha, .inl (cL, 86, .inl (zA L61))), (hr1, .inl (cR, 774, .inl (zA Rw61))), (hn, .inr (0, [.ref hc, .int (zI len33)])), (hc, .inl (cC, 400, .inl (zA C33)))])) S w (c_X2_has l D fl 16 (by omega) (by decide)) gX2_make_X2_has (by decide +kernel) rfl ⟨rfl, rfl⟩ ⟨Nat.le_of_ble_eq_true rfl, Nat.le_of_ble_eq_true rfl⟩ [] [] [0, 1, 2, 3, 4, 5] [0, 1, 2, 3, 4, 5] rfl rfl rfl rfl rfl (by decide) (fun u => rfl) rfl rfl hl.1 (Nat.le_of_ble_eq_true rfl) ⟨Nat.le_of_ble_eq_true rfl, Nat.le_of_ble_eq_true rfl⟩ rfl dX2_make_77 (fun z77 _ H locs p77 w => ?_)
          have p77 : (z77 = 1 ∧ fl / (16 : Int) % 2 = 1) ∨ (z77 = 0 ∧ fl / (16 : Int) % 2 ≠ 1) := p77
          have w : zW D _ _ s [(h, .inr (2, [.ref hw, .ref hn])), (hw, .inr (1, [.ref ha, .int (zI lc61), .ref hr1, .int (zI cnt61), .int (zI dec61)])), (ha, .inl (cL, 86, .inl (zA L61))), (hr1, .inl (cR, 774, .inl (zA Rw61))), (hn, .inr (0, [.ref hc, .int (zI len33)])), (hc, .inl (cC, 400, .inl (zA C33)))] H locs := w
          refine z_if_eq (tgt := 87) S dX2_make_80 (by decide) (by omega) (fun h80 => ?_) (fun h80 => ?_)
          · skip
            refine z_iconst S dX2_make_87 ?_
            exact lab88 L61 lc61 Rw61 cnt61 dec61 C33 len33 z40 z46 0 N hok t33 (by omega) (by omega) (by omega) (by unfold ptF; first | (rw [if_pos (by omega)]; done) | (rw [if_neg (by omega)]; done)) n1 (by omega) (by omega) n4 n5 _ _ _ w (lv_sub hl [2, 6, 7, 1, 0] rfl)
          · skip
            refine z_iconst S dX2_make_83 ?_
            refine lv_goto (tgt := 88) S.1 S.2.1 dX2_make_84 (by decide) ?_
            exact lab88 L61 lc61 Rw61 cnt61 dec61 C33 len33 z40 z46 1 N hok t33 (by omega) (by omega) (by omega) (by unfold ptF; first | (rw [if_pos (by omega)]; done) | (rw [if_neg (by omega)]; done)) n1 (by omega) (by omega) n4 n5 _ _ _ w (lv_sub hl [2, 6, 7, 1, 0] rfl)
    · skip
      refine z_iconst S dX2_make_20 ?_
      exact z_iret S hr hlk w (zNar_int _) (L, lc, Rw, cnt, dec, C, len) (Or.inl ⟨by unfold okF; omega, rfl, rfl, rfl⟩) rfl dX2_make_21
end
section
/-! the reference's row: the highest digit first -/
def hv (r : Nat → Int) : Nat → Nat
  | 0 => 0
  | k + 1 => 10 * hv r k + (r k).toNat
theorem hv_congr {r t : Nat → Int} : ∀ {k : Nat}, (∀ j, j < k → r j = t j) → hv r k = hv t k
  | 0, _ => rfl
  | k + 1, h => by rw [hv, hv, hv_congr (k := k) (fun j q => h j (by omega)), h k (by omega)]
theorem hv_lt {r : Nat → Int} : ∀ {k : Nat}, (∀ j, j < k → 0 ≤ r j ∧ r j ≤ 9) → hv r k < 10 ^ k
  | 0, _ => by rw [hv]; decide
  | k + 1, h => by
    rw [hv, Nat.pow_succ]
    have h1 := hv_lt (k := k) (fun j q => h j (by omega))
    have h2 := h k (by omega)
    omega
theorem hv_add (r : Nat → Int) (a : Nat) : ∀ b, hv r (a + b) = hv r a * 10 ^ b + hv (fun j => r (a + j)) b
  | 0 => by rw [Nat.add_zero, Nat.pow_zero, Nat.mul_one, hv, Nat.add_zero]
  | b + 1 => by
    rw [← Nat.add_assoc, hv, hv_add r a b, hv, Nat.pow_succ]
    grind
theorem hv_zero {r : Nat → Int} : ∀ {k : Nat}, (∀ j, j < k → r j = 0) → hv r k = 0
  | 0, _ => rfl
  | k + 1, h => by rw [hv, hv_zero (k := k) (fun j q => h j (by omega)), h k (by omega)]; rfl
theorem hv_shift {r t : Nat → Int} {z m : Nat} (h0 : ∀ j, j < z → r j = 0) (h : ∀ j, j < m → t j = r (j + z)) : hv r (z + m) = hv t m := by
  rw [hv_add, hv_zero h0, Nat.zero_mul, Nat.zero_add]
  exact hv_congr (fun j q => by rw [h j q, Nat.add_comm])
theorem hv_cons {r t : Nat → Int} {m : Nat} (h : ∀ j, j < m → t (j + 1) = r j) : hv t (m + 1) = (t 0).toNat * 10 ^ m + hv r m := by
  rw [Nat.add_comm m 1, hv_add, hv, hv]
  have e : hv (fun j => t (1 + j)) m = hv r m := hv_congr (fun j q => by rw [Nat.add_comm 1 j]; exact h j q)
  have e0 : 10 * 0 + (t 0).toNat = (t 0).toNat := by omega
  rw [e, e0]
theorem hv_div {r : Nat → Int} {a b : Nat} (h : ∀ j, a ≤ j → j < a + b → 0 ≤ r j ∧ r j ≤ 9) : hv r (a + b) / 10 ^ b = hv r a := by
  rw [hv_add]
  have h1 : hv (fun j => r (a + j)) b < 10 ^ b := hv_lt (fun j q => h (a + j) (by omega) (by omega))
  rw [Nat.add_comm, Nat.add_mul_div_right _ _ (p10_pos b), Nat.div_eq_of_lt h1, Nat.zero_add]
theorem hv_dg {r : Nat → Int} {n j : Nat} (hj : j < n) (h : ∀ j, j < n → 0 ≤ r j ∧ r j ≤ 9) : (dg (hv r n) (n - 1 - j) : Int) = r j := by
  unfold dg
  have e : n = (j + 1) + (n - 1 - j) := by omega
  have h1 : hv r n / 10 ^ (n - 1 - j) = hv r (j + 1) := by
    have := hv_div (r := r) (a := j + 1) (b := n - 1 - j) (fun i q1 q2 => h i (by omega))
    rw [← e] at this; exact this
  rw [h1, hv]
  have := h j hj
  omega
theorem hv_ln {r : Nat → Int} {n : Nat} (hn : 0 < n) (h : ∀ j, j < n → 0 ≤ r j ∧ r j ≤ 9) (h0 : r 0 ≠ 0) : ln (hv r n) = n := by
  obtain ⟨k, rfl⟩ : ∃ k, n = k + 1 := ⟨n - 1, by omega⟩
  apply ln_eq
  · rw [Nat.add_comm k 1, hv_add, hv, hv]
    have := h 0 (by omega)
    have h1 : 1 * 10 ^ k ≤ (10 * 0 + (r 0).toNat) * 10 ^ k := Nat.mul_le_mul_right _ (by omega)
    omega
  · exact hv_lt h
/-- a row, not yet trimmed, and the number times 10 ^ 1200 that it stands for -/
def mPre (r : Nat → Int) (n P : Int) (X : Nat) : Prop := (∀ j : Nat, (j : Int) < n → 0 ≤ r j ∧ r j ≤ 9) ∧ 0 ≤ n ∧ 0 ≤ 1200 + P - n ∧ X = hv r n.toNat * 10 ^ (1200 + P - n).toNat
def mRep (r : Nat → Int) (n P : Int) (X : Nat) : Prop := mPre r n P X ∧ (n = 0 → P = 0) ∧ (0 < n → r 0 ≠ 0 ∧ r (n - 1).toNat ≠ 0)
theorem mRep_0 {r : Nat → Int} {n P : Int} {X : Nat} (h : mRep r n P X) : n = 0 ↔ X = 0 := by
  obtain ⟨⟨h1, h2, h3, h4⟩, h5, h6⟩ := h
  constructor
  · intro k; rw [h4, k]; show hv r 0 * _ = 0; rw [hv, Nat.zero_mul]
  · intro k
    apply Classical.byContradiction
    intro q
    have q0 := (h6 (by omega)).1
    have q1 := hv_ln (r := r) (n := n.toNat) (by omega) (fun j q => h1 j (by omega)) q0
    rw [k] at h4
    rcases Nat.mul_eq_zero.mp h4.symm with q2 | q2
    · rw [q2, ln_0] at q1; omega
    · have := p10_pos (1200 + P - n).toNat; omega
theorem mRep_ln {r : Nat → Int} {n P : Int} {X : Nat} (h : mRep r n P X) (hX : 0 < X) : (ln X : Int) = 1200 + P := by
  have h0 := mRep_0 h
  obtain ⟨⟨h1, h2, h3, h4⟩, h5, h6⟩ := h
  have hn : 0 < n := by
    rcases Int.lt_or_le 0 n with q | q
    · exact q
    · have := h0.mp (by omega); omega
  have q1 := hv_ln (r := r) (n := n.toNat) (by omega) (fun j q => h1 j (by omega)) (h6 hn).1
  have q2 : 0 < hv r n.toNat := by
    rcases Nat.eq_zero_or_pos (hv r n.toNat) with q | q
    · rw [q, ln_0] at q1; omega
    · exact q
  rw [h4, ln_mul q2, q1]; omega
theorem mRep_hi {r : Nat → Int} {n P : Int} {X : Nat} (h : mRep r n P X) : hiX X = (if n = 0 then 0 else P - 1) := by
  have h0 := mRep_0 h
  unfold hiX
  by_cases q : X = 0
  · rw [if_pos q, if_pos (h0.mpr q)]
  · rw [if_neg q, if_neg (fun k => q (h0.mp k)), mRep_ln h (by omega)]; omega
/-- a digit of the row, 0 outside -/
def mD (r : Nat → Int) (n k : Int) : Int := if 0 ≤ k ∧ k < n then r k.toNat else 0
theorem mRep_dg {r : Nat → Int} {n P : Int} {X : Nat} (h : mRep r n P X) {k : Int} (hk : k ≤ 1199 + P) : mD r n k = gX X (P - 1 - k) := by
  have hl := mRep_ln h
  have h0 := mRep_0 h
  obtain ⟨⟨h1, h2, h3, h4⟩, h5, h6⟩ := h
  unfold mD gX
  by_cases q : 0 ≤ k ∧ k < n
  · rw [if_pos q]
    have e : (P - 1 - k + 1200).toNat = (1200 + P - n).toNat + (n.toNat - 1 - k.toNat) := by omega
    rw [h4, e, dg_mul]
    exact (hv_dg (by omega) (fun j q => h1 j (by omega))).symm
  · rw [if_neg q]
    by_cases q2 : k < 0
    · rcases Nat.eq_zero_or_pos X with q3 | q3
      · rw [q3, dg_big (p10_pos _)]; rfl
      · have q4 := hl q3
        rw [dg_big (Nat.lt_of_lt_of_le (ln_lt X) (Nat.pow_le_pow_right (by decide) (by omega)))]; rfl
    · rw [h4, dg_mul_lt _ (by omega)]; rfl
theorem sg_mRep {r : Nat → Int} {n P : Int} {X : Nat} (h : mRep r n P X) : sgX X n := by
  have h0 := mRep_0 h
  have hl := mRep_ln h
  have hd := @mRep_dg r n P X h
  obtain ⟨⟨h1, h2, h3, h4⟩, h5, h6⟩ := h
  rcases Nat.eq_zero_or_pos X with q | q
  · exact Or.inl ⟨q, h0.mpr q⟩
  · have hn : 0 < n := by
      rcases Int.lt_or_le 0 n with k | k
      · exact k
      · have := h0.mp (by omega); omega
    have ql := hl q
    refine Or.inr ⟨q, (1200 + P - n).toNat, by omega, ?_, ?_⟩
    · intro j hj
      rw [h4]; exact dg_mul_lt _ hj
    · have k1 := @hd (n - 1) (by omega)
      unfold mD gX at k1
      rw [if_pos (by omega)] at k1
      have e : (P - 1 - (n - 1) + 1200).toNat = (1200 + P - n).toNat := by omega
      rw [e] at k1
      have := (h6 hn).2
      omega
theorem half_step {a b x re : Nat} (h : 2 * a + re = b) (hre : re < 2) : 2 * (10 * a + (10 * re + x) / 2) + (10 * re + x) % 2 = 10 * b + x := by omega
theorem half_pre {r r1 : Nat → Int} {n P re : Int} {X : Nat} (h : mRep r n P (2 * X)) (hd : ∀ j : Nat, (j : Int) < n → 0 ≤ r1 j ∧ r1 j ≤ 9) (hre : re = 0) (hv2 : 2 * hv r1 n.toNat + re.toNat = hv r n.toNat) : mPre r1 n P X := by
  obtain ⟨⟨h1, h2, h3, h4⟩, h5, h6⟩ := h
  refine ⟨hd, h2, h3, ?_⟩
  rw [hre] at hv2
  have e : hv r n.toNat = 2 * hv r1 n.toNat := by omega
  rw [e, Nat.mul_assoc] at h4
  omega
theorem half_pre1 {r r1 r2 : Nat → Int} {n P re : Int} {X : Nat} (h : mRep r n P (2 * X)) (hp : 1 ≤ 1200 + P - n) (hd : ∀ j : Nat, (j : Int) < n → 0 ≤ r1 j ∧ r1 j ≤ 9) (hre : re = 1) (hv2 : 2 * hv r1 n.toNat + re.toNat = hv r n.toNat) (hr : r2 = zu r1 n.toNat 5) : mPre r2 (n + 1) P X := by
  obtain ⟨⟨h1, h2, h3, h4⟩, h5, h6⟩ := h
  have e0 : (n + 1).toNat = n.toNat + 1 := by omega
  refine ⟨?_, by omega, by omega, ?_⟩
  · intro j hj
    rw [hr]
    by_cases q : j = n.toNat
    · rw [q, zu_s]; omega
    · rw [zu_n _ _ q]; exact hd j (by omega)
  · rw [hre] at hv2
    rw [e0, hv, hr, zu_s, hv_congr (t := r1) (k := n.toNat) (fun j q => zu_n _ _ (by omega))]
    have e1 : (1200 + P - n).toNat = (1200 + P - (n + 1)).toNat + 1 := by omega
    rw [e1, Nat.pow_succ] at h4
    have e2 : hv r n.toNat = 2 * hv r1 n.toNat + 1 := by omega
    rw [e2] at h4
    have e3 : (5 : Int).toNat = 5 := rfl
    rw [e3]
    generalize 10 ^ (1200 + P - (n + 1)).toNat = b at h4
    generalize hv r1 n.toNat = a at h4
    have e4 : (2 * a + 1) * (b * 10) = 2 * ((10 * a + 5) * b) := by grind
    omega
/-- the lowest digits first -/
def tv (r : Nat → Int) (n : Nat) : Nat → Nat
  | 0 => 0
  | m + 1 => tv r n m + (r (n - 1 - m)).toNat * 10 ^ m
theorem tv_congr {r t : Nat → Int} {n : Nat} : ∀ {m : Nat}, (∀ j, n - m ≤ j → j < n → r j = t j) → m ≤ n → tv r n m = tv t n m
  | 0, _, _ => rfl
  | m + 1, h, hm => by rw [tv, tv, tv_congr (m := m) (fun j q1 q2 => h j (by omega) q2) (by omega), h (n - 1 - m) (by omega) (by omega)]
theorem tv_hv (r : Nat → Int) (n : Nat) : ∀ m, m ≤ n → hv r n = hv r (n - m) * 10 ^ m + tv r n m
  | 0, _ => by rw [Nat.sub_zero, Nat.pow_zero, Nat.mul_one, tv, Nat.add_zero]
  | m + 1, h => by
    have e : n - m = (n - (m + 1)) + 1 := by omega
    have e2 : n - 1 - m = n - (m + 1) := by omega
    rw [tv_hv r n m (by omega), e, hv, tv, e2, Nat.pow_succ]
    grind
theorem tw_step {v1 cr v b nw c2 x : Nat} (h1 : v1 + cr * b = 2 * v) (h2 : nw + c2 * 10 = 2 * x + cr) : v1 + nw * b + c2 * (b * 10) = 2 * (v + x * b) := by
  have h3 : (nw + c2 * 10) * b = (2 * x + cr) * b := by rw [h2]
  grind
end
section
set_option maxRecDepth 20000 in
theorem ln_X3_trim_23 : Cond.fieldLink RX3 23 "DecimalTextModel" "digits" "I" ∈ wsX3_trim := by decide +kernel
theorem in_X3_trim_X3 : ∀ w ∈ u_ws RX3 TX3 5, w ∈ wsX3_trim := by decide +kernel
set_option maxRecDepth 20000 in
theorem ln_X3_trim_31 : Cond.fieldLink RX3 31 "DecimalTextModel" "point" "I" ∈ wsX3_trim := by decide +kernel
set_option maxRecDepth 20000 in
theorem ln_X3_trim_7 : Cond.fieldLink RX3 7 "DecimalTextModel" "row" "[B" ∈ wsX3_trim := by decide +kernel
set_option maxHeartbeats 4000000 in
set_option maxRecDepth 100000 in
theorem c_X3_trim (l : Launch) (D : va_G) (cB cT : ClassId) (h : Nat) (hb : Nat) (ht : Nat) (r : Nat → Int) (n : Int) (P : Int) (tx : Nat → Int) (len : Int) (X : Nat) (hp : mPre r n P X) (hn : n ≤ 1200) (hP : -3000 ≤ P ∧ P ≤ 3000) : zMv (T := (Nat → Int) × Int × Int) l yX3_trim wsX3_trim ({ frames := 0, cells := 0, slots := 0, locals := 0 } : Room) D [(cB, .byte), (cT, .int)] [.ref h] [(h, .inr (3, [.ref hb, .int (zI n), .int (zI P), .ref ht, .int (zI len)])), (hb, .inl (cB, 1200, .inl (zA r))), (ht, .inl (cT, 420, .inl (zA tx)))] (fun (u : (Nat → Int) × Int × Int) => mRep u.1 u.2.1 u.2.2 X ∧ u.2.1 ≤ n ∧ (u.2.1 - u.2.2 ≤ n - P ∨ u.2.1 - u.2.2 = 0) ∧ (u.2.2 ≤ P ∨ u.2.2 = 0)) (fun (u : (Nat → Int) × Int × Int) => [(h, .inr (3, [.ref hb, .int (zI u.2.1), .int (zI u.2.2), .ref ht, .int (zI len)])), (hb, .inl (cB, 1200, .inl (zA u.1))), (ht, .inl (cT, 420, .inl (zA tx)))]) 0 0 := by
  refine zMv.of (bytes := cX3_trim) (nL := 3) (own := RX3) (by decide) rfl rfl (Nat.le_of_ble_eq_true rfl) ?_
  intro p e s m below meth c ls S hr hlk hnm w hl
  have lab76 : ∀ (nf_ : Nat) (r1 : Nat → Int) (m1 : Int) (z : Int), (m1).toNat < nf_ → (0 ≤ z ∧ z ≤ n) → (0 ≤ m1 ∧ m1 ≤ n - z) → (m1 = 0 ∨ r1 0 ≠ 0) → (mPre r1 m1 (P - z) X) → ∀ (H : Heap) (locs : List Loc) (ls : Array Slot), zW D [(cB, .byte), (cT, .int)] (va_A [(h, .inr (3, [.ref hb, .int (zI n), .int (zI P), .ref ht, .int (zI len)])), (hb, .inl (cB, 1200, .inl (zA r))), (ht, .inl (cT, 420, .inl (zA tx)))] s.heap.size) s [(h, .inr (3, [.ref hb, .int (zI m1), .int (zI (P - z)), .ref ht, .int (zI len)])), (hb, .inl (cB, 1200, .inl (zA r1))), (ht, .inl (cT, 420, .inl (zA tx)))] H locs → lv_has ls 3 [(0, .ref h)] → W p l e ({ frames := 0, cells := 0, slots := 0, locals := 0 } : Room) s m ([.ref h] : List Value).toArray below meth c H locs 0 0 (MQ below (zQv D [(cB, .byte), (cT, .int)] [(h, .inr (3, [.ref hb, .int (zI n), .int (zI P), .ref ht, .int (zI len)])), (hb, .inl (cB, 1200, .inl (zA r))), (ht, .inl (cT, 420, .inl (zA tx)))] s.heap.size (fun (u : (Nat → Int) × Int × Int) => mRep u.1 u.2.1 u.2.2 X ∧ u.2.1 ≤ n ∧ (u.2.1 - u.2.2 ≤ n - P ∨ u.2.1 - u.2.2 = 0) ∧ (u.2.2 ≤ P ∨ u.2.2 = 0)) (fun (u : (Nat → Int) × Int × Int) => [(h, .inr (3, [.ref hb, .int (zI u.2.1), .int (zI u.2.2), .ref ht, .int (zI len)])), (hb, .inl (cB, 1200, .inl (zA u.1))), (ht, .inl (cT, 420, .inl (zA tx)))])) ([.ref h] : List Value).toArray s 0 0 (va_A [(h, .inr (3, [.ref hb, .int (zI n), .int (zI P), .ref ht, .int (zI len)])), (hb, .inl (cB, 1200, .inl (zA r))), (ht, .inl (cT, 420, .inl (zA tx)))] s.heap.size)) (F0 m 76 ls []) := by
    intro nf_
    induction nf_ with
    | zero => intro r1 m1 z hmeas_; exact absurd hmeas_ (Nat.not_lt_zero _)
    | succ nf_ ih =>
      intro r1 m1 z hmeas_ hz hm1 e0 ep H locs ls w hl
      obtain ⟨b1, b2, b3, b4⟩ := id ep
      refine lv_aload_n S.1 S.2.1 dX3_trim_76 rfl (lv_at hl 0 rfl) ?_
      refine z_get (ci := 3) (C := RX3) (T := TX3) (N := 5) S w 0 rfl rfl in_X3_trim_X3 1 (by decide) ln_X3_trim_23 rfl rfl dX3_trim_77 ?_
      refine z_if_le (tgt := 110) S dX3_trim_80 (by decide) (by omega) (fun h80 => ?_) (fun h80 => ?_)
      · skip
        refine lv_aload_n S.1 S.2.1 dX3_trim_110 rfl (lv_at hl 0 rfl) ?_
        refine z_get (ci := 3) (C := RX3) (T := TX3) (N := 5) S w 0 rfl rfl in_X3_trim_X3 1 (by decide) ln_X3_trim_23 rfl rfl dX3_trim_111 ?_
        refine z_if_ne (tgt := 122) S dX3_trim_114 (by decide) (by omega) (fun h114 => ?_) (fun h114 => ?_)
        · skip
          have k1_ : mRep r1 m1 (P - z) X ∧ m1 ≤ n ∧ (m1 - (P - z) ≤ n - P ∨ m1 - (P - z) = 0) ∧ ((P - z) ≤ P ∨ (P - z) = 0) := by
            have c1 : m1 ≠ 0 := by omega
            refine ⟨⟨ep, fun q => absurd q c1, fun q => ⟨?_, ?_⟩⟩, by omega, by omega, by omega⟩
            · rcases e0 with q2 | q2
              · omega
              · exact q2
            · first | exact h94 | (exfalso; omega)
          exact z_vret S hr hlk w (r1, m1, P - z) k1_ rfl dX3_trim_122
        · skip
          refine lv_aload_n S.1 S.2.1 dX3_trim_117 rfl (lv_at hl 0 rfl) ?_
          refine z_iconst S dX3_trim_118 ?_
          refine z_put (ci := 3) (C := RX3) (T := TX3) (N := 5) S w 0 rfl rfl in_X3_trim_X3 tyX3_ok nmX3 2 (by decide) ln_X3_trim_31 rfl rfl rfl rfl (Nat.le_of_ble_eq_true rfl) dX3_trim_119 (fun H locs w => ?_)
          have w : zW D _ _ s [(h, .inr (3, [.ref hb, .int (zI m1), .int (zI 0), .ref ht, .int (zI len)])), (hb, .inl (cB, 1200, .inl (zA r1))), (ht, .inl (cT, 420, .inl (zA tx)))] H locs := w
          have k2_ : mRep r1 m1 (0 : Int) X ∧ m1 ≤ n ∧ (m1 - (0 : Int) ≤ n - P ∨ m1 - (0 : Int) = 0) ∧ ((0 : Int) ≤ P ∨ (0 : Int) = 0) := by
            have c1 : m1 = 0 := by omega
            refine ⟨⟨⟨fun j q => by omega, by omega, by omega, ?_⟩, fun _ => rfl, fun q => by omega⟩, by omega, by omega, by omega⟩
            rw [b4, c1]
            show hv r1 0 * _ = hv r1 0 * _
            rw [hv, Nat.zero_mul, Nat.zero_mul]
          exact z_vret S hr hlk w (r1, m1, 0) k2_ rfl dX3_trim_122
      · skip
        refine lv_aload_n S.1 S.2.1 dX3_trim_83 rfl (lv_at hl 0 rfl) ?_
        refine z_get (ci := 3) (C := RX3) (T := TX3) (N := 5) S w 0 rfl rfl in_X3_trim_X3 0 (by decide) ln_X3_trim_7 rfl rfl dX3_trim_84 ?_
        refine lv_aload_n S.1 S.2.1 dX3_trim_87 rfl (lv_at hl 0 rfl) ?_
        refine z_get (ci := 3) (C := RX3) (T := TX3) (N := 5) S w 0 rfl rfl in_X3_trim_X3 1 (by decide) ln_X3_trim_23 rfl rfl dX3_trim_88 ?_
        refine z_iconst S dX3_trim_91 ?_
        refine z_isub S dX3_trim_92 ?_
        refine z_bald S w 1 0 rfl rfl (by omega) (by decide) dX3_trim_93 ?_
        refine z_if_ne (tgt := 110) S dX3_trim_94 (by decide) (by have := b1 (m1 - 1).toNat (by omega); omega) (fun h94 => ?_) (fun h94 => ?_)
        · skip
          refine lv_aload_n S.1 S.2.1 dX3_trim_110 rfl (lv_at hl 0 rfl) ?_
          refine z_get (ci := 3) (C := RX3) (T := TX3) (N := 5) S w 0 rfl rfl in_X3_trim_X3 1 (by decide) ln_X3_trim_23 rfl rfl dX3_trim_111 ?_
          refine z_if_ne (tgt := 122) S dX3_trim_114 (by decide) (by omega) (fun h114 => ?_) (fun h114 => ?_)
          · skip
            have k3_ : mRep r1 m1 (P - z) X ∧ m1 ≤ n ∧ (m1 - (P - z) ≤ n - P ∨ m1 - (P - z) = 0) ∧ ((P - z) ≤ P ∨ (P - z) = 0) := by
              have c1 : m1 ≠ 0 := by omega
              refine ⟨⟨ep, fun q => absurd q c1, fun q => ⟨?_, ?_⟩⟩, by omega, by omega, by omega⟩
              · rcases e0 with q2 | q2
                · omega
                · exact q2
              · first | exact h94 | (exfalso; omega)
            exact z_vret S hr hlk w (r1, m1, P - z) k3_ rfl dX3_trim_122
          · skip
            refine lv_aload_n S.1 S.2.1 dX3_trim_117 rfl (lv_at hl 0 rfl) ?_
            refine z_iconst S dX3_trim_118 ?_
            refine z_put (ci := 3) (C := RX3) (T := TX3) (N := 5) S w 0 rfl rfl in_X3_trim_X3 tyX3_ok nmX3 2 (by decide) ln_X3_trim_31 rfl rfl rfl rfl (Nat.le_of_ble_eq_true rfl) dX3_trim_119 (fun H locs w => ?_)
            have w : zW D _ _ s [(h, .inr (3, [.ref hb, .int (zI m1), .int (zI 0), .ref ht, .int (zI len)])), (hb, .inl (cB, 1200, .inl (zA r1))), (ht, .inl (cT, 420, .inl (zA tx)))] H locs := w
            have k4_ : mRep r1 m1 (0 : Int) X ∧ m1 ≤ n ∧ (m1 - (0 : Int) ≤ n - P ∨ m1 - (0 : Int) = 0) ∧ ((0 : Int) ≤ P ∨ (0 : Int) = 0) := by
              have c1 : m1 = 0 := by omega
              refine ⟨⟨⟨fun j q => by omega, by omega, by omega, ?_⟩, fun _ => rfl, fun q => by omega⟩, by omega, by omega, by omega⟩
              rw [b4, c1]
              show hv r1 0 * _ = hv r1 0 * _
              rw [hv, Nat.zero_mul, Nat.zero_mul]
            exact z_vret S hr hlk w (r1, m1, 0) k4_ rfl dX3_trim_122
        · skip
          refine lv_aload_n S.1 S.2.1 dX3_trim_97 rfl (lv_at hl 0 rfl) ?_
          refine lv_aload_n S.1 S.2.1 dX3_trim_98 rfl (lv_at hl 0 rfl) ?_
          refine z_get (ci := 3) (C := RX3) (T := TX3) (N := 5) S w 0 rfl rfl in_X3_trim_X3 1 (by decide) ln_X3_trim_23 rfl rfl dX3_trim_99 ?_
          refine z_iconst S dX3_trim_102 ?_
          refine z_isub S dX3_trim_103 ?_
          refine z_put (ci := 3) (C := RX3) (T := TX3) (N := 5) S w 0 rfl rfl in_X3_trim_X3 tyX3_ok nmX3 1 (by decide) ln_X3_trim_23 rfl rfl rfl rfl (Nat.le_of_ble_eq_true rfl) dX3_trim_104 (fun H locs w => ?_)
          have w : zW D _ _ s [(h, .inr (3, [.ref hb, .int (zI (m1 - 1)), .int (zI (P - z)), .ref ht, .int (zI len)])), (hb, .inl (cB, 1200, .inl (zA r1))), (ht, .inl (cT, 420, .inl (zA tx)))] H locs := w
          refine lv_goto (tgt := 76) S.1 S.2.1 dX3_trim_107 (by decide) ?_
          have k5_ : (m1 - 1) = 0 ∨ r1 0 ≠ 0 := by
            rcases e0 with q | q
            · omega
            · exact Or.inr q
          have k6_ : mPre r1 (m1 - 1) (P - z) X := by
            refine ⟨fun j q => b1 j (by omega), by omega, by omega, ?_⟩
            have q1 : m1.toNat = (m1 - 1).toNat + 1 := by omega
            have q2 : (1200 + (P - z) - (m1 - 1)).toNat = (1200 + (P - z) - m1).toNat + 1 := by omega
            rw [b4, q1, hv, h94, q2, Nat.pow_succ]
            show (10 * hv r1 (m1 - 1).toNat + 0) * _ = _
            generalize hv r1 (m1 - 1).toNat = a
            generalize 10 ^ (1200 + (P - z) - m1).toNat = b
            grind
          exact ih r1 (m1 - 1) z (by omega) (by omega) (by omega) k5_ k6_ _ _ _ w (lv_sub hl [0] rfl)
  have lab28 : ∀ (nf_ : Nat) (r1 : Nat → Int) (z : Int) (k : Int), (n - k).toNat < nf_ → (0 ≤ z ∧ z ≤ n) → (z ≤ k ∧ k ≤ n) → (z = n ∨ r z.toNat ≠ 0) → (∀ j : Nat, (j : Int) < z → r j = 0) → (∀ j : Nat, (j : Int) < k - z → r1 j = r (j + z.toNat)) → (∀ j : Nat, k - z ≤ (j : Int) → r1 j = r j) → ∀ (H : Heap) (locs : List Loc) (ls : Array Slot), zW D [(cB, .byte), (cT, .int)] (va_A [(h, .inr (3, [.ref hb, .int (zI n), .int (zI P), .ref ht, .int (zI len)])), (hb, .inl (cB, 1200, .inl (zA r))), (ht, .inl (cT, 420, .inl (zA tx)))] s.heap.size) s [(h, .inr (3, [.ref hb, .int (zI n), .int (zI P), .ref ht, .int (zI len)])), (hb, .inl (cB, 1200, .inl (zA r1))), (ht, .inl (cT, 420, .inl (zA tx)))] H locs → lv_has ls 3 [(0, .ref h), (1, .int (zI z)), (2, .int (zI k))] → W p l e ({ frames := 0, cells := 0, slots := 0, locals := 0 } : Room) s m ([.ref h] : List Value).toArray below meth c H locs 0 0 (MQ below (zQv D [(cB, .byte), (cT, .int)] [(h, .inr (3, [.ref hb, .int (zI n), .int (zI P), .ref ht, .int (zI len)])), (hb, .inl (cB, 1200, .inl (zA r))), (ht, .inl (cT, 420, .inl (zA tx)))] s.heap.size (fun (u : (Nat → Int) × Int × Int) => mRep u.1 u.2.1 u.2.2 X ∧ u.2.1 ≤ n ∧ (u.2.1 - u.2.2 ≤ n - P ∨ u.2.1 - u.2.2 = 0) ∧ (u.2.2 ≤ P ∨ u.2.2 = 0)) (fun (u : (Nat → Int) × Int × Int) => [(h, .inr (3, [.ref hb, .int (zI u.2.1), .int (zI u.2.2), .ref ht, .int (zI len)])), (hb, .inl (cB, 1200, .inl (zA u.1))), (ht, .inl (cT, 420, .inl (zA tx)))])) ([.ref h] : List Value).toArray s 0 0 (va_A [(h, .inr (3, [.ref hb, .int (zI n), .int (zI P), .ref ht, .int (zI len)])), (hb, .inl (cB, 1200, .inl (zA r))), (ht, .inl (cT, 420, .inl (zA tx)))] s.heap.size)) (F0 m 28 ls []) := by
    intro nf_
    induction nf_ with
    | zero => intro r1 z k hmeas_; exact absurd hmeas_ (Nat.not_lt_zero _)
    | succ nf_ ih =>
      intro r1 z k hmeas_ hz hk hzz e0 e1 e2 H locs ls w hl
      obtain ⟨d1, d2, d3, d4⟩ := id hp
      refine lv_iload_n S.1 S.2.1 dX3_trim_28 rfl (lv_at hl 2 rfl) ?_
      refine lv_aload_n S.1 S.2.1 dX3_trim_29 rfl (lv_at hl 0 rfl) ?_
      refine z_get (ci := 3) (C := RX3) (T := TX3) (N := 5) S w 0 rfl rfl in_X3_trim_X3 1 (by decide) ln_X3_trim_23 rfl rfl dX3_trim_30 ?_
      refine z_icmp_ge (tgt := 56) S dX3_trim_33 (by decide) (by omega) (by omega) (fun h33 => ?_) (fun h33 => ?_)
      · skip
        refine lv_aload_n S.1 S.2.1 dX3_trim_56 rfl (lv_at hl 0 rfl) ?_
        refine lv_aload_n S.1 S.2.1 dX3_trim_57 rfl (lv_at hl 0 rfl) ?_
        refine z_get (ci := 3) (C := RX3) (T := TX3) (N := 5) S w 0 rfl rfl in_X3_trim_X3 1 (by decide) ln_X3_trim_23 rfl rfl dX3_trim_58 ?_
        refine lv_iload_n S.1 S.2.1 dX3_trim_61 rfl (lv_at hl 1 rfl) ?_
        refine z_isub S dX3_trim_62 ?_
        refine z_put (ci := 3) (C := RX3) (T := TX3) (N := 5) S w 0 rfl rfl in_X3_trim_X3 tyX3_ok nmX3 1 (by decide) ln_X3_trim_23 rfl rfl rfl rfl (Nat.le_of_ble_eq_true rfl) dX3_trim_63 (fun H locs w => ?_)
        have w : zW D _ _ s [(h, .inr (3, [.ref hb, .int (zI (n - z)), .int (zI P), .ref ht, .int (zI len)])), (hb, .inl (cB, 1200, .inl (zA r1))), (ht, .inl (cT, 420, .inl (zA tx)))] H locs := w
        refine lv_aload_n S.1 S.2.1 dX3_trim_66 rfl (lv_at hl 0 rfl) ?_
        refine lv_aload_n S.1 S.2.1 dX3_trim_67 rfl (lv_at hl 0 rfl) ?_
        refine z_get (ci := 3) (C := RX3) (T := TX3) (N := 5) S w 0 rfl rfl in_X3_trim_X3 2 (by decide) ln_X3_trim_31 rfl rfl dX3_trim_68 ?_
        refine lv_iload_n S.1 S.2.1 dX3_trim_71 rfl (lv_at hl 1 rfl) ?_
        refine z_isub S dX3_trim_72 ?_
        refine z_put (ci := 3) (C := RX3) (T := TX3) (N := 5) S w 0 rfl rfl in_X3_trim_X3 tyX3_ok nmX3 2 (by decide) ln_X3_trim_31 rfl rfl rfl rfl (Nat.le_of_ble_eq_true rfl) dX3_trim_73 (fun H locs w => ?_)
        have w : zW D _ _ s [(h, .inr (3, [.ref hb, .int (zI (n - z)), .int (zI (P - z)), .ref ht, .int (zI len)])), (hb, .inl (cB, 1200, .inl (zA r1))), (ht, .inl (cT, 420, .inl (zA tx)))] H locs := w
        have k7_ : (n - z) = 0 ∨ r1 0 ≠ 0 := by
          rcases hzz with q | q
          · exact Or.inl (by omega)
          · by_cases q1 : n - z = 0
            · exact Or.inl q1
            · right
              have q2 := e1 0 (by omega)
              have q3 : 0 + z.toNat = z.toNat := by omega
              rw [q2, q3]; exact q
        have k8_ : mPre r1 (n - z) (P - z) X := by
          refine ⟨fun j q => ?_, by omega, by omega, ?_⟩
          · rw [e1 j (by omega)]; exact d1 _ (by omega)
          · have q1 : n.toNat = z.toNat + (n - z).toNat := by omega
            have q2 : (1200 + (P - z) - (n - z)).toNat = (1200 + P - n).toNat := by omega
            rw [q2, d4, q1, hv_shift (fun j q => e0 j (by omega)) (fun j q => e1 j (by omega))]
        exact lab76 _ r1 (n - z) z (Nat.lt_succ_self _) (by omega) (by omega) k7_ k8_ _ _ _ w (lv_sub hl [0] rfl)
      · skip
        refine lv_aload_n S.1 S.2.1 dX3_trim_36 rfl (lv_at hl 0 rfl) ?_
        refine z_get (ci := 3) (C := RX3) (T := TX3) (N := 5) S w 0 rfl rfl in_X3_trim_X3 0 (by decide) ln_X3_trim_7 rfl rfl dX3_trim_37 ?_
        refine lv_iload_n S.1 S.2.1 dX3_trim_40 rfl (lv_at hl 2 rfl) ?_
        refine lv_iload_n S.1 S.2.1 dX3_trim_41 rfl (lv_at hl 1 rfl) ?_
        refine z_isub S dX3_trim_42 ?_
        refine lv_aload_n S.1 S.2.1 dX3_trim_43 rfl (lv_at hl 0 rfl) ?_
        refine z_get (ci := 3) (C := RX3) (T := TX3) (N := 5) S w 0 rfl rfl in_X3_trim_X3 0 (by decide) ln_X3_trim_7 rfl rfl dX3_trim_44 ?_
        refine lv_iload_n S.1 S.2.1 dX3_trim_47 rfl (lv_at hl 2 rfl) ?_
        refine z_bald S w 1 0 rfl rfl (by omega) (by decide) dX3_trim_48 ?_
        refine z_bast S w 1 0 rfl rfl (by omega) (by decide) (by rw [e2 _ (by omega)]; have := d1 k.toNat (by omega); omega) dX3_trim_49 (fun H locs w => ?_)
        have w : zW D _ _ s [(h, .inr (3, [.ref hb, .int (zI n), .int (zI P), .ref ht, .int (zI len)])), (hb, .inl (cB, 1200, .inl (zA (zu r1 (k - z).toNat (r1 k.toNat))))), (ht, .inl (cT, 420, .inl (zA tx)))] H locs := w
        refine lv_iinc (v := zI (k + 1)) (lv' := [(2, .int (zI (k + 1))), (0, .ref h), (1, .int (zI z))]) S.1 S.2.1 dX3_trim_50 hl (k := 2) rfl (zI_add k 1) (by decide) rfl (fun ls hl => ?_)
        refine lv_goto (tgt := 28) S.1 S.2.1 dX3_trim_53 (by decide) ?_
        have k9_ : ∀ j : Nat, (j : Int) < (k + 1) - z → (zu r1 (k - z).toNat (r1 k.toNat)) j = r (j + z.toNat) := by
          intro j q
          by_cases q1 : (j : Int) = k - z
          · have q2 : (k - z).toNat = j := by omega
            have q3 : k.toNat = j + z.toNat := by omega
            rw [q2, zu_s, e2 _ (by omega), q3]
          · rw [zu_n _ _ (by omega)]; exact e1 j (by omega)
        exact ih (zu r1 (k - z).toNat (r1 k.toNat)) z (k + 1) (by omega) (by omega) (by omega) hzz e0 k9_ (fun j q => by rw [zu_n _ _ (by omega)]; exact e2 j (by omega)) _ _ _ w (lv_sub hl [1, 2, 0] rfl)
  have lab2 : ∀ (nf_ : Nat) (z : Int), (n - z).toNat < nf_ → (0 ≤ z ∧ z ≤ n) → (∀ j : Nat, (j : Int) < z → r j = 0) → ∀ (H : Heap) (locs : List Loc) (ls : Array Slot), zW D [(cB, .byte), (cT, .int)] (va_A [(h, .inr (3, [.ref hb, .int (zI n), .int (zI P), .ref ht, .int (zI len)])), (hb, .inl (cB, 1200, .inl (zA r))), (ht, .inl (cT, 420, .inl (zA tx)))] s.heap.size) s [(h, .inr (3, [.ref hb, .int (zI n), .int (zI P), .ref ht, .int (zI len)])), (hb, .inl (cB, 1200, .inl (zA r))), (ht, .inl (cT, 420, .inl (zA tx)))] H locs → lv_has ls 3 [(0, .ref h), (1, .int (zI z))] → W p l e ({ frames := 0, cells := 0, slots := 0, locals := 0 } : Room) s m ([.ref h] : List Value).toArray below meth c H locs 0 0 (MQ below (zQv D [(cB, .byte), (cT, .int)] [(h, .inr (3, [.ref hb, .int (zI n), .int (zI P), .ref ht, .int (zI len)])), (hb, .inl (cB, 1200, .inl (zA r))), (ht, .inl (cT, 420, .inl (zA tx)))] s.heap.size (fun (u : (Nat → Int) × Int × Int) => mRep u.1 u.2.1 u.2.2 X ∧ u.2.1 ≤ n ∧ (u.2.1 - u.2.2 ≤ n - P ∨ u.2.1 - u.2.2 = 0) ∧ (u.2.2 ≤ P ∨ u.2.2 = 0)) (fun (u : (Nat → Int) × Int × Int) => [(h, .inr (3, [.ref hb, .int (zI u.2.1), .int (zI u.2.2), .ref ht, .int (zI len)])), (hb, .inl (cB, 1200, .inl (zA u.1))), (ht, .inl (cT, 420, .inl (zA tx)))])) ([.ref h] : List Value).toArray s 0 0 (va_A [(h, .inr (3, [.ref hb, .int (zI n), .int (zI P), .ref ht, .int (zI len)])), (hb, .inl (cB, 1200, .inl (zA r))), (ht, .inl (cT, 420, .inl (zA tx)))] s.heap.size)) (F0 m 2 ls []) := by
    intro nf_
    induction nf_ with
    | zero => intro z hmeas_; exact absurd hmeas_ (Nat.not_lt_zero _)
    | succ nf_ ih =>
      intro z hmeas_ hz e0 H locs ls w hl
      obtain ⟨d1, d2, d3, d4⟩ := id hp
      refine lv_iload_n S.1 S.2.1 dX3_trim_2 rfl (lv_at hl 1 rfl) ?_
      refine lv_aload_n S.1 S.2.1 dX3_trim_3 rfl (lv_at hl 0 rfl) ?_
      refine z_get (ci := 3) (C := RX3) (T := TX3) (N := 5) S w 0 rfl rfl in_X3_trim_X3 1 (by decide) ln_X3_trim_23 rfl rfl dX3_trim_4 ?_
      refine z_icmp_ge (tgt := 26) S dX3_trim_7 (by decide) (by omega) (by omega) (fun h7 => ?_) (fun h7 => ?_)
      · skip
        refine lv_iload_n S.1 S.2.1 dX3_trim_26 rfl (lv_at hl 1 rfl) ?_
        refine lv_istore_n (lv' := [(2, .int (zI z)), (0, .ref h), (1, .int (zI z))]) S.1 S.2.1 dX3_trim_27 rfl hl (by decide) rfl (fun ls hl => ?_)
        exact lab28 _ r z z (Nat.lt_succ_self _) (by omega) (by omega) (by first | exact Or.inr h16 | exact Or.inl (by omega)) e0 (fun j q => by omega) (fun j q => rfl) _ _ _ w (lv_sub hl [1, 2, 0] rfl)
      · skip
        refine lv_aload_n S.1 S.2.1 dX3_trim_10 rfl (lv_at hl 0 rfl) ?_
        refine z_get (ci := 3) (C := RX3) (T := TX3) (N := 5) S w 0 rfl rfl in_X3_trim_X3 0 (by decide) ln_X3_trim_7 rfl rfl dX3_trim_11 ?_
        refine lv_iload_n S.1 S.2.1 dX3_trim_14 rfl (lv_at hl 1 rfl) ?_
        refine z_bald S w 1 0 rfl rfl (by omega) (by decide) dX3_trim_15 ?_
        refine z_if_ne (tgt := 26) S dX3_trim_16 (by decide) (by have := d1 z.toNat (by omega); omega) (fun h16 => ?_) (fun h16 => ?_)
        · skip
          refine lv_iload_n S.1 S.2.1 dX3_trim_26 rfl (lv_at hl 1 rfl) ?_
          refine lv_istore_n (lv' := [(2, .int (zI z)), (0, .ref h), (1, .int (zI z))]) S.1 S.2.1 dX3_trim_27 rfl hl (by decide) rfl (fun ls hl => ?_)
          exact lab28 _ r z z (Nat.lt_succ_self _) (by omega) (by omega) (by first | exact Or.inr h16 | exact Or.inl (by omega)) e0 (fun j q => by omega) (fun j q => rfl) _ _ _ w (lv_sub hl [1, 2, 0] rfl)
        · skip
          refine lv_iload_n S.1 S.2.1 dX3_trim_19 rfl (lv_at hl 1 rfl) ?_
          refine z_iconst S dX3_trim_20 ?_
          refine z_iadd S dX3_trim_21 ?_
          refine lv_istore_n (lv' := [(1, .int (zI (z + 1))), (0, .ref h)]) S.1 S.2.1 dX3_trim_22 rfl hl (by decide) rfl (fun ls hl => ?_)
          refine lv_goto (tgt := 2) S.1 S.2.1 dX3_trim_23 (by decide) ?_
          have k10_ : ∀ j : Nat, (j : Int) < (z + 1) → r j = 0 := by
            intro j q
            by_cases q1 : (j : Int) = z
            · have q2 : z.toNat = j := by omega
              rw [q2] at h16; exact h16
            · exact e0 j (by omega)
          exact ih (z + 1) (by omega) (by omega) k10_ _ _ _ w (lv_sub hl [1, 0] rfl)
  have hl : lv_has ls 3 [(0, .ref h)] := hl
  refine z_iconst S dX3_trim_0 ?_
  refine lv_istore_n (lv' := [(1, .int (zI 0)), (0, .ref h)]) S.1 S.2.1 dX3_trim_1 rfl hl (by decide) rfl (fun ls hl => ?_)
  obtain ⟨d1, d2, d3, d4⟩ := id hp
  exact lab2 _ 0 (Nat.lt_succ_self _) (by omega) (fun j q => by omega) _ _ _ w (lv_sub hl [1, 0] rfl)

set_option maxRecDepth 20000 in
theorem ln_X3_half_23 : Cond.fieldLink RX3 23 "DecimalTextModel" "digits" "I" ∈ wsX3_half := by decide +kernel
theorem in_X3_half_X3 : ∀ w ∈ u_ws RX3 TX3 5, w ∈ wsX3_half := by decide +kernel
set_option maxRecDepth 20000 in
theorem ln_X3_half_7 : Cond.fieldLink RX3 7 "DecimalTextModel" "row" "[B" ∈ wsX3_half := by decide +kernel
set_option maxHeartbeats 4000000 in
set_option maxRecDepth 100000 in
theorem c_X3_half (l : Launch) (D : va_G) (cB cT : ClassId) (h : Nat) (hb : Nat) (ht : Nat) (r : Nat → Int) (n : Int) (P : Int) (tx : Nat → Int) (len : Int) (X : Nat) (hp : mRep r n P (2 * X)) (hn : n ≤ 1190) (hP : -2000 ≤ P ∧ P ≤ 2000) (hpn : 1 ≤ 1200 + P - n) : zMv (T := (Nat → Int) × Int × Int) l yX3_half wsX3_half ({ frames := 1, cells := 0, slots := 0, locals := 22 } : Room) D [(cB, .byte), (cT, .int)] [.ref h] [(h, .inr (3, [.ref hb, .int (zI n), .int (zI P), .ref ht, .int (zI len)])), (hb, .inl (cB, 1200, .inl (zA r))), (ht, .inl (cT, 420, .inl (zA tx)))] (fun (u : (Nat → Int) × Int × Int) => mRep u.1 u.2.1 u.2.2 X ∧ u.2.1 ≤ n + 1 ∧ (u.2.1 - u.2.2 ≤ n + 1 - P ∨ u.2.1 - u.2.2 = 0) ∧ (u.2.2 ≤ P ∨ u.2.2 = 0)) (fun (u : (Nat → Int) × Int × Int) => [(h, .inr (3, [.ref hb, .int (zI u.2.1), .int (zI u.2.2), .ref ht, .int (zI len)])), (hb, .inl (cB, 1200, .inl (zA u.1))), (ht, .inl (cT, 420, .inl (zA tx)))]) 0 0 := by
  refine zMv.of (bytes := cX3_half) (nL := 4) (own := RX3) (by decide) rfl rfl (Nat.le_of_ble_eq_true rfl) ?_
  intro p e s m below meth c ls S hr hlk hnm w hl
  have lab4 : ∀ (nf_ : Nat) (r1 : Nat → Int) (re : Int) (k : Int), (n - k).toNat < nf_ → (0 ≤ k ∧ k ≤ n) → (0 ≤ re ∧ re ≤ 1) → (∀ j : Nat, (j : Int) < k → 0 ≤ r1 j ∧ r1 j ≤ 9) → (∀ j : Nat, k ≤ (j : Int) → r1 j = r j) → (2 * hv r1 k.toNat + re.toNat = hv r k.toNat) → ∀ (H : Heap) (locs : List Loc) (ls : Array Slot), zW D [(cB, .byte), (cT, .int)] (va_A [(h, .inr (3, [.ref hb, .int (zI n), .int (zI P), .ref ht, .int (zI len)])), (hb, .inl (cB, 1200, .inl (zA r))), (ht, .inl (cT, 420, .inl (zA tx)))] s.heap.size) s [(h, .inr (3, [.ref hb, .int (zI n), .int (zI P), .ref ht, .int (zI len)])), (hb, .inl (cB, 1200, .inl (zA r1))), (ht, .inl (cT, 420, .inl (zA tx)))] H locs → lv_has ls 4 [(0, .ref h), (1, .int (zI re)), (2, .int (zI k))] → W p l e ({ frames := 1, cells := 0, slots := 0, locals := 22 } : Room) s m ([.ref h] : List Value).toArray below meth c H locs 0 0 (MQ below (zQv D [(cB, .byte), (cT, .int)] [(h, .inr (3, [.ref hb, .int (zI n), .int (zI P), .ref ht, .int (zI len)])), (hb, .inl (cB, 1200, .inl (zA r))), (ht, .inl (cT, 420, .inl (zA tx)))] s.heap.size (fun (u : (Nat → Int) × Int × Int) => mRep u.1 u.2.1 u.2.2 X ∧ u.2.1 ≤ n + 1 ∧ (u.2.1 - u.2.2 ≤ n + 1 - P ∨ u.2.1 - u.2.2 = 0) ∧ (u.2.2 ≤ P ∨ u.2.2 = 0)) (fun (u : (Nat → Int) × Int × Int) => [(h, .inr (3, [.ref hb, .int (zI u.2.1), .int (zI u.2.2), .ref ht, .int (zI len)])), (hb, .inl (cB, 1200, .inl (zA u.1))), (ht, .inl (cT, 420, .inl (zA tx)))])) ([.ref h] : List Value).toArray s 0 0 (va_A [(h, .inr (3, [.ref hb, .int (zI n), .int (zI P), .ref ht, .int (zI len)])), (hb, .inl (cB, 1200, .inl (zA r))), (ht, .inl (cT, 420, .inl (zA tx)))] s.heap.size)) (F0 m 4 ls []) := by
    intro nf_
    induction nf_ with
    | zero => intro r1 re k hmeas_; exact absurd hmeas_ (Nat.not_lt_zero _)
    | succ nf_ ih =>
      intro r1 re k hmeas_ hk hre e1 e2 ev H locs ls w hl
      obtain ⟨⟨d1, d2, d3, d4⟩, d5, d6⟩ := id hp
      refine lv_iload_n S.1 S.2.1 dX3_half_4 rfl (lv_at hl 2 rfl) ?_
      refine lv_aload_n S.1 S.2.1 dX3_half_5 rfl (lv_at hl 0 rfl) ?_
      refine z_get (ci := 3) (C := RX3) (T := TX3) (N := 5) S w 0 rfl rfl in_X3_half_X3 1 (by decide) ln_X3_half_23 rfl rfl dX3_half_6 ?_
      refine z_icmp_ge (tgt := 44) S dX3_half_9 (by decide) (by omega) (by omega) (fun h9 => ?_) (fun h9 => ?_)
      · skip
        have ek : k = n := by omega
        rw [ek] at e1 e2 ev
        refine lv_iload_n S.1 S.2.1 dX3_half_44 rfl (lv_at hl 1 rfl) ?_
        refine z_if_le (tgt := 68) S dX3_half_45 (by decide) (by omega) (fun h45 => ?_) (fun h45 => ?_)
        · skip
          refine lv_aload_n S.1 S.2.1 dX3_half_68 rfl (lv_at hl 0 rfl) ?_
          refine z_callvV (C := RX3) (n := 0) (As := []) (rest := []) (wr := []) (wn := (fun (u : (Nat → Int) × Int × Int) => [(h, .inr (3, [.ref hb, .int (zI u.2.1), .int (zI u.2.2), .ref ht, .int (zI len)])), (hb, .inl (cB, 1200, .inl (zA u.1))), (ht, .inl (cT, 420, .inl (zA tx)))])) S w (c_X3_trim l D cB cT h hb ht r1 n P tx len X (by first | exact half_pre1 hp hpn (fun j q => e1 j (by omega)) (by omega) ev rfl | exact half_pre hp (fun j q => e1 j (by omega)) (by omega) ev) (by omega) (by omega)) gX3_half_X3_trim (by decide +kernel) rfl ⟨rfl, rfl⟩ ⟨Nat.le_of_ble_eq_true rfl, Nat.le_of_ble_eq_true rfl⟩ [0, 1] [0, 1, 2] [] [0, 1, 2] rfl rfl rfl rfl rfl (by decide) (fun u => rfl) rfl rfl rfl rfl rfl hl.1 (Nat.le_of_ble_eq_true rfl) ⟨Nat.le_of_ble_eq_true rfl, Nat.le_of_ble_eq_true rfl⟩ rfl dX3_half_69 (fun u H locs p69 w => ?_)
          obtain ⟨r69, n69, P69⟩ := u
          have p69 : mRep r69 n69 P69 X ∧ n69 ≤ n ∧ (n69 - P69 ≤ n - P ∨ n69 - P69 = 0) ∧ (P69 ≤ P ∨ P69 = 0) := p69
          have w : zW D _ _ s [(h, .inr (3, [.ref hb, .int (zI n69), .int (zI P69), .ref ht, .int (zI len)])), (hb, .inl (cB, 1200, .inl (zA r69))), (ht, .inl (cT, 420, .inl (zA tx)))] H locs := w
          exact z_vret S hr hlk w (r69, n69, P69) (by obtain ⟨a1, a2, a3, a4⟩ := p69; exact ⟨a1, by omega, by omega, by omega⟩) rfl dX3_half_72
        · skip
          refine lv_aload_n S.1 S.2.1 dX3_half_48 rfl (lv_at hl 0 rfl) ?_
          refine z_get (ci := 3) (C := RX3) (T := TX3) (N := 5) S w 0 rfl rfl in_X3_half_X3 0 (by decide) ln_X3_half_7 rfl rfl dX3_half_49 ?_
          refine lv_aload_n S.1 S.2.1 dX3_half_52 rfl (lv_at hl 0 rfl) ?_
          refine z_get (ci := 3) (C := RX3) (T := TX3) (N := 5) S w 0 rfl rfl in_X3_half_X3 1 (by decide) ln_X3_half_23 rfl rfl dX3_half_53 ?_
          refine z_iconst S dX3_half_56 ?_
          refine z_bast S w 1 0 rfl rfl (by omega) (by decide) (by omega) dX3_half_57 (fun H locs w => ?_)
          have w : zW D _ _ s [(h, .inr (3, [.ref hb, .int (zI n), .int (zI P), .ref ht, .int (zI len)])), (hb, .inl (cB, 1200, .inl (zA (zu r1 n.toNat 5)))), (ht, .inl (cT, 420, .inl (zA tx)))] H locs := w
          refine lv_aload_n S.1 S.2.1 dX3_half_58 rfl (lv_at hl 0 rfl) ?_
          refine lv_aload_n S.1 S.2.1 dX3_half_59 rfl (lv_at hl 0 rfl) ?_
          refine z_get (ci := 3) (C := RX3) (T := TX3) (N := 5) S w 0 rfl rfl in_X3_half_X3 1 (by decide) ln_X3_half_23 rfl rfl dX3_half_60 ?_
          refine z_iconst S dX3_half_63 ?_
          refine z_iadd S dX3_half_64 ?_
          refine z_put (ci := 3) (C := RX3) (T := TX3) (N := 5) S w 0 rfl rfl in_X3_half_X3 tyX3_ok nmX3 1 (by decide) ln_X3_half_23 rfl rfl rfl rfl (Nat.le_of_ble_eq_true rfl) dX3_half_65 (fun H locs w => ?_)
          have w : zW D _ _ s [(h, .inr (3, [.ref hb, .int (zI (n + 1)), .int (zI P), .ref ht, .int (zI len)])), (hb, .inl (cB, 1200, .inl (zA (zu r1 n.toNat 5)))), (ht, .inl (cT, 420, .inl (zA tx)))] H locs := w
          refine lv_aload_n S.1 S.2.1 dX3_half_68 rfl (lv_at hl 0 rfl) ?_
          refine z_callvV (C := RX3) (n := 0) (As := []) (rest := []) (wr := []) (wn := (fun (u : (Nat → Int) × Int × Int) => [(h, .inr (3, [.ref hb, .int (zI u.2.1), .int (zI u.2.2), .ref ht, .int (zI len)])), (hb, .inl (cB, 1200, .inl (zA u.1))), (ht, .inl (cT, 420, .inl (zA tx)))])) S w (c_X3_trim l D cB cT h hb ht (zu r1 n.toNat 5) (n + 1) P tx len X (by first | exact half_pre1 hp hpn (fun j q => e1 j (by omega)) (by omega) ev rfl | exact half_pre hp (fun j q => e1 j (by omega)) (by omega) ev) (by omega) (by omega)) gX3_half_X3_trim (by decide +kernel) rfl ⟨rfl, rfl⟩ ⟨Nat.le_of_ble_eq_true rfl, Nat.le_of_ble_eq_true rfl⟩ [0, 1] [0, 1, 2] [] [0, 1, 2] rfl rfl rfl rfl rfl (by decide) (fun u => rfl) rfl rfl rfl rfl rfl hl.1 (Nat.le_of_ble_eq_true rfl) ⟨Nat.le_of_ble_eq_true rfl, Nat.le_of_ble_eq_true rfl⟩ rfl dX3_half_69 (fun u H locs p69 w => ?_)
          obtain ⟨r69, n69, P69⟩ := u
          have p69 : mRep r69 n69 P69 X ∧ n69 ≤ (n + 1) ∧ (n69 - P69 ≤ (n + 1) - P ∨ n69 - P69 = 0) ∧ (P69 ≤ P ∨ P69 = 0) := p69
          have w : zW D _ _ s [(h, .inr (3, [.ref hb, .int (zI n69), .int (zI P69), .ref ht, .int (zI len)])), (hb, .inl (cB, 1200, .inl (zA r69))), (ht, .inl (cT, 420, .inl (zA tx)))] H locs := w
          exact z_vret S hr hlk w (r69, n69, P69) (by obtain ⟨a1, a2, a3, a4⟩ := p69; exact ⟨a1, by omega, by omega, by omega⟩) rfl dX3_half_72
      · skip
        have x1 : r1 k.toNat = r k.toNat := e2 _ (by omega)
        have x2 := d1 k.toNat (by omega)
        rw [← x1] at x2
        refine z_bipush S dX3_half_12 (by decide +kernel) ?_
        refine lv_iload_n S.1 S.2.1 dX3_half_14 rfl (lv_at hl 1 rfl) ?_
        refine z_imul S dX3_half_15 ?_
        refine lv_aload_n S.1 S.2.1 dX3_half_16 rfl (lv_at hl 0 rfl) ?_
        refine z_get (ci := 3) (C := RX3) (T := TX3) (N := 5) S w 0 rfl rfl in_X3_half_X3 0 (by decide) ln_X3_half_7 rfl rfl dX3_half_17 ?_
        refine lv_iload_n S.1 S.2.1 dX3_half_20 rfl (lv_at hl 2 rfl) ?_
        refine z_bald S w 1 0 rfl rfl (by omega) (by decide) dX3_half_21 ?_
        refine z_iadd S dX3_half_22 ?_
        refine lv_istore_n (lv' := [(3, .int (zI ((10 * re) + (r1 k.toNat)))), (0, .ref h), (1, .int (zI re)), (2, .int (zI k))]) S.1 S.2.1 dX3_half_23 rfl hl (by decide) rfl (fun ls hl => ?_)
        refine lv_aload_n S.1 S.2.1 dX3_half_24 rfl (lv_at hl 1 rfl) ?_
        refine z_get (ci := 3) (C := RX3) (T := TX3) (N := 5) S w 0 rfl rfl in_X3_half_X3 0 (by decide) ln_X3_half_7 rfl rfl dX3_half_25 ?_
        refine lv_iload_n S.1 S.2.1 dX3_half_28 rfl (lv_at hl 3 rfl) ?_
        refine lv_iload_n S.1 S.2.1 dX3_half_29 rfl (lv_at hl 0 rfl) ?_
        refine z_iconst S dX3_half_30 ?_
        refine z_idiv S dX3_half_31 (by omega) (by omega) ?_
        refine z_i2b S dX3_half_32 (by omega) ?_
        refine z_bast S w 1 0 rfl rfl (by omega) (by decide) (by omega) dX3_half_33 (fun H locs w => ?_)
        have w : zW D _ _ s [(h, .inr (3, [.ref hb, .int (zI n), .int (zI P), .ref ht, .int (zI len)])), (hb, .inl (cB, 1200, .inl (zA (zu r1 k.toNat (((10 * re) + (r1 k.toNat)) / 2))))), (ht, .inl (cT, 420, .inl (zA tx)))] H locs := w
        refine lv_iload_n S.1 S.2.1 dX3_half_34 rfl (lv_at hl 0 rfl) ?_
        refine z_iconst S dX3_half_35 ?_
        refine z_irem S dX3_half_36 (by omega) (by omega) ?_
        refine lv_istore_n (lv' := [(1, .int (zI (((10 * re) + (r1 k.toNat)) % 2))), (3, .int (zI ((10 * re) + (r1 k.toNat)))), (0, .ref h), (2, .int (zI k))]) S.1 S.2.1 dX3_half_37 rfl hl (by decide) rfl (fun ls hl => ?_)
        refine lv_iinc (v := zI (k + 1)) (lv' := [(2, .int (zI (k + 1))), (1, .int (zI (((10 * re) + (r1 k.toNat)) % 2))), (3, .int (zI ((10 * re) + (r1 k.toNat)))), (0, .ref h)]) S.1 S.2.1 dX3_half_38 hl (k := 3) rfl (zI_add k 1) (by decide) rfl (fun ls hl => ?_)
        refine lv_goto (tgt := 4) S.1 S.2.1 dX3_half_41 (by decide) ?_
        have k1_ : ∀ j : Nat, (j : Int) < (k + 1) → 0 ≤ (zu r1 k.toNat (((10 * re) + (r1 k.toNat)) / 2)) j ∧ (zu r1 k.toNat (((10 * re) + (r1 k.toNat)) / 2)) j ≤ 9 := by
          intro j q
          by_cases q1 : (j : Int) = k
          · have q2 : k.toNat = j := by omega
            rw [q2] at x2 ⊢
            rw [zu_s]; omega
          · rw [zu_n _ _ (by omega)]; exact e1 j (by omega)
        have k2_ : 2 * hv (zu r1 k.toNat (((10 * re) + (r1 k.toNat)) / 2)) (k + 1).toNat + (((10 * re) + (r1 k.toNat)) % 2).toNat = hv r (k + 1).toNat := by
          have q1 : (k + 1).toNat = k.toNat + 1 := by omega
          rw [q1, hv, hv, zu_s, hv_congr (t := r1) (k := k.toNat) (fun j q => zu_n _ _ (by omega)), ← x1]
          have q2 := half_step (x := (r1 k.toNat).toNat) ev (by omega)
          omega
        exact ih (zu r1 k.toNat (((10 * re) + (r1 k.toNat)) / 2)) (((10 * re) + (r1 k.toNat)) % 2) (k + 1) (by omega) (by omega) (by omega) k1_ (fun j q => by rw [zu_n _ _ (by omega)]; exact e2 j (by omega)) k2_ _ _ _ w (lv_sub hl [3, 1, 0] rfl)
  have hl : lv_has ls 4 [(0, .ref h)] := hl
  have hpn0 := hp.1.2.1
  refine z_iconst S dX3_half_0 ?_
  refine lv_istore_n (lv' := [(1, .int (zI 0)), (0, .ref h)]) S.1 S.2.1 dX3_half_1 rfl hl (by decide) rfl (fun ls hl => ?_)
  refine z_iconst S dX3_half_2 ?_
  refine lv_istore_n (lv' := [(2, .int (zI 0)), (1, .int (zI 0)), (0, .ref h)]) S.1 S.2.1 dX3_half_3 rfl hl (by decide) rfl (fun ls hl => ?_)
  exact lab4 _ r 0 0 (Nat.lt_succ_self _) (by omega) (by omega) (fun j q => by omega) (fun j q => rfl) rfl _ _ _ w (lv_sub hl [2, 1, 0] rfl)

set_option maxRecDepth 20000 in
theorem ln_X3_twice_7 : Cond.fieldLink RX3 7 "DecimalTextModel" "row" "[B" ∈ wsX3_twice := by decide +kernel
theorem in_X3_twice_X3 : ∀ w ∈ u_ws RX3 TX3 5, w ∈ wsX3_twice := by decide +kernel
set_option maxRecDepth 20000 in
theorem ln_X3_twice_23 : Cond.fieldLink RX3 23 "DecimalTextModel" "digits" "I" ∈ wsX3_twice := by decide +kernel
set_option maxRecDepth 20000 in
theorem ln_X3_twice_31 : Cond.fieldLink RX3 31 "DecimalTextModel" "point" "I" ∈ wsX3_twice := by decide +kernel
set_option maxHeartbeats 4000000 in
set_option maxRecDepth 100000 in
theorem c_X3_twice (l : Launch) (D : va_G) (cB cT : ClassId) (h : Nat) (hb : Nat) (ht : Nat) (r : Nat → Int) (n : Int) (P : Int) (tx : Nat → Int) (len : Int) (X : Nat) (hp : mRep r n P X) (hn : n ≤ 1190) (hP : -2000 ≤ P ∧ P ≤ 2000) : zMv (T := (Nat → Int) × Int × Int) l yX3_twice wsX3_twice ({ frames := 1, cells := 0, slots := 0, locals := 22 } : Room) D [(cB, .byte), (cT, .int)] [.ref h] [(h, .inr (3, [.ref hb, .int (zI n), .int (zI P), .ref ht, .int (zI len)])), (hb, .inl (cB, 1200, .inl (zA r))), (ht, .inl (cT, 420, .inl (zA tx)))] (fun (u : (Nat → Int) × Int × Int) => mRep u.1 u.2.1 u.2.2 (2 * X) ∧ u.2.1 ≤ n + 1 ∧ (u.2.1 - u.2.2 ≤ n - P ∨ u.2.1 - u.2.2 = 0) ∧ (u.2.2 ≤ P + 1 ∨ u.2.2 = 0)) (fun (u : (Nat → Int) × Int × Int) => [(h, .inr (3, [.ref hb, .int (zI u.2.1), .int (zI u.2.2), .ref ht, .int (zI len)])), (hb, .inl (cB, 1200, .inl (zA u.1))), (ht, .inl (cT, 420, .inl (zA tx)))]) 0 0 := by
  refine zMv.of (bytes := cX3_twice) (nL := 4) (own := RX3) (by decide) rfl rfl (Nat.le_of_ble_eq_true rfl) ?_
  intro p e s m below meth c ls S hr hlk hnm w hl
  have lab55 : ∀ (nf_ : Nat) (r1 : Nat → Int) (r2 : Nat → Int) (cr : Int) (k : Int), (k).toNat < nf_ → (0 ≤ k ∧ k ≤ n) → (cr = 1) → (∀ j : Nat, (j : Int) < n → 0 ≤ r1 j ∧ r1 j ≤ 9) → (hv r1 n.toNat + 10 ^ n.toNat = 2 * hv r n.toNat) → (∀ j : Nat, (j : Int) < k → r2 j = r1 j) → (∀ j : Nat, k ≤ (j : Int) → (j : Int) < n → r2 (j + 1) = r1 j) → ∀ (H : Heap) (locs : List Loc) (ls : Array Slot), zW D [(cB, .byte), (cT, .int)] (va_A [(h, .inr (3, [.ref hb, .int (zI n), .int (zI P), .ref ht, .int (zI len)])), (hb, .inl (cB, 1200, .inl (zA r))), (ht, .inl (cT, 420, .inl (zA tx)))] s.heap.size) s [(h, .inr (3, [.ref hb, .int (zI n), .int (zI P), .ref ht, .int (zI len)])), (hb, .inl (cB, 1200, .inl (zA r2))), (ht, .inl (cT, 420, .inl (zA tx)))] H locs → lv_has ls 4 [(0, .ref h), (1, .int (zI cr)), (2, .int (zI k))] → W p l e ({ frames := 1, cells := 0, slots := 0, locals := 22 } : Room) s m ([.ref h] : List Value).toArray below meth c H locs 0 0 (MQ below (zQv D [(cB, .byte), (cT, .int)] [(h, .inr (3, [.ref hb, .int (zI n), .int (zI P), .ref ht, .int (zI len)])), (hb, .inl (cB, 1200, .inl (zA r))), (ht, .inl (cT, 420, .inl (zA tx)))] s.heap.size (fun (u : (Nat → Int) × Int × Int) => mRep u.1 u.2.1 u.2.2 (2 * X) ∧ u.2.1 ≤ n + 1 ∧ (u.2.1 - u.2.2 ≤ n - P ∨ u.2.1 - u.2.2 = 0) ∧ (u.2.2 ≤ P + 1 ∨ u.2.2 = 0)) (fun (u : (Nat → Int) × Int × Int) => [(h, .inr (3, [.ref hb, .int (zI u.2.1), .int (zI u.2.2), .ref ht, .int (zI len)])), (hb, .inl (cB, 1200, .inl (zA u.1))), (ht, .inl (cT, 420, .inl (zA tx)))])) ([.ref h] : List Value).toArray s 0 0 (va_A [(h, .inr (3, [.ref hb, .int (zI n), .int (zI P), .ref ht, .int (zI len)])), (hb, .inl (cB, 1200, .inl (zA r))), (ht, .inl (cT, 420, .inl (zA tx)))] s.heap.size)) (F0 m 55 ls []) := by
    intro nf_
    induction nf_ with
    | zero => intro r1 r2 cr k hmeas_; exact absurd hmeas_ (Nat.not_lt_zero _)
    | succ nf_ ih =>
      intro r1 r2 cr k hmeas_ hk hcr d1 ev e1 e2 H locs ls w hl
      refine lv_iload_n S.1 S.2.1 dX3_twice_55 rfl (lv_at hl 2 rfl) ?_
      refine z_if_le (tgt := 79) S dX3_twice_56 (by decide) (by omega) (fun h56 => ?_) (fun h56 => ?_)
      · skip
        refine lv_aload_n S.1 S.2.1 dX3_twice_79 rfl (lv_at hl 0 rfl) ?_
        refine z_get (ci := 3) (C := RX3) (T := TX3) (N := 5) S w 0 rfl rfl in_X3_twice_X3 0 (by decide) ln_X3_twice_7 rfl rfl dX3_twice_80 ?_
        refine z_iconst S dX3_twice_83 ?_
        refine lv_iload_n S.1 S.2.1 dX3_twice_84 rfl (lv_at hl 1 rfl) ?_
        refine z_i2b S dX3_twice_85 (by omega) ?_
        refine z_bast S w 1 0 rfl rfl (by omega) (by decide) (by omega) dX3_twice_86 (fun H locs w => ?_)
        have w : zW D _ _ s [(h, .inr (3, [.ref hb, .int (zI n), .int (zI P), .ref ht, .int (zI len)])), (hb, .inl (cB, 1200, .inl (zA (zu r2 (0 : Int).toNat cr)))), (ht, .inl (cT, 420, .inl (zA tx)))] H locs := w
        refine lv_aload_n S.1 S.2.1 dX3_twice_87 rfl (lv_at hl 0 rfl) ?_
        refine lv_aload_n S.1 S.2.1 dX3_twice_88 rfl (lv_at hl 0 rfl) ?_
        refine z_get (ci := 3) (C := RX3) (T := TX3) (N := 5) S w 0 rfl rfl in_X3_twice_X3 1 (by decide) ln_X3_twice_23 rfl rfl dX3_twice_89 ?_
        refine z_iconst S dX3_twice_92 ?_
        refine z_iadd S dX3_twice_93 ?_
        refine z_put (ci := 3) (C := RX3) (T := TX3) (N := 5) S w 0 rfl rfl in_X3_twice_X3 tyX3_ok nmX3 1 (by decide) ln_X3_twice_23 rfl rfl rfl rfl (Nat.le_of_ble_eq_true rfl) dX3_twice_94 (fun H locs w => ?_)
        have w : zW D _ _ s [(h, .inr (3, [.ref hb, .int (zI (n + 1)), .int (zI P), .ref ht, .int (zI len)])), (hb, .inl (cB, 1200, .inl (zA (zu r2 (0 : Int).toNat cr)))), (ht, .inl (cT, 420, .inl (zA tx)))] H locs := w
        refine lv_aload_n S.1 S.2.1 dX3_twice_97 rfl (lv_at hl 0 rfl) ?_
        refine lv_aload_n S.1 S.2.1 dX3_twice_98 rfl (lv_at hl 0 rfl) ?_
        refine z_get (ci := 3) (C := RX3) (T := TX3) (N := 5) S w 0 rfl rfl in_X3_twice_X3 2 (by decide) ln_X3_twice_31 rfl rfl dX3_twice_99 ?_
        refine z_iconst S dX3_twice_102 ?_
        refine z_iadd S dX3_twice_103 ?_
        refine z_put (ci := 3) (C := RX3) (T := TX3) (N := 5) S w 0 rfl rfl in_X3_twice_X3 tyX3_ok nmX3 2 (by decide) ln_X3_twice_31 rfl rfl rfl rfl (Nat.le_of_ble_eq_true rfl) dX3_twice_104 (fun H locs w => ?_)
        have w : zW D _ _ s [(h, .inr (3, [.ref hb, .int (zI (n + 1)), .int (zI (P + 1)), .ref ht, .int (zI len)])), (hb, .inl (cB, 1200, .inl (zA (zu r2 (0 : Int).toNat cr)))), (ht, .inl (cT, 420, .inl (zA tx)))] H locs := w
        refine lv_aload_n S.1 S.2.1 dX3_twice_107 rfl (lv_at hl 0 rfl) ?_
        have k1_ : mPre (zu r2 (0 : Int).toNat cr) (n + 1) (P + 1) (2 * X) := by
          obtain ⟨⟨f1, f2, f3, f4⟩, f5, f6⟩ := id hp
          first
            | (refine ⟨fun j q => ?_, by omega, by omega, ?_⟩
               · by_cases q1 : j = 0
                 · rw [q1, hcr]; show 0 ≤ zu r2 0 1 0 ∧ zu r2 0 1 0 ≤ 9; rw [zu_s]; omega
                 · rw [zu_n _ _ (by show j ≠ 0; exact q1)]
                   obtain ⟨i, rfl⟩ : ∃ i, j = i + 1 := ⟨j - 1, by omega⟩
                   rw [e2 i (by omega) (by omega)]; exact d1 i (by omega)
               · have q1 : (n + 1).toNat = n.toNat + 1 := by omega
                 have q2 : (1200 + (P + 1) - (n + 1)).toNat = (1200 + P - n).toNat := by omega
                 rw [q1, q2, hv_cons (r := r1) (fun j q => by rw [zu_n _ _ (by show j + 1 ≠ 0; omega)]; exact e2 j (by omega) (by omega)), f4, hcr]
                 show 2 * (hv r n.toNat * _) = ((zu r2 0 1 0).toNat * _ + _) * _
                 rw [zu_s, ← Nat.mul_assoc, ← ev]
                 show _ = ((1 : Nat) * _ + _) * _
                 rw [Nat.one_mul, Nat.add_comm])
            | (refine ⟨dd, f2, f3, ?_⟩
               have c0 : cr.toNat = 0 := by omega
               rw [c0, Nat.zero_mul, Nat.add_zero] at hv1
               rw [hv1, f4, Nat.mul_assoc])
        refine z_callvV (C := RX3) (n := 0) (As := []) (rest := []) (wr := []) (wn := (fun (u : (Nat → Int) × Int × Int) => [(h, .inr (3, [.ref hb, .int (zI u.2.1), .int (zI u.2.2), .ref ht, .int (zI len)])), (hb, .inl (cB, 1200, .inl (zA u.1))), (ht, .inl (cT, 420, .inl (zA tx)))])) S w (c_X3_trim l D cB cT h hb ht (zu r2 (0 : Int).toNat cr) (n + 1) (P + 1) tx len (2 * X) k1_ (by omega) (by omega)) gX3_twice_X3_trim (by decide +kernel) rfl ⟨rfl, rfl⟩ ⟨Nat.le_of_ble_eq_true rfl, Nat.le_of_ble_eq_true rfl⟩ [0, 1] [0, 1, 2] [] [0, 1, 2] rfl rfl rfl rfl rfl (by decide) (fun u => rfl) rfl rfl rfl rfl rfl hl.1 (Nat.le_of_ble_eq_true rfl) ⟨Nat.le_of_ble_eq_true rfl, Nat.le_of_ble_eq_true rfl⟩ rfl dX3_twice_108 (fun u H locs p108 w => ?_)
        obtain ⟨r108, n108, P108⟩ := u
        have p108 : mRep r108 n108 P108 (2 * X) ∧ n108 ≤ (n + 1) ∧ (n108 - P108 ≤ (n + 1) - (P + 1) ∨ n108 - P108 = 0) ∧ (P108 ≤ (P + 1) ∨ P108 = 0) := p108
        have w : zW D _ _ s [(h, .inr (3, [.ref hb, .int (zI n108), .int (zI P108), .ref ht, .int (zI len)])), (hb, .inl (cB, 1200, .inl (zA r108))), (ht, .inl (cT, 420, .inl (zA tx)))] H locs := w
        exact z_vret S hr hlk w (r108, n108, P108) (by obtain ⟨a1, a2, a3, a4⟩ := p108; exact ⟨a1, by omega, by omega, by omega⟩) rfl dX3_twice_111
      · skip
        refine lv_aload_n S.1 S.2.1 dX3_twice_59 rfl (lv_at hl 0 rfl) ?_
        refine z_get (ci := 3) (C := RX3) (T := TX3) (N := 5) S w 0 rfl rfl in_X3_twice_X3 0 (by decide) ln_X3_twice_7 rfl rfl dX3_twice_60 ?_
        refine lv_iload_n S.1 S.2.1 dX3_twice_63 rfl (lv_at hl 2 rfl) ?_
        refine lv_aload_n S.1 S.2.1 dX3_twice_64 rfl (lv_at hl 0 rfl) ?_
        refine z_get (ci := 3) (C := RX3) (T := TX3) (N := 5) S w 0 rfl rfl in_X3_twice_X3 0 (by decide) ln_X3_twice_7 rfl rfl dX3_twice_65 ?_
        refine lv_iload_n S.1 S.2.1 dX3_twice_68 rfl (lv_at hl 2 rfl) ?_
        refine z_iconst S dX3_twice_69 ?_
        refine z_isub S dX3_twice_70 ?_
        refine z_bald S w 1 0 rfl rfl (by omega) (by decide) dX3_twice_71 ?_
        refine z_bast S w 1 0 rfl rfl (by omega) (by decide) (by rw [e1 _ (by omega)]; have := d1 (k - 1).toNat (by omega); omega) dX3_twice_72 (fun H locs w => ?_)
        have w : zW D _ _ s [(h, .inr (3, [.ref hb, .int (zI n), .int (zI P), .ref ht, .int (zI len)])), (hb, .inl (cB, 1200, .inl (zA (zu r2 k.toNat (r2 (k - 1).toNat))))), (ht, .inl (cT, 420, .inl (zA tx)))] H locs := w
        refine lv_iinc (v := zI (k + (-1))) (lv' := [(2, .int (zI (k + (-1)))), (0, .ref h), (1, .int (zI cr))]) S.1 S.2.1 dX3_twice_73 hl (k := 2) rfl (zI_add k (-1)) (by decide) rfl (fun ls hl => ?_)
        refine lv_goto (tgt := 55) S.1 S.2.1 dX3_twice_76 (by decide) ?_
        have k2_ : ∀ j : Nat, (k + (-1)) ≤ (j : Int) → (j : Int) < n → (zu r2 k.toNat (r2 (k - 1).toNat)) (j + 1) = r1 j := by
          intro j q1 q2
          by_cases q3 : (j : Int) = k - 1
          · have q4 : k.toNat = j + 1 := by omega
            have q5 : (k - 1).toNat = j := by omega
            rw [q4, zu_s, q5]; exact e1 j (by omega)
          · rw [zu_n _ _ (by omega)]; exact e2 j (by omega) q2
        exact ih r1 (zu r2 k.toNat (r2 (k - 1).toNat)) cr (k + (-1)) (by omega) (by omega) (by omega) d1 ev (fun j q => by rw [zu_n _ _ (by omega)]; exact e1 j (by omega)) k2_ _ _ _ w (lv_sub hl [1, 2, 0] rfl)
  have lab9 : ∀ (nf_ : Nat) (r1 : Nat → Int) (cr : Int) (k : Int), (k + 1).toNat < nf_ → (-1 ≤ k ∧ k ≤ n - 1) → (0 ≤ cr ∧ cr ≤ 1) → (∀ j : Nat, k < (j : Int) → (j : Int) < n → 0 ≤ r1 j ∧ r1 j ≤ 9) → (∀ j : Nat, (j : Int) ≤ k → r1 j = r j) → (tv r1 n.toNat (n - 1 - k).toNat + cr.toNat * 10 ^ (n - 1 - k).toNat = 2 * tv r n.toNat (n - 1 - k).toNat) → ∀ (H : Heap) (locs : List Loc) (ls : Array Slot), zW D [(cB, .byte), (cT, .int)] (va_A [(h, .inr (3, [.ref hb, .int (zI n), .int (zI P), .ref ht, .int (zI len)])), (hb, .inl (cB, 1200, .inl (zA r))), (ht, .inl (cT, 420, .inl (zA tx)))] s.heap.size) s [(h, .inr (3, [.ref hb, .int (zI n), .int (zI P), .ref ht, .int (zI len)])), (hb, .inl (cB, 1200, .inl (zA r1))), (ht, .inl (cT, 420, .inl (zA tx)))] H locs → lv_has ls 4 [(0, .ref h), (1, .int (zI cr)), (2, .int (zI k))] → W p l e ({ frames := 1, cells := 0, slots := 0, locals := 22 } : Room) s m ([.ref h] : List Value).toArray below meth c H locs 0 0 (MQ below (zQv D [(cB, .byte), (cT, .int)] [(h, .inr (3, [.ref hb, .int (zI n), .int (zI P), .ref ht, .int (zI len)])), (hb, .inl (cB, 1200, .inl (zA r))), (ht, .inl (cT, 420, .inl (zA tx)))] s.heap.size (fun (u : (Nat → Int) × Int × Int) => mRep u.1 u.2.1 u.2.2 (2 * X) ∧ u.2.1 ≤ n + 1 ∧ (u.2.1 - u.2.2 ≤ n - P ∨ u.2.1 - u.2.2 = 0) ∧ (u.2.2 ≤ P + 1 ∨ u.2.2 = 0)) (fun (u : (Nat → Int) × Int × Int) => [(h, .inr (3, [.ref hb, .int (zI u.2.1), .int (zI u.2.2), .ref ht, .int (zI len)])), (hb, .inl (cB, 1200, .inl (zA u.1))), (ht, .inl (cT, 420, .inl (zA tx)))])) ([.ref h] : List Value).toArray s 0 0 (va_A [(h, .inr (3, [.ref hb, .int (zI n), .int (zI P), .ref ht, .int (zI len)])), (hb, .inl (cB, 1200, .inl (zA r))), (ht, .inl (cT, 420, .inl (zA tx)))] s.heap.size)) (F0 m 9 ls []) := by
    intro nf_
    induction nf_ with
    | zero => intro r1 cr k hmeas_; exact absurd hmeas_ (Nat.not_lt_zero _)
    | succ nf_ ih =>
      intro r1 cr k hmeas_ hk hcr e1 e2 ev H locs ls w hl
      obtain ⟨⟨d1, d2, d3, d4⟩, d5, d6⟩ := id hp
      refine lv_iload_n S.1 S.2.1 dX3_twice_9 rfl (lv_at hl 2 rfl) ?_
      refine z_if_lt (tgt := 46) S dX3_twice_10 (by decide) (by omega) (fun h10 => ?_) (fun h10 => ?_)
      · skip
        have ek : k = -1 := by omega
        have em : (n - 1 - k).toNat = n.toNat := by omega
        have hv1 : hv r1 n.toNat + cr.toNat * 10 ^ n.toNat = 2 * hv r n.toNat := by
          have q1 := tv_hv r1 n.toNat n.toNat (Nat.le_refl _)
          have q2 := tv_hv r n.toNat n.toNat (Nat.le_refl _)
          rw [Nat.sub_self, hv, Nat.zero_mul, Nat.zero_add] at q1 q2
          rw [em] at ev
          rw [q1, q2]; exact ev
        have dd : ∀ j : Nat, (j : Int) < n → 0 ≤ r1 j ∧ r1 j ≤ 9 := fun j q => e1 j (by omega) q
        refine lv_iload_n S.1 S.2.1 dX3_twice_46 rfl (lv_at hl 1 rfl) ?_
        refine z_if_le (tgt := 107) S dX3_twice_47 (by decide) (by omega) (fun h47 => ?_) (fun h47 => ?_)
        · skip
          refine lv_aload_n S.1 S.2.1 dX3_twice_107 rfl (lv_at hl 0 rfl) ?_
          have k3_ : mPre r1 n P (2 * X) := by
            obtain ⟨⟨f1, f2, f3, f4⟩, f5, f6⟩ := id hp
            first
              | (refine ⟨fun j q => ?_, by omega, by omega, ?_⟩
                 · by_cases q1 : j = 0
                   · rw [q1, hcr]; show 0 ≤ zu r2 0 1 0 ∧ zu r2 0 1 0 ≤ 9; rw [zu_s]; omega
                   · rw [zu_n _ _ (by show j ≠ 0; exact q1)]
                     obtain ⟨i, rfl⟩ : ∃ i, j = i + 1 := ⟨j - 1, by omega⟩
                     rw [e2 i (by omega) (by omega)]; exact d1 i (by omega)
                 · have q1 : (n + 1).toNat = n.toNat + 1 := by omega
                   have q2 : (1200 + (P + 1) - (n + 1)).toNat = (1200 + P - n).toNat := by omega
                   rw [q1, q2, hv_cons (r := r1) (fun j q => by rw [zu_n _ _ (by show j + 1 ≠ 0; omega)]; exact e2 j (by omega) (by omega)), f4, hcr]
                   show 2 * (hv r n.toNat * _) = ((zu r2 0 1 0).toNat * _ + _) * _
                   rw [zu_s, ← Nat.mul_assoc, ← ev]
                   show _ = ((1 : Nat) * _ + _) * _
                   rw [Nat.one_mul, Nat.add_comm])
              | (refine ⟨dd, f2, f3, ?_⟩
                 have c0 : cr.toNat = 0 := by omega
                 rw [c0, Nat.zero_mul, Nat.add_zero] at hv1
                 rw [hv1, f4, Nat.mul_assoc])
          refine z_callvV (C := RX3) (n := 0) (As := []) (rest := []) (wr := []) (wn := (fun (u : (Nat → Int) × Int × Int) => [(h, .inr (3, [.ref hb, .int (zI u.2.1), .int (zI u.2.2), .ref ht, .int (zI len)])), (hb, .inl (cB, 1200, .inl (zA u.1))), (ht, .inl (cT, 420, .inl (zA tx)))])) S w (c_X3_trim l D cB cT h hb ht r1 n P tx len (2 * X) k3_ (by omega) (by omega)) gX3_twice_X3_trim (by decide +kernel) rfl ⟨rfl, rfl⟩ ⟨Nat.le_of_ble_eq_true rfl, Nat.le_of_ble_eq_true rfl⟩ [0, 1] [0, 1, 2] [] [0, 1, 2] rfl rfl rfl rfl rfl (by decide) (fun u => rfl) rfl rfl rfl rfl rfl hl.1 (Nat.le_of_ble_eq_true rfl) ⟨Nat.le_of_ble_eq_true rfl, Nat.le_of_ble_eq_true rfl⟩ rfl dX3_twice_108 (fun u H locs p108 w => ?_)
          obtain ⟨r108, n108, P108⟩ := u
          have p108 : mRep r108 n108 P108 (2 * X) ∧ n108 ≤ n ∧ (n108 - P108 ≤ n - P ∨ n108 - P108 = 0) ∧ (P108 ≤ P ∨ P108 = 0) := p108
          have w : zW D _ _ s [(h, .inr (3, [.ref hb, .int (zI n108), .int (zI P108), .ref ht, .int (zI len)])), (hb, .inl (cB, 1200, .inl (zA r108))), (ht, .inl (cT, 420, .inl (zA tx)))] H locs := w
          exact z_vret S hr hlk w (r108, n108, P108) (by obtain ⟨a1, a2, a3, a4⟩ := p108; exact ⟨a1, by omega, by omega, by omega⟩) rfl dX3_twice_111
        · skip
          refine lv_aload_n S.1 S.2.1 dX3_twice_50 rfl (lv_at hl 0 rfl) ?_
          refine z_get (ci := 3) (C := RX3) (T := TX3) (N := 5) S w 0 rfl rfl in_X3_twice_X3 1 (by decide) ln_X3_twice_23 rfl rfl dX3_twice_51 ?_
          refine lv_istore_n (lv' := [(2, .int (zI n)), (0, .ref h), (1, .int (zI cr))]) S.1 S.2.1 dX3_twice_54 rfl hl (by decide) rfl (fun ls hl => ?_)
          have k4_ : hv r1 n.toNat + 10 ^ n.toNat = 2 * hv r n.toNat := by
            have q : cr.toNat = 1 := by omega
            rw [q, Nat.one_mul] at hv1; exact hv1
          exact lab55 _ r1 r1 cr n (Nat.lt_succ_self _) (by omega) (by omega) dd k4_ (fun j q => rfl) (fun j q1 q2 => by omega) _ _ _ w (lv_sub hl [1, 2, 0] rfl)
      · skip
        have x1 : r1 k.toNat = r k.toNat := e2 _ (by omega)
        have x2 := d1 k.toNat (by omega)
        rw [← x1] at x2
        refine z_iconst S dX3_twice_13 ?_
        refine lv_aload_n S.1 S.2.1 dX3_twice_14 rfl (lv_at hl 0 rfl) ?_
        refine z_get (ci := 3) (C := RX3) (T := TX3) (N := 5) S w 0 rfl rfl in_X3_twice_X3 0 (by decide) ln_X3_twice_7 rfl rfl dX3_twice_15 ?_
        refine lv_iload_n S.1 S.2.1 dX3_twice_18 rfl (lv_at hl 2 rfl) ?_
        refine z_bald S w 1 0 rfl rfl (by omega) (by decide) dX3_twice_19 ?_
        refine z_imul S dX3_twice_20 ?_
        refine lv_iload_n S.1 S.2.1 dX3_twice_21 rfl (lv_at hl 1 rfl) ?_
        refine z_iadd S dX3_twice_22 ?_
        refine lv_istore_n (lv' := [(3, .int (zI ((2 * (r1 k.toNat)) + cr))), (0, .ref h), (1, .int (zI cr)), (2, .int (zI k))]) S.1 S.2.1 dX3_twice_23 rfl hl (by decide) rfl (fun ls hl => ?_)
        refine lv_aload_n S.1 S.2.1 dX3_twice_24 rfl (lv_at hl 1 rfl) ?_
        refine z_get (ci := 3) (C := RX3) (T := TX3) (N := 5) S w 0 rfl rfl in_X3_twice_X3 0 (by decide) ln_X3_twice_7 rfl rfl dX3_twice_25 ?_
        refine lv_iload_n S.1 S.2.1 dX3_twice_28 rfl (lv_at hl 3 rfl) ?_
        refine lv_iload_n S.1 S.2.1 dX3_twice_29 rfl (lv_at hl 0 rfl) ?_
        refine z_bipush S dX3_twice_30 (by decide +kernel) ?_
        refine z_irem S dX3_twice_32 (by omega) (by omega) ?_
        refine z_i2b S dX3_twice_33 (by omega) ?_
        refine z_bast S w 1 0 rfl rfl (by omega) (by decide) (by omega) dX3_twice_34 (fun H locs w => ?_)
        have w : zW D _ _ s [(h, .inr (3, [.ref hb, .int (zI n), .int (zI P), .ref ht, .int (zI len)])), (hb, .inl (cB, 1200, .inl (zA (zu r1 k.toNat (((2 * (r1 k.toNat)) + cr) % 10))))), (ht, .inl (cT, 420, .inl (zA tx)))] H locs := w
        refine lv_iload_n S.1 S.2.1 dX3_twice_35 rfl (lv_at hl 0 rfl) ?_
        refine z_bipush S dX3_twice_36 (by decide +kernel) ?_
        refine z_idiv S dX3_twice_38 (by omega) (by omega) ?_
        refine lv_istore_n (lv' := [(1, .int (zI (((2 * (r1 k.toNat)) + cr) / 10))), (3, .int (zI ((2 * (r1 k.toNat)) + cr))), (0, .ref h), (2, .int (zI k))]) S.1 S.2.1 dX3_twice_39 rfl hl (by decide) rfl (fun ls hl => ?_)
        refine lv_iinc (v := zI (k + (-1))) (lv' := [(2, .int (zI (k + (-1)))), (1, .int (zI (((2 * (r1 k.toNat)) + cr) / 10))), (3, .int (zI ((2 * (r1 k.toNat)) + cr))), (0, .ref h)]) S.1 S.2.1 dX3_twice_40 hl (k := 3) rfl (zI_add k (-1)) (by decide) rfl (fun ls hl => ?_)
        refine lv_goto (tgt := 9) S.1 S.2.1 dX3_twice_43 (by decide) ?_
        have k5_ : ∀ j : Nat, (k + (-1)) < (j : Int) → (j : Int) < n → 0 ≤ (zu r1 k.toNat (((2 * (r1 k.toNat)) + cr) % 10)) j ∧ (zu r1 k.toNat (((2 * (r1 k.toNat)) + cr) % 10)) j ≤ 9 := by
          intro j q q3
          by_cases q1 : (j : Int) = k
          · have q2 : k.toNat = j := by omega
            rw [q2] at x2 ⊢
            rw [zu_s]; omega
          · rw [zu_n _ _ (by omega)]; exact e1 j (by omega) q3
        have k6_ : tv (zu r1 k.toNat (((2 * (r1 k.toNat)) + cr) % 10)) n.toNat (n - 1 - (k + (-1))).toNat + (((2 * (r1 k.toNat)) + cr) / 10).toNat * 10 ^ (n - 1 - (k + (-1))).toNat = 2 * tv r n.toNat (n - 1 - (k + (-1))).toNat := by
          have q1 : (n - 1 - (k + (-1))).toNat = (n - 1 - k).toNat + 1 := by omega
          have q2 : n.toNat - 1 - (n - 1 - k).toNat = k.toNat := by omega
          rw [q1, tv, tv, q2, zu_s, Nat.pow_succ, tv_congr (t := r1) (m := (n - 1 - k).toNat) (fun j k1 k2 => zu_n _ _ (by omega)) (by omega), ← x1]
          exact tw_step ev (by omega)
        exact ih (zu r1 k.toNat (((2 * (r1 k.toNat)) + cr) % 10)) (((2 * (r1 k.toNat)) + cr) / 10) (k + (-1)) (by omega) (by omega) (by omega) k5_ (fun j q => by rw [zu_n _ _ (by omega)]; exact e2 j (by omega)) k6_ _ _ _ w (lv_sub hl [3, 1, 0] rfl)
  have hl : lv_has ls 4 [(0, .ref h)] := hl
  have hpn0 := hp.1.2.1
  refine z_iconst S dX3_twice_0 ?_
  refine lv_istore_n (lv' := [(1, .int (zI 0)), (0, .ref h)]) S.1 S.2.1 dX3_twice_1 rfl hl (by decide) rfl (fun ls hl => ?_)
  refine lv_aload_n S.1 S.2.1 dX3_twice_2 rfl (lv_at hl 1 rfl) ?_
  refine z_get (ci := 3) (C := RX3) (T := TX3) (N := 5) S w 0 rfl rfl in_X3_twice_X3 1 (by decide) ln_X3_twice_23 rfl rfl dX3_twice_3 ?_
  refine z_iconst S dX3_twice_6 ?_
  refine z_isub S dX3_twice_7 ?_
  refine lv_istore_n (lv' := [(2, .int (zI (n - 1))), (1, .int (zI 0)), (0, .ref h)]) S.1 S.2.1 dX3_twice_8 rfl hl (by decide) rfl (fun ls hl => ?_)
  have k7_ : tv r n.toNat (n - 1 - (n - 1)).toNat + (0 : Int).toNat * 10 ^ (n - 1 - (n - 1)).toNat = 2 * tv r n.toNat (n - 1 - (n - 1)).toNat := by
    have q : (n - 1 - (n - 1)).toNat = 0 := by omega
    rw [q]; rfl
  exact lab9 _ r 0 (n - 1) (Nat.lt_succ_self _) (by omega) (by omega) (fun j q1 q2 => by omega) (fun j q => rfl) k7_ _ _ _ w (lv_sub hl [2, 1, 0] rfl)
end
section
/-! the reference's cut -/
theorem hv_nines {r : Nat → Int} : ∀ {t : Nat}, (∀ j, j < t → r j = 9) → hv r t + 1 = 10 ^ t
  | 0, _ => rfl
  | t + 1, h => by
    have h1 := hv_nines (r := r) (t := t) (fun j q => h j (by omega))
    have h2 : (r t).toNat = 9 := by rw [h t (by omega)]; rfl
    rw [hv, h2, Nat.pow_succ]; omega
theorem hv_inc {r t : Nat → Int} {k m : Nat} (hk : k < m) (h0 : ∀ j, j < k → t j = r j) (h1 : t k = r k + 1) (hr : 0 ≤ r k) (h2 : ∀ j, k < j → j < m → r j = 9 ∧ t j = 0) : hv t m = hv r m + 1 := by
  obtain ⟨s, rfl⟩ : ∃ s, m = (k + 1) + s := ⟨m - (k + 1), by omega⟩
  rw [hv_add t (k + 1) s, hv_add r (k + 1) s, hv, hv, hv_congr h0, h1, hv_zero (fun j q => (h2 (k + 1 + j) (by omega) (by omega)).2)]
  have e := hv_nines (r := fun j => r (k + 1 + j)) (t := s) (fun j q => (h2 (k + 1 + j) (by omega) (by omega)).1)
  have e2 : (r k + 1).toNat = (r k).toNat + 1 := by omega
  rw [e2, ← Nat.add_assoc, Nat.add_mul, Nat.one_mul]
  omega
theorem cut_rq {r : Nat → Int} {n P c : Int} {X : Nat} (h : mRep r n P X) (hc : 0 ≤ c ∧ c < n) : rq X (10 ^ (1200 + P - c).toNat) = if (5 < r c.toNat ∨ (r c.toNat = 5 ∧ ((0 < c ∧ r (c - 1).toNat % 2 = 1) ∨ c + 1 < n))) then hv r c.toNat + 1 else hv r c.toNat := by
  have hd := @mRep_dg r n P X h
  obtain ⟨⟨h1, h2, h3, h4⟩, h5, h6⟩ := h
  obtain ⟨m, hm⟩ : ∃ m : Nat, (1200 + P - c).toNat = m + 1 := ⟨(1200 + P - c).toNat - 1, by omega⟩
  have g4 : X / 10 ^ (m + 1) = hv r c.toNat := by
    have e1 : m + 1 = (1200 + P - n).toNat + (n - c).toNat := by omega
    have e2 : n.toNat = c.toNat + (n - c).toNat := by omega
    rw [h4, e1, Nat.pow_add, ← Nat.div_div_eq_div_mul, Nat.mul_div_cancel _ (p10_pos _), e2]
    exact hv_div (fun j q1 q2 => h1 j (by omega))
  have g1 : (dg X m : Int) = r c.toNat := by
    have k1 := @hd c (by omega)
    unfold mD gX at k1
    rw [if_pos hc] at k1
    have e : (P - 1 - c + 1200).toNat = m := by omega
    rw [e] at k1; exact k1.symm
  have g2 : (dg X (m + 1) : Int) = mD r n (c - 1) := by
    have k1 := @hd (c - 1) (by omega)
    rw [k1]
    unfold gX
    have e : (P - 1 - (c - 1) + 1200).toNat = m + 1 := by omega
    rw [e]
  have g3 : (∃ j, j < m ∧ dg X j ≠ 0) ↔ c + 1 < n := by
    constructor
    · rintro ⟨j, k1, k2⟩
      apply Int.not_le.mp
      intro k3
      apply k2
      rw [h4]; exact dg_mul_lt _ (by omega)
    · intro k
      refine ⟨(1200 + P - n).toNat, by omega, ?_⟩
      have k1 := @hd (n - 1) (by omega)
      unfold mD gX at k1
      rw [if_pos (by omega)] at k1
      have e : (P - 1 - (n - 1) + 1200).toNat = (1200 + P - n).toNat := by omega
      rw [e] at k1
      have := (h6 (by omega)).2
      omega
  have g5 : dg X (m + 1) % 2 = 1 ↔ (0 < c ∧ r (c - 1).toNat % 2 = 1) := by
    unfold mD at g2
    by_cases k : 0 < c
    · rw [if_pos (by omega)] at g2
      constructor
      · intro q; exact ⟨k, by omega⟩
      · rintro ⟨-, q⟩; omega
    · rw [if_neg (by omega)] at g2
      constructor
      · intro q; omega
      · rintro ⟨q, -⟩; omega
  rw [hm, rq_up, g4]
  by_cases k : (5 < r c.toNat ∨ (r c.toNat = 5 ∧ ((0 < c ∧ r (c - 1).toNat % 2 = 1) ∨ c + 1 < n)))
  · rw [if_pos k, if_pos]
    rcases k with k | ⟨k1, k2⟩
    · exact Or.inl (by clear g3; omega)
    · refine Or.inr ⟨by clear g3; omega, ?_⟩
      rcases k2 with k2 | k2
      · exact Or.inr (g5.mpr k2)
      · exact Or.inl (g3.mpr k2)
  · rw [if_neg k, if_neg]
    rintro (q | ⟨q1, q2⟩)
    · exact k (Or.inl (by clear g3; omega))
    · refine k (Or.inr ⟨by clear g3 q2; omega, ?_⟩)
      rcases q2 with q2 | q2
      · exact Or.inr (g3.mp q2)
      · exact Or.inl (g5.mp q2)
theorem cut_id {r : Nat → Int} {n P c : Int} {X : Nat} (h : mRep r n P X) (hc : n ≤ c) (h0 : 0 ≤ 1200 + P - c) : rX X (1200 + P - c).toNat = X := by
  obtain ⟨⟨h1, h2, h3, h4⟩, h5, h6⟩ := h
  have k := rX_scale (N := hv r n.toNat) (X := X) (a := (1200 + P - n).toNat) (c' := (1200 + P - c).toNat) (ci := n - c) h4.symm (by omega)
  have e : (n - c).toNat = 0 := by omega
  rw [k, e, rX_0, ← h4]
theorem cut_neg {r : Nat → Int} {n P c : Int} {X : Nat} (h : mRep r n P X) (hc : c < 0) : rX X (1200 + P - c).toNat = 0 := by
  have hl := mRep_ln h
  obtain ⟨⟨h1, h2, h3, h4⟩, h5, h6⟩ := h
  rcases Nat.eq_zero_or_pos X with q | q
  · rw [q, rX_z]
  · have k1 := hl q
    have k2 := ln_lt X
    have e : (1200 + P - c).toNat = ln X + ((-c).toNat - 1) + 1 := by omega
    have k3 : 10 ^ ln X ≤ 10 ^ (ln X + ((-c).toNat - 1)) := Nat.pow_le_pow_right (by decide) (by omega)
    unfold rX rq
    rw [e, Nat.pow_succ]
    generalize 10 ^ (ln X + ((-c).toNat - 1)) = b at k3
    have k4 : X < b * 10 := by omega
    rw [Nat.mod_eq_of_lt k4, Nat.div_eq_of_lt k4, if_neg (by omega), Nat.zero_mul]
theorem cut_pre0 {r : Nat → Int} {n P c : Int} {X : Nat} (h : mRep r n P X) (hc : 0 ≤ c ∧ c < n) (hu : ¬ (5 < r c.toNat ∨ (r c.toNat = 5 ∧ ((0 < c ∧ r (c - 1).toNat % 2 = 1) ∨ c + 1 < n)))) : mPre r c P (rX X (1200 + P - c).toNat) := by
  have k := cut_rq h hc
  rw [if_neg hu] at k
  obtain ⟨⟨h1, h2, h3, h4⟩, h5, h6⟩ := h
  refine ⟨fun j q => h1 j (by omega), hc.1, by omega, ?_⟩
  unfold rX; rw [k]
theorem cut_pre1 {r t : Nat → Int} {n P c k : Int} {X : Nat} (h : mRep r n P X) (hc : 0 ≤ c ∧ c < n) (hu : (5 < r c.toNat ∨ (r c.toNat = 5 ∧ ((0 < c ∧ r (c - 1).toNat % 2 = 1) ∨ c + 1 < n)))) (hk : 0 ≤ k ∧ k < c) (h0 : ∀ j : Nat, (j : Int) < k → t j = r j) (h1 : t k.toNat = r k.toNat + 1) (h9 : r k.toNat ≠ 9) (h2 : ∀ j : Nat, k < (j : Int) → (j : Int) < c → r j = 9 ∧ t j = 0) : mPre t c P (rX X (1200 + P - c).toNat) := by
  have q := cut_rq h hc
  rw [if_pos hu] at q
  obtain ⟨⟨d1, d2, d3, d4⟩, d5, d6⟩ := h
  have dk := d1 k.toNat (by omega)
  refine ⟨fun j q => ?_, hc.1, by omega, ?_⟩
  · rcases Int.lt_trichotomy (j : Int) k with k1 | k1 | k1
    · rw [h0 j k1]; exact d1 j (by omega)
    · have e : k.toNat = j := by omega
      rw [e] at h1 h9 dk
      rw [h1]; omega
    · rw [(h2 j k1 q).2]; omega
  · unfold rX
    rw [q, hv_inc (t := t) (k := k.toNat) (by omega) (fun j q => h0 j (by omega)) h1 dk.1 (fun j q1 q2 => h2 j (by omega) (by omega))]
theorem cut_pre2 {r t : Nat → Int} {n P c : Int} {X : Nat} (h : mRep r n P X) (hc : 0 ≤ c ∧ c < n) (hu : (5 < r c.toNat ∨ (r c.toNat = 5 ∧ ((0 < c ∧ r (c - 1).toNat % 2 = 1) ∨ c + 1 < n)))) (h9 : ∀ j : Nat, (j : Int) < c → r j = 9) (h0 : t 0 = 1) (h1 : ∀ j : Nat, 0 < (j : Int) → (j : Int) ≤ c → t j = 0) : mPre t (c + 1) (P + 1) (rX X (1200 + P - c).toNat) := by
  have q := cut_rq h hc
  rw [if_pos hu] at q
  obtain ⟨⟨d1, d2, d3, d4⟩, d5, d6⟩ := h
  refine ⟨fun j q => ?_, by omega, by omega, ?_⟩
  · by_cases k : j = 0
    · rw [k, h0]; omega
    · rw [h1 j (by omega) (by omega)]; omega
  · have e1 : (c + 1).toNat = c.toNat + 1 := by omega
    have e2 : (1200 + (P + 1) - (c + 1)).toNat = (1200 + P - c).toNat := by omega
    have e3 := hv_nines (r := r) (t := c.toNat) (fun j q => h9 j (by omega))
    unfold rX
    rw [q, e1, e2, e3, hv_cons (r := fun _ => 0) (fun j q => h1 (j + 1) (by omega) (by omega)), h0, hv_zero (fun j q => rfl)]
    show _ = (1 * _ + 0) * _
    rw [Nat.one_mul, Nat.add_zero]
end
section
set_option maxRecDepth 20000 in
theorem ln_X3_cut_7 : Cond.fieldLink RX3 7 "DecimalTextModel" "row" "[B" ∈ wsX3_cut := by decide +kernel
theorem in_X3_cut_X3 : ∀ w ∈ u_ws RX3 TX3 5, w ∈ wsX3_cut := by decide +kernel
set_option maxRecDepth 20000 in
theorem ln_X3_cut_23 : Cond.fieldLink RX3 23 "DecimalTextModel" "digits" "I" ∈ wsX3_cut := by decide +kernel
set_option maxRecDepth 20000 in
theorem ln_X3_cut_31 : Cond.fieldLink RX3 31 "DecimalTextModel" "point" "I" ∈ wsX3_cut := by decide +kernel
set_option maxHeartbeats 4000000 in
set_option maxRecDepth 100000 in
theorem c_X3_cut (l : Launch) (D : va_G) (cB cT : ClassId) (h : Nat) (hb : Nat) (ht : Nat) (r : Nat → Int) (n : Int) (P : Int) (tx : Nat → Int) (len : Int) (nn : Int) (X : Nat) (hp : mRep r n P X) (hn : n ≤ 1190) (hP : -2000 ≤ P ∧ P ≤ 2000) (hnn : -3000 ≤ nn ∧ nn ≤ 3000) (hc : 0 ≤ 1200 + P - nn) : zMv (T := (Nat → Int) × Int × Int) l yX3_cut wsX3_cut ({ frames := 1, cells := 0, slots := 0, locals := 22 } : Room) D [(cB, .byte), (cT, .int)] [.ref h, .int (zI nn)] [(h, .inr (3, [.ref hb, .int (zI n), .int (zI P), .ref ht, .int (zI len)])), (hb, .inl (cB, 1200, .inl (zA r))), (ht, .inl (cT, 420, .inl (zA tx)))] (fun (u : (Nat → Int) × Int × Int) => mRep u.1 u.2.1 u.2.2 (rX X (1200 + P - nn).toNat) ∧ u.2.1 ≤ n ∧ (u.2.2 ≤ P + 1 ∨ u.2.2 = 0)) (fun (u : (Nat → Int) × Int × Int) => [(h, .inr (3, [.ref hb, .int (zI u.2.1), .int (zI u.2.2), .ref ht, .int (zI len)])), (hb, .inl (cB, 1200, .inl (zA u.1))), (ht, .inl (cT, 420, .inl (zA tx)))]) 0 0 := by
  refine zMv.of (bytes := cX3_cut) (nL := 6) (own := RX3) (by decide) rfl rfl (Nat.le_of_ble_eq_true rfl) ?_
  intro p e s m below meth c ls S hr hlk hnm w hl
  have lab175 : ∀ (nf_ : Nat) (r2 : Nat → Int) (i : Int), (i).toNat < nf_ → (0 ≤ i ∧ i ≤ nn) → (0 ≤ nn ∧ nn < n) → ((5 < r nn.toNat ∨ (r nn.toNat = 5 ∧ ((0 < nn ∧ r (nn - 1).toNat % 2 = 1) ∨ nn + 1 < n)))) → (∀ j : Nat, (j : Int) < nn → r j = 9) → (∀ j : Nat, (j : Int) < i → r2 j = 0) → (∀ j : Nat, i < (j : Int) → (j : Int) ≤ nn → r2 j = 0) → ∀ (H : Heap) (locs : List Loc) (ls : Array Slot), zW D [(cB, .byte), (cT, .int)] (va_A [(h, .inr (3, [.ref hb, .int (zI n), .int (zI P), .ref ht, .int (zI len)])), (hb, .inl (cB, 1200, .inl (zA r))), (ht, .inl (cT, 420, .inl (zA tx)))] s.heap.size) s [(h, .inr (3, [.ref hb, .int (zI nn), .int (zI P), .ref ht, .int (zI len)])), (hb, .inl (cB, 1200, .inl (zA r2))), (ht, .inl (cT, 420, .inl (zA tx)))] H locs → lv_has ls 6 [(0, .ref h), (1, .int (zI nn)), (3, .int (zI P)), (5, .int (zI i))] → W p l e ({ frames := 1, cells := 0, slots := 0, locals := 22 } : Room) s m ([.ref h, .int (zI nn)] : List Value).toArray below meth c H locs 0 0 (MQ below (zQv D [(cB, .byte), (cT, .int)] [(h, .inr (3, [.ref hb, .int (zI n), .int (zI P), .ref ht, .int (zI len)])), (hb, .inl (cB, 1200, .inl (zA r))), (ht, .inl (cT, 420, .inl (zA tx)))] s.heap.size (fun (u : (Nat → Int) × Int × Int) => mRep u.1 u.2.1 u.2.2 (rX X (1200 + P - nn).toNat) ∧ u.2.1 ≤ n ∧ (u.2.2 ≤ P + 1 ∨ u.2.2 = 0)) (fun (u : (Nat → Int) × Int × Int) => [(h, .inr (3, [.ref hb, .int (zI u.2.1), .int (zI u.2.2), .ref ht, .int (zI len)])), (hb, .inl (cB, 1200, .inl (zA u.1))), (ht, .inl (cT, 420, .inl (zA tx)))])) ([.ref h, .int (zI nn)] : List Value).toArray s 0 0 (va_A [(h, .inr (3, [.ref hb, .int (zI n), .int (zI P), .ref ht, .int (zI len)])), (hb, .inl (cB, 1200, .inl (zA r))), (ht, .inl (cT, 420, .inl (zA tx)))] s.heap.size)) (F0 m 175 ls []) := by
    intro nf_
    induction nf_ with
    | zero => intro r2 i hmeas_; exact absurd hmeas_ (Nat.not_lt_zero _)
    | succ nf_ ih =>
      intro r2 i hmeas_ hi hnc hu h9 e1 e2 H locs ls w hl
      refine lv_iload S.1 S.2.1 dX3_cut_175 (lv_at hl 3 rfl) ?_
      refine z_if_le (tgt := 202) S dX3_cut_177 (by decide) (by omega) (fun h177 => ?_) (fun h177 => ?_)
      · skip
        refine lv_aload_n S.1 S.2.1 dX3_cut_202 rfl (lv_at hl 0 rfl) ?_
        refine z_get (ci := 3) (C := RX3) (T := TX3) (N := 5) S w 0 rfl rfl in_X3_cut_X3 0 (by decide) ln_X3_cut_7 rfl rfl dX3_cut_203 ?_
        refine z_iconst S dX3_cut_206 ?_
        refine z_iconst S dX3_cut_207 ?_
        refine z_bast S w 1 0 rfl rfl (by omega) (by decide) (by omega) dX3_cut_208 (fun H locs w => ?_)
        have w : zW D _ _ s [(h, .inr (3, [.ref hb, .int (zI nn), .int (zI P), .ref ht, .int (zI len)])), (hb, .inl (cB, 1200, .inl (zA (zu r2 (0 : Int).toNat 1)))), (ht, .inl (cT, 420, .inl (zA tx)))] H locs := w
        refine lv_aload_n S.1 S.2.1 dX3_cut_209 rfl (lv_at hl 0 rfl) ?_
        refine lv_iload_n S.1 S.2.1 dX3_cut_210 rfl (lv_at hl 1 rfl) ?_
        refine z_iconst S dX3_cut_211 ?_
        refine z_iadd S dX3_cut_212 ?_
        refine z_put (ci := 3) (C := RX3) (T := TX3) (N := 5) S w 0 rfl rfl in_X3_cut_X3 tyX3_ok nmX3 1 (by decide) ln_X3_cut_23 rfl rfl rfl rfl (Nat.le_of_ble_eq_true rfl) dX3_cut_213 (fun H locs w => ?_)
        have w : zW D _ _ s [(h, .inr (3, [.ref hb, .int (zI (nn + 1)), .int (zI P), .ref ht, .int (zI len)])), (hb, .inl (cB, 1200, .inl (zA (zu r2 (0 : Int).toNat 1)))), (ht, .inl (cT, 420, .inl (zA tx)))] H locs := w
        refine lv_aload_n S.1 S.2.1 dX3_cut_216 rfl (lv_at hl 0 rfl) ?_
        refine lv_iload_n S.1 S.2.1 dX3_cut_217 rfl (lv_at hl 2 rfl) ?_
        refine z_iconst S dX3_cut_218 ?_
        refine z_iadd S dX3_cut_219 ?_
        refine z_put (ci := 3) (C := RX3) (T := TX3) (N := 5) S w 0 rfl rfl in_X3_cut_X3 tyX3_ok nmX3 2 (by decide) ln_X3_cut_31 rfl rfl rfl rfl (Nat.le_of_ble_eq_true rfl) dX3_cut_220 (fun H locs w => ?_)
        have w : zW D _ _ s [(h, .inr (3, [.ref hb, .int (zI (nn + 1)), .int (zI (P + 1)), .ref ht, .int (zI len)])), (hb, .inl (cB, 1200, .inl (zA (zu r2 (0 : Int).toNat 1)))), (ht, .inl (cT, 420, .inl (zA tx)))] H locs := w
        refine lv_aload_n S.1 S.2.1 dX3_cut_223 rfl (lv_at hl 0 rfl) ?_
        have k1_ : mPre (zu r2 (0 : Int).toNat 1) (nn + 1) (P + 1) (rX X (1200 + P - nn).toNat) := by
          first
            | (exfalso; omega)
            | exact cut_pre2 hp hnc hu h9 (zu_s _ _ _) (fun j q1 q2 => by rw [zu_n _ _ (by omega)]; exact e2 j (by omega) q2)
            | exact cut_pre1 hp hnc hu (k := k) (by omega) (fun j q => by rw [zu_n _ _ (by omega)]; exact e2 j (by omega)) (by rw [zu_s, e2 _ (by omega)]) (by rw [← e2 _ (by omega)]; exact h127) (fun j q1 q2 => by rw [zu_n _ _ (by omega)]; exact e1 j q1 q2)
            | exact cut_pre0 hp hnc (by rcases hup with q | q
                                        · omega
                                        · exact q.2)
        refine z_callvV (C := RX3) (n := 0) (As := []) (rest := []) (wr := []) (wn := (fun (u : (Nat → Int) × Int × Int) => [(h, .inr (3, [.ref hb, .int (zI u.2.1), .int (zI u.2.2), .ref ht, .int (zI len)])), (hb, .inl (cB, 1200, .inl (zA u.1))), (ht, .inl (cT, 420, .inl (zA tx)))])) S w (c_X3_trim l D cB cT h hb ht (zu r2 (0 : Int).toNat 1) (nn + 1) (P + 1) tx len (rX X (1200 + P - nn).toNat) k1_ (by omega) (by omega)) gX3_cut_X3_trim (by decide +kernel) rfl ⟨rfl, rfl⟩ ⟨Nat.le_of_ble_eq_true rfl, Nat.le_of_ble_eq_true rfl⟩ [0, 1] [0, 1, 2] [] [0, 1, 2] rfl rfl rfl rfl rfl (by decide) (fun u => rfl) rfl rfl rfl rfl rfl hl.1 (Nat.le_of_ble_eq_true rfl) ⟨Nat.le_of_ble_eq_true rfl, Nat.le_of_ble_eq_true rfl⟩ rfl dX3_cut_224 (fun u H locs p224 w => ?_)
        obtain ⟨r224, n224, P224⟩ := u
        have p224 : mRep r224 n224 P224 (rX X (1200 + P - nn).toNat) ∧ n224 ≤ (nn + 1) ∧ (n224 - P224 ≤ (nn + 1) - (P + 1) ∨ n224 - P224 = 0) ∧ (P224 ≤ (P + 1) ∨ P224 = 0) := p224
        have w : zW D _ _ s [(h, .inr (3, [.ref hb, .int (zI n224), .int (zI P224), .ref ht, .int (zI len)])), (hb, .inl (cB, 1200, .inl (zA r224))), (ht, .inl (cT, 420, .inl (zA tx)))] H locs := w
        have k2_ : mRep r224 n224 P224 (rX X (1200 + P - nn).toNat) ∧ n224 ≤ n ∧ (P224 ≤ P + 1 ∨ P224 = 0) := by
          obtain ⟨a1, a2, a3, a4⟩ := p224; exact ⟨a1, by omega, by omega⟩
        exact z_vret S hr hlk w (r224, n224, P224) k2_ rfl dX3_cut_227
      · skip
        refine lv_aload_n S.1 S.2.1 dX3_cut_180 rfl (lv_at hl 0 rfl) ?_
        refine z_get (ci := 3) (C := RX3) (T := TX3) (N := 5) S w 0 rfl rfl in_X3_cut_X3 0 (by decide) ln_X3_cut_7 rfl rfl dX3_cut_181 ?_
        refine lv_iload S.1 S.2.1 dX3_cut_184 (lv_at hl 3 rfl) ?_
        refine lv_aload_n S.1 S.2.1 dX3_cut_186 rfl (lv_at hl 0 rfl) ?_
        refine z_get (ci := 3) (C := RX3) (T := TX3) (N := 5) S w 0 rfl rfl in_X3_cut_X3 0 (by decide) ln_X3_cut_7 rfl rfl dX3_cut_187 ?_
        refine lv_iload S.1 S.2.1 dX3_cut_190 (lv_at hl 3 rfl) ?_
        refine z_iconst S dX3_cut_192 ?_
        refine z_isub S dX3_cut_193 ?_
        refine z_bald S w 1 0 rfl rfl (by omega) (by decide) dX3_cut_194 ?_
        refine z_bast S w 1 0 rfl rfl (by omega) (by decide) (by rw [e1 _ (by omega)]; omega) dX3_cut_195 (fun H locs w => ?_)
        have w : zW D _ _ s [(h, .inr (3, [.ref hb, .int (zI nn), .int (zI P), .ref ht, .int (zI len)])), (hb, .inl (cB, 1200, .inl (zA (zu r2 i.toNat (r2 (i - 1).toNat))))), (ht, .inl (cT, 420, .inl (zA tx)))] H locs := w
        refine lv_iinc (v := zI (i + (-1))) (lv' := [(5, .int (zI (i + (-1)))), (0, .ref h), (1, .int (zI nn)), (3, .int (zI P))]) S.1 S.2.1 dX3_cut_196 hl (k := 3) rfl (zI_add i (-1)) (by decide) rfl (fun ls hl => ?_)
        refine lv_goto (tgt := 175) S.1 S.2.1 dX3_cut_199 (by decide) ?_
        have k3_ : ∀ j : Nat, (i + (-1)) < (j : Int) → (j : Int) ≤ nn → (zu r2 i.toNat (r2 (i - 1).toNat)) j = 0 := by
          intro j q1 q2
          by_cases q3 : (j : Int) = i
          · have q4 : i.toNat = j := by omega
            rw [q4, zu_s]; exact e1 _ (by omega)
          · rw [zu_n _ _ (by omega)]; exact e2 j (by omega) q2
        exact ih (zu r2 i.toNat (r2 (i - 1).toNat)) (i + (-1)) (by omega) (by omega) (by omega) hu h9 (fun j q => by rw [zu_n _ _ (by omega)]; exact e1 j (by omega)) k3_ _ _ _ w (lv_sub hl [1, 2, 3, 0] rfl)
  have lab113 : ∀ (nf_ : Nat) (r1 : Nat → Int) (k : Int), (k + 1).toNat < nf_ → (-1 ≤ k ∧ k ≤ nn - 1) → (0 ≤ nn ∧ nn < n) → ((5 < r nn.toNat ∨ (r nn.toNat = 5 ∧ ((0 < nn ∧ r (nn - 1).toNat % 2 = 1) ∨ nn + 1 < n)))) → (∀ j : Nat, k < (j : Int) → (j : Int) < nn → r j = 9 ∧ r1 j = 0) → (∀ j : Nat, (j : Int) ≤ k → r1 j = r j) → ∀ (H : Heap) (locs : List Loc) (ls : Array Slot), zW D [(cB, .byte), (cT, .int)] (va_A [(h, .inr (3, [.ref hb, .int (zI n), .int (zI P), .ref ht, .int (zI len)])), (hb, .inl (cB, 1200, .inl (zA r))), (ht, .inl (cT, 420, .inl (zA tx)))] s.heap.size) s [(h, .inr (3, [.ref hb, .int (zI nn), .int (zI P), .ref ht, .int (zI len)])), (hb, .inl (cB, 1200, .inl (zA r1))), (ht, .inl (cT, 420, .inl (zA tx)))] H locs → lv_has ls 6 [(0, .ref h), (1, .int (zI nn)), (3, .int (zI P)), (4, .int (zI k))] → W p l e ({ frames := 1, cells := 0, slots := 0, locals := 22 } : Room) s m ([.ref h, .int (zI nn)] : List Value).toArray below meth c H locs 0 0 (MQ below (zQv D [(cB, .byte), (cT, .int)] [(h, .inr (3, [.ref hb, .int (zI n), .int (zI P), .ref ht, .int (zI len)])), (hb, .inl (cB, 1200, .inl (zA r))), (ht, .inl (cT, 420, .inl (zA tx)))] s.heap.size (fun (u : (Nat → Int) × Int × Int) => mRep u.1 u.2.1 u.2.2 (rX X (1200 + P - nn).toNat) ∧ u.2.1 ≤ n ∧ (u.2.2 ≤ P + 1 ∨ u.2.2 = 0)) (fun (u : (Nat → Int) × Int × Int) => [(h, .inr (3, [.ref hb, .int (zI u.2.1), .int (zI u.2.2), .ref ht, .int (zI len)])), (hb, .inl (cB, 1200, .inl (zA u.1))), (ht, .inl (cT, 420, .inl (zA tx)))])) ([.ref h, .int (zI nn)] : List Value).toArray s 0 0 (va_A [(h, .inr (3, [.ref hb, .int (zI n), .int (zI P), .ref ht, .int (zI len)])), (hb, .inl (cB, 1200, .inl (zA r))), (ht, .inl (cT, 420, .inl (zA tx)))] s.heap.size)) (F0 m 113 ls []) := by
    intro nf_
    induction nf_ with
    | zero => intro r1 k hmeas_; exact absurd hmeas_ (Nat.not_lt_zero _)
    | succ nf_ ih =>
      intro r1 k hmeas_ hk hnc hu e1 e2 H locs ls w hl
      obtain ⟨⟨d1, d2, d3, d4⟩, d5, d6⟩ := id hp
      refine lv_iload S.1 S.2.1 dX3_cut_113 (lv_at hl 3 rfl) ?_
      refine z_if_lt (tgt := 147) S dX3_cut_115 (by decide) (by omega) (fun h115 => ?_) (fun h115 => ?_)
      · skip
        refine lv_iload S.1 S.2.1 dX3_cut_147 (lv_at hl 3 rfl) ?_
        refine z_if_lt (tgt := 172) S dX3_cut_149 (by decide) (by omega) (fun h149 => ?_) (fun h149 => ?_)
        · skip
          refine lv_iload_n S.1 S.2.1 dX3_cut_172 rfl (lv_at hl 1 rfl) ?_
          refine lv_istore (lv' := [(5, .int (zI nn)), (0, .ref h), (1, .int (zI nn)), (3, .int (zI P)), (4, .int (zI k))]) S.1 S.2.1 dX3_cut_173 hl (by decide) rfl (fun ls hl => ?_)
          exact lab175 _ r1 nn (Nat.lt_succ_self _) (by omega) (by omega) hu (fun j q => (e1 j (by omega) q).1) (fun j q => (e1 j (by omega) (by omega)).2) (fun j q1 q2 => by omega) _ _ _ w (lv_sub hl [1, 2, 3, 0] rfl)
        · skip
          refine lv_aload_n S.1 S.2.1 dX3_cut_152 rfl (lv_at hl 0 rfl) ?_
          refine z_get (ci := 3) (C := RX3) (T := TX3) (N := 5) S w 0 rfl rfl in_X3_cut_X3 0 (by decide) ln_X3_cut_7 rfl rfl dX3_cut_153 ?_
          refine lv_iload S.1 S.2.1 dX3_cut_156 (lv_at hl 3 rfl) ?_
          refine lv_aload_n S.1 S.2.1 dX3_cut_158 rfl (lv_at hl 0 rfl) ?_
          refine z_get (ci := 3) (C := RX3) (T := TX3) (N := 5) S w 0 rfl rfl in_X3_cut_X3 0 (by decide) ln_X3_cut_7 rfl rfl dX3_cut_159 ?_
          refine lv_iload S.1 S.2.1 dX3_cut_162 (lv_at hl 3 rfl) ?_
          refine z_bald S w 1 0 rfl rfl (by omega) (by decide) dX3_cut_164 ?_
          refine z_iconst S dX3_cut_165 ?_
          refine z_iadd S dX3_cut_166 ?_
          refine z_i2b S dX3_cut_167 (by rw [e2 _ (by omega)]; have := d1 k.toNat (by omega); omega) ?_
          refine z_bast S w 1 0 rfl rfl (by omega) (by decide) (by rw [e2 _ (by omega)]; have := d1 k.toNat (by omega); omega) dX3_cut_168 (fun H locs w => ?_)
          have w : zW D _ _ s [(h, .inr (3, [.ref hb, .int (zI nn), .int (zI P), .ref ht, .int (zI len)])), (hb, .inl (cB, 1200, .inl (zA (zu r1 k.toNat ((r1 k.toNat) + 1))))), (ht, .inl (cT, 420, .inl (zA tx)))] H locs := w
          refine lv_goto (tgt := 223) S.1 S.2.1 dX3_cut_169 (by decide) ?_
          refine lv_aload_n S.1 S.2.1 dX3_cut_223 rfl (lv_at hl 0 rfl) ?_
          have k4_ : mPre (zu r1 k.toNat ((r1 k.toNat) + 1)) nn P (rX X (1200 + P - nn).toNat) := by
            first
              | (exfalso; omega)
              | exact cut_pre2 hp hnc hu h9 (zu_s _ _ _) (fun j q1 q2 => by rw [zu_n _ _ (by omega)]; exact e2 j (by omega) q2)
              | exact cut_pre1 hp hnc hu (k := k) (by omega) (fun j q => by rw [zu_n _ _ (by omega)]; exact e2 j (by omega)) (by rw [zu_s, e2 _ (by omega)]) (by rw [← e2 _ (by omega)]; exact h127) (fun j q1 q2 => by rw [zu_n _ _ (by omega)]; exact e1 j q1 q2)
              | exact cut_pre0 hp hnc (by rcases hup with q | q
                                          · omega
                                          · exact q.2)
          refine z_callvV (C := RX3) (n := 0) (As := []) (rest := []) (wr := []) (wn := (fun (u : (Nat → Int) × Int × Int) => [(h, .inr (3, [.ref hb, .int (zI u.2.1), .int (zI u.2.2), .ref ht, .int (zI len)])), (hb, .inl (cB, 1200, .inl (zA u.1))), (ht, .inl (cT, 420, .inl (zA tx)))])) S w (c_X3_trim l D cB cT h hb ht (zu r1 k.toNat ((r1 k.toNat) + 1)) nn P tx len (rX X (1200 + P - nn).toNat) k4_ (by omega) (by omega)) gX3_cut_X3_trim (by decide +kernel) rfl ⟨rfl, rfl⟩ ⟨Nat.le_of_ble_eq_true rfl, Nat.le_of_ble_eq_true rfl⟩ [0, 1] [0, 1, 2] [] [0, 1, 2] rfl rfl rfl rfl rfl (by decide) (fun u => rfl) rfl rfl rfl rfl rfl hl.1 (Nat.le_of_ble_eq_true rfl) ⟨Nat.le_of_ble_eq_true rfl, Nat.le_of_ble_eq_true rfl⟩ rfl dX3_cut_224 (fun u H locs p224 w => ?_)
          obtain ⟨r224, n224, P224⟩ := u
          have p224 : mRep r224 n224 P224 (rX X (1200 + P - nn).toNat) ∧ n224 ≤ nn ∧ (n224 - P224 ≤ nn - P ∨ n224 - P224 = 0) ∧ (P224 ≤ P ∨ P224 = 0) := p224
          have w : zW D _ _ s [(h, .inr (3, [.ref hb, .int (zI n224), .int (zI P224), .ref ht, .int (zI len)])), (hb, .inl (cB, 1200, .inl (zA r224))), (ht, .inl (cT, 420, .inl (zA tx)))] H locs := w
          have k5_ : mRep r224 n224 P224 (rX X (1200 + P - nn).toNat) ∧ n224 ≤ n ∧ (P224 ≤ P + 1 ∨ P224 = 0) := by
            obtain ⟨a1, a2, a3, a4⟩ := p224; exact ⟨a1, by omega, by omega⟩
          exact z_vret S hr hlk w (r224, n224, P224) k5_ rfl dX3_cut_227
      · skip
        refine lv_aload_n S.1 S.2.1 dX3_cut_118 rfl (lv_at hl 0 rfl) ?_
        refine z_get (ci := 3) (C := RX3) (T := TX3) (N := 5) S w 0 rfl rfl in_X3_cut_X3 0 (by decide) ln_X3_cut_7 rfl rfl dX3_cut_119 ?_
        refine lv_iload S.1 S.2.1 dX3_cut_122 (lv_at hl 3 rfl) ?_
        refine z_bald S w 1 0 rfl rfl (by omega) (by decide) dX3_cut_124 ?_
        refine z_bipush S dX3_cut_125 (by decide +kernel) ?_
        refine z_icmp_ne (tgt := 147) S dX3_cut_127 (by decide) (by rw [e2 _ (by omega)]; have := d1 k.toNat (by omega); omega) (by omega) (fun h127 => ?_) (fun h127 => ?_)
        · skip
          refine lv_iload S.1 S.2.1 dX3_cut_147 (lv_at hl 3 rfl) ?_
          refine z_if_lt (tgt := 172) S dX3_cut_149 (by decide) (by omega) (fun h149 => ?_) (fun h149 => ?_)
          · skip
            refine lv_iload_n S.1 S.2.1 dX3_cut_172 rfl (lv_at hl 1 rfl) ?_
            refine lv_istore (lv' := [(5, .int (zI nn)), (0, .ref h), (1, .int (zI nn)), (3, .int (zI P)), (4, .int (zI k))]) S.1 S.2.1 dX3_cut_173 hl (by decide) rfl (fun ls hl => ?_)
            exact lab175 _ r1 nn (Nat.lt_succ_self _) (by omega) (by omega) hu (fun j q => (e1 j (by omega) q).1) (fun j q => (e1 j (by omega) (by omega)).2) (fun j q1 q2 => by omega) _ _ _ w (lv_sub hl [1, 2, 3, 0] rfl)
          · skip
            refine lv_aload_n S.1 S.2.1 dX3_cut_152 rfl (lv_at hl 0 rfl) ?_
            refine z_get (ci := 3) (C := RX3) (T := TX3) (N := 5) S w 0 rfl rfl in_X3_cut_X3 0 (by decide) ln_X3_cut_7 rfl rfl dX3_cut_153 ?_
            refine lv_iload S.1 S.2.1 dX3_cut_156 (lv_at hl 3 rfl) ?_
            refine lv_aload_n S.1 S.2.1 dX3_cut_158 rfl (lv_at hl 0 rfl) ?_
            refine z_get (ci := 3) (C := RX3) (T := TX3) (N := 5) S w 0 rfl rfl in_X3_cut_X3 0 (by decide) ln_X3_cut_7 rfl rfl dX3_cut_159 ?_
            refine lv_iload S.1 S.2.1 dX3_cut_162 (lv_at hl 3 rfl) ?_
            refine z_bald S w 1 0 rfl rfl (by omega) (by decide) dX3_cut_164 ?_
            refine z_iconst S dX3_cut_165 ?_
            refine z_iadd S dX3_cut_166 ?_
            refine z_i2b S dX3_cut_167 (by rw [e2 _ (by omega)]; have := d1 k.toNat (by omega); omega) ?_
            refine z_bast S w 1 0 rfl rfl (by omega) (by decide) (by rw [e2 _ (by omega)]; have := d1 k.toNat (by omega); omega) dX3_cut_168 (fun H locs w => ?_)
            have w : zW D _ _ s [(h, .inr (3, [.ref hb, .int (zI nn), .int (zI P), .ref ht, .int (zI len)])), (hb, .inl (cB, 1200, .inl (zA (zu r1 k.toNat ((r1 k.toNat) + 1))))), (ht, .inl (cT, 420, .inl (zA tx)))] H locs := w
            refine lv_goto (tgt := 223) S.1 S.2.1 dX3_cut_169 (by decide) ?_
            refine lv_aload_n S.1 S.2.1 dX3_cut_223 rfl (lv_at hl 0 rfl) ?_
            have k6_ : mPre (zu r1 k.toNat ((r1 k.toNat) + 1)) nn P (rX X (1200 + P - nn).toNat) := by
              first
                | (exfalso; omega)
                | exact cut_pre2 hp hnc hu h9 (zu_s _ _ _) (fun j q1 q2 => by rw [zu_n _ _ (by omega)]; exact e2 j (by omega) q2)
                | exact cut_pre1 hp hnc hu (k := k) (by omega) (fun j q => by rw [zu_n _ _ (by omega)]; exact e2 j (by omega)) (by rw [zu_s, e2 _ (by omega)]) (by rw [← e2 _ (by omega)]; exact h127) (fun j q1 q2 => by rw [zu_n _ _ (by omega)]; exact e1 j q1 q2)
                | exact cut_pre0 hp hnc (by rcases hup with q | q
                                            · omega
                                            · exact q.2)
            refine z_callvV (C := RX3) (n := 0) (As := []) (rest := []) (wr := []) (wn := (fun (u : (Nat → Int) × Int × Int) => [(h, .inr (3, [.ref hb, .int (zI u.2.1), .int (zI u.2.2), .ref ht, .int (zI len)])), (hb, .inl (cB, 1200, .inl (zA u.1))), (ht, .inl (cT, 420, .inl (zA tx)))])) S w (c_X3_trim l D cB cT h hb ht (zu r1 k.toNat ((r1 k.toNat) + 1)) nn P tx len (rX X (1200 + P - nn).toNat) k6_ (by omega) (by omega)) gX3_cut_X3_trim (by decide +kernel) rfl ⟨rfl, rfl⟩ ⟨Nat.le_of_ble_eq_true rfl, Nat.le_of_ble_eq_true rfl⟩ [0, 1] [0, 1, 2] [] [0, 1, 2] rfl rfl rfl rfl rfl (by decide) (fun u => rfl) rfl rfl rfl rfl rfl hl.1 (Nat.le_of_ble_eq_true rfl) ⟨Nat.le_of_ble_eq_true rfl, Nat.le_of_ble_eq_true rfl⟩ rfl dX3_cut_224 (fun u H locs p224 w => ?_)
            obtain ⟨r224, n224, P224⟩ := u
            have p224 : mRep r224 n224 P224 (rX X (1200 + P - nn).toNat) ∧ n224 ≤ nn ∧ (n224 - P224 ≤ nn - P ∨ n224 - P224 = 0) ∧ (P224 ≤ P ∨ P224 = 0) := p224
            have w : zW D _ _ s [(h, .inr (3, [.ref hb, .int (zI n224), .int (zI P224), .ref ht, .int (zI len)])), (hb, .inl (cB, 1200, .inl (zA r224))), (ht, .inl (cT, 420, .inl (zA tx)))] H locs := w
            have k7_ : mRep r224 n224 P224 (rX X (1200 + P - nn).toNat) ∧ n224 ≤ n ∧ (P224 ≤ P + 1 ∨ P224 = 0) := by
              obtain ⟨a1, a2, a3, a4⟩ := p224; exact ⟨a1, by omega, by omega⟩
            exact z_vret S hr hlk w (r224, n224, P224) k7_ rfl dX3_cut_227
        · skip
          refine lv_aload_n S.1 S.2.1 dX3_cut_130 rfl (lv_at hl 0 rfl) ?_
          refine z_get (ci := 3) (C := RX3) (T := TX3) (N := 5) S w 0 rfl rfl in_X3_cut_X3 0 (by decide) ln_X3_cut_7 rfl rfl dX3_cut_131 ?_
          refine lv_iload S.1 S.2.1 dX3_cut_134 (lv_at hl 3 rfl) ?_
          refine z_iconst S dX3_cut_136 ?_
          refine z_bast S w 1 0 rfl rfl (by omega) (by decide) (by omega) dX3_cut_137 (fun H locs w => ?_)
          have w : zW D _ _ s [(h, .inr (3, [.ref hb, .int (zI nn), .int (zI P), .ref ht, .int (zI len)])), (hb, .inl (cB, 1200, .inl (zA (zu r1 k.toNat 0)))), (ht, .inl (cT, 420, .inl (zA tx)))] H locs := w
          refine lv_iload S.1 S.2.1 dX3_cut_138 (lv_at hl 3 rfl) ?_
          refine z_iconst S dX3_cut_140 ?_
          refine z_isub S dX3_cut_141 ?_
          refine lv_istore (lv' := [(4, .int (zI (k - 1))), (0, .ref h), (1, .int (zI nn)), (3, .int (zI P))]) S.1 S.2.1 dX3_cut_142 hl (by decide) rfl (fun ls hl => ?_)
          refine lv_goto (tgt := 113) S.1 S.2.1 dX3_cut_144 (by decide) ?_
          have k8_ : ∀ j : Nat, (k - 1) < (j : Int) → (j : Int) < nn → r j = 9 ∧ (zu r1 k.toNat 0) j = 0 := by
            intro j q1 q2
            by_cases q3 : (j : Int) = k
            · have q4 : k.toNat = j := by omega
              have q5 := e2 j (by omega)
              rw [q4] at h127
              rw [q4, zu_s, ← q5]; exact ⟨h127, rfl⟩
            · rw [zu_n _ _ (by omega)]; exact e1 j (by omega) q2
          exact ih (zu r1 k.toNat 0) (k - 1) (by omega) (by omega) (by omega) hu k8_ (fun j q => by rw [zu_n _ _ (by omega)]; exact e2 j (by omega)) _ _ _ w (lv_sub hl [1, 2, 3, 0] rfl)
  have lab94 : ∀ (up : Int), (0 ≤ nn ∧ nn < n) → ((up = 1 ∧ (5 < r nn.toNat ∨ (r nn.toNat = 5 ∧ ((0 < nn ∧ r (nn - 1).toNat % 2 = 1) ∨ nn + 1 < n)))) ∨ (up = 0 ∧ ¬ (5 < r nn.toNat ∨ (r nn.toNat = 5 ∧ ((0 < nn ∧ r (nn - 1).toNat % 2 = 1) ∨ nn + 1 < n))))) → ∀ (H : Heap) (locs : List Loc) (ls : Array Slot), zW D [(cB, .byte), (cT, .int)] (va_A [(h, .inr (3, [.ref hb, .int (zI n), .int (zI P), .ref ht, .int (zI len)])), (hb, .inl (cB, 1200, .inl (zA r))), (ht, .inl (cT, 420, .inl (zA tx)))] s.heap.size) s [(h, .inr (3, [.ref hb, .int (zI n), .int (zI P), .ref ht, .int (zI len)])), (hb, .inl (cB, 1200, .inl (zA r))), (ht, .inl (cT, 420, .inl (zA tx)))] H locs → lv_has ls 6 [(0, .ref h), (1, .int (zI nn)), (2, .int (zI up))] → W p l e ({ frames := 1, cells := 0, slots := 0, locals := 22 } : Room) s m ([.ref h, .int (zI nn)] : List Value).toArray below meth c H locs 0 0 (MQ below (zQv D [(cB, .byte), (cT, .int)] [(h, .inr (3, [.ref hb, .int (zI n), .int (zI P), .ref ht, .int (zI len)])), (hb, .inl (cB, 1200, .inl (zA r))), (ht, .inl (cT, 420, .inl (zA tx)))] s.heap.size (fun (u : (Nat → Int) × Int × Int) => mRep u.1 u.2.1 u.2.2 (rX X (1200 + P - nn).toNat) ∧ u.2.1 ≤ n ∧ (u.2.2 ≤ P + 1 ∨ u.2.2 = 0)) (fun (u : (Nat → Int) × Int × Int) => [(h, .inr (3, [.ref hb, .int (zI u.2.1), .int (zI u.2.2), .ref ht, .int (zI len)])), (hb, .inl (cB, 1200, .inl (zA u.1))), (ht, .inl (cT, 420, .inl (zA tx)))])) ([.ref h, .int (zI nn)] : List Value).toArray s 0 0 (va_A [(h, .inr (3, [.ref hb, .int (zI n), .int (zI P), .ref ht, .int (zI len)])), (hb, .inl (cB, 1200, .inl (zA r))), (ht, .inl (cT, 420, .inl (zA tx)))] s.heap.size)) (F0 m 94 ls []) := by
    intro up hnc hup H locs ls w hl
    obtain ⟨⟨d1, d2, d3, d4⟩, d5, d6⟩ := id hp
    refine lv_aload_n S.1 S.2.1 dX3_cut_94 rfl (lv_at hl 0 rfl) ?_
    refine z_get (ci := 3) (C := RX3) (T := TX3) (N := 5) S w 0 rfl rfl in_X3_cut_X3 2 (by decide) ln_X3_cut_31 rfl rfl dX3_cut_95 ?_
    refine lv_istore_n (lv' := [(3, .int (zI P)), (0, .ref h), (1, .int (zI nn)), (2, .int (zI up))]) S.1 S.2.1 dX3_cut_98 rfl hl (by decide) rfl (fun ls hl => ?_)
    refine lv_aload_n S.1 S.2.1 dX3_cut_99 rfl (lv_at hl 1 rfl) ?_
    refine lv_iload_n S.1 S.2.1 dX3_cut_100 rfl (lv_at hl 2 rfl) ?_
    refine z_put (ci := 3) (C := RX3) (T := TX3) (N := 5) S w 0 rfl rfl in_X3_cut_X3 tyX3_ok nmX3 1 (by decide) ln_X3_cut_23 rfl rfl rfl rfl (Nat.le_of_ble_eq_true rfl) dX3_cut_101 (fun H locs w => ?_)
    have w : zW D _ _ s [(h, .inr (3, [.ref hb, .int (zI nn), .int (zI P), .ref ht, .int (zI len)])), (hb, .inl (cB, 1200, .inl (zA r))), (ht, .inl (cT, 420, .inl (zA tx)))] H locs := w
    refine lv_iload_n S.1 S.2.1 dX3_cut_104 rfl (lv_at hl 3 rfl) ?_
    refine z_if_eq (tgt := 223) S dX3_cut_105 (by decide) (by omega) (fun h105 => ?_) (fun h105 => ?_)
    · skip
      refine lv_aload_n S.1 S.2.1 dX3_cut_223 rfl (lv_at hl 1 rfl) ?_
      have k9_ : mPre r nn P (rX X (1200 + P - nn).toNat) := by
        first
          | (exfalso; omega)
          | exact cut_pre2 hp hnc hu h9 (zu_s _ _ _) (fun j q1 q2 => by rw [zu_n _ _ (by omega)]; exact e2 j (by omega) q2)
          | exact cut_pre1 hp hnc hu (k := k) (by omega) (fun j q => by rw [zu_n _ _ (by omega)]; exact e2 j (by omega)) (by rw [zu_s, e2 _ (by omega)]) (by rw [← e2 _ (by omega)]; exact h127) (fun j q1 q2 => by rw [zu_n _ _ (by omega)]; exact e1 j q1 q2)
          | exact cut_pre0 hp hnc (by rcases hup with q | q
                                      · omega
                                      · exact q.2)
      refine z_callvV (C := RX3) (n := 0) (As := []) (rest := []) (wr := []) (wn := (fun (u : (Nat → Int) × Int × Int) => [(h, .inr (3, [.ref hb, .int (zI u.2.1), .int (zI u.2.2), .ref ht, .int (zI len)])), (hb, .inl (cB, 1200, .inl (zA u.1))), (ht, .inl (cT, 420, .inl (zA tx)))])) S w (c_X3_trim l D cB cT h hb ht r nn P tx len (rX X (1200 + P - nn).toNat) k9_ (by omega) (by omega)) gX3_cut_X3_trim (by decide +kernel) rfl ⟨rfl, rfl⟩ ⟨Nat.le_of_ble_eq_true rfl, Nat.le_of_ble_eq_true rfl⟩ [0, 1] [0, 1, 2] [] [0, 1, 2] rfl rfl rfl rfl rfl (by decide) (fun u => rfl) rfl rfl rfl rfl rfl hl.1 (Nat.le_of_ble_eq_true rfl) ⟨Nat.le_of_ble_eq_true rfl, Nat.le_of_ble_eq_true rfl⟩ rfl dX3_cut_224 (fun u H locs p224 w => ?_)
      obtain ⟨r224, n224, P224⟩ := u
      have p224 : mRep r224 n224 P224 (rX X (1200 + P - nn).toNat) ∧ n224 ≤ nn ∧ (n224 - P224 ≤ nn - P ∨ n224 - P224 = 0) ∧ (P224 ≤ P ∨ P224 = 0) := p224
      have w : zW D _ _ s [(h, .inr (3, [.ref hb, .int (zI n224), .int (zI P224), .ref ht, .int (zI len)])), (hb, .inl (cB, 1200, .inl (zA r224))), (ht, .inl (cT, 420, .inl (zA tx)))] H locs := w
      have k10_ : mRep r224 n224 P224 (rX X (1200 + P - nn).toNat) ∧ n224 ≤ n ∧ (P224 ≤ P + 1 ∨ P224 = 0) := by
        obtain ⟨a1, a2, a3, a4⟩ := p224; exact ⟨a1, by omega, by omega⟩
      exact z_vret S hr hlk w (r224, n224, P224) k10_ rfl dX3_cut_227
    · skip
      refine lv_iload_n S.1 S.2.1 dX3_cut_108 rfl (lv_at hl 2 rfl) ?_
      refine z_iconst S dX3_cut_109 ?_
      refine z_isub S dX3_cut_110 ?_
      refine lv_istore (lv' := [(4, .int (zI (nn - 1))), (3, .int (zI P)), (0, .ref h), (1, .int (zI nn)), (2, .int (zI up))]) S.1 S.2.1 dX3_cut_111 hl (by decide) rfl (fun ls hl => ?_)
      have k11_ : (5 < r nn.toNat ∨ (r nn.toNat = 5 ∧ ((0 < nn ∧ r (nn - 1).toNat % 2 = 1) ∨ nn + 1 < n))) := by
        rcases hup with q | q
        · exact q.2
        · omega
      exact lab113 _ r (nn - 1) (Nat.lt_succ_self _) (by omega) (by omega) k11_ (fun j q1 q2 => by omega) (fun j q => rfl) _ _ _ w (lv_sub hl [2, 3, 1, 0] rfl)
  have hl : lv_has ls 6 [(0, .ref h), (1, .int (zI nn))] := hl
  obtain ⟨⟨d1, d2, d3, d4⟩, d5, d6⟩ := id hp
  refine lv_iload_n S.1 S.2.1 dX3_cut_0 rfl (lv_at hl 1 rfl) ?_
  refine lv_aload_n S.1 S.2.1 dX3_cut_1 rfl (lv_at hl 0 rfl) ?_
  refine z_get (ci := 3) (C := RX3) (T := TX3) (N := 5) S w 0 rfl rfl in_X3_cut_X3 1 (by decide) ln_X3_cut_23 rfl rfl dX3_cut_2 ?_
  refine z_icmp_lt (tgt := 9) S dX3_cut_5 (by decide) (by omega) (by omega) (fun h5 => ?_) (fun h5 => ?_)
  · skip
    refine lv_iload_n S.1 S.2.1 dX3_cut_9 rfl (lv_at hl 1 rfl) ?_
    refine z_if_ge (tgt := 24) S dX3_cut_10 (by decide) (by omega) (fun h10 => ?_) (fun h10 => ?_)
    · skip
      refine lv_aload_n S.1 S.2.1 dX3_cut_24 rfl (lv_at hl 0 rfl) ?_
      refine z_get (ci := 3) (C := RX3) (T := TX3) (N := 5) S w 0 rfl rfl in_X3_cut_X3 0 (by decide) ln_X3_cut_7 rfl rfl dX3_cut_25 ?_
      refine lv_iload_n S.1 S.2.1 dX3_cut_28 rfl (lv_at hl 1 rfl) ?_
      refine z_bald S w 1 0 rfl rfl (by omega) (by decide) dX3_cut_29 ?_
      refine z_iconst S dX3_cut_30 ?_
      refine z_icmp_le (tgt := 38) S dX3_cut_31 (by decide) (by have := d1 nn.toNat (by omega); omega) (by omega) (fun h31 => ?_) (fun h31 => ?_)
      · skip
        refine z_iconst S dX3_cut_38 ?_
        refine lv_istore_n (lv' := [(2, .int (zI 0)), (0, .ref h), (1, .int (zI nn))]) S.1 S.2.1 dX3_cut_39 rfl hl (by decide) rfl (fun ls hl => ?_)
        refine lv_aload_n S.1 S.2.1 dX3_cut_40 rfl (lv_at hl 1 rfl) ?_
        refine z_get (ci := 3) (C := RX3) (T := TX3) (N := 5) S w 0 rfl rfl in_X3_cut_X3 0 (by decide) ln_X3_cut_7 rfl rfl dX3_cut_41 ?_
        refine lv_iload_n S.1 S.2.1 dX3_cut_44 rfl (lv_at hl 2 rfl) ?_
        refine z_bald S w 1 0 rfl rfl (by omega) (by decide) dX3_cut_45 ?_
        refine z_iconst S dX3_cut_46 ?_
        refine z_icmp_ne (tgt := 94) S dX3_cut_47 (by decide) (by have := d1 nn.toNat (by omega); omega) (by omega) (fun h47 => ?_) (fun h47 => ?_)
        · skip
          exact lab94 0 (by omega) (by omega) _ _ _ w (lv_sub hl [1, 2, 0] rfl)
        · skip
          refine lv_iload_n S.1 S.2.1 dX3_cut_50 rfl (lv_at hl 2 rfl) ?_
          refine z_if_le (tgt := 72) S dX3_cut_51 (by decide) (by omega) (fun h51 => ?_) (fun h51 => ?_)
          · skip
            refine z_iconst S dX3_cut_72 ?_
            refine lv_istore_n (lv' := [(3, .int (zI 0)), (2, .int (zI 0)), (0, .ref h), (1, .int (zI nn))]) S.1 S.2.1 dX3_cut_73 rfl hl (by decide) rfl (fun ls hl => ?_)
            refine lv_iload_n S.1 S.2.1 dX3_cut_74 rfl (lv_at hl 0 rfl) ?_
            refine z_if_ne (tgt := 88) S dX3_cut_75 (by decide) (by omega) (fun h75 => ?_) (fun h75 => ?_)
            · skip
              refine z_iconst S dX3_cut_88 ?_
              refine lv_goto (tgt := 93) S.1 S.2.1 dX3_cut_89 (by decide) ?_
              refine lv_istore_n (lv' := [(2, .int (zI 1)), (3, .int (zI 0)), (0, .ref h), (1, .int (zI nn))]) S.1 S.2.1 dX3_cut_93 rfl hl (by decide) rfl (fun ls hl => ?_)
              exact lab94 1 (by omega) (by omega) _ _ _ w (lv_sub hl [2, 3, 0] rfl)
            · skip
              refine lv_aload_n S.1 S.2.1 dX3_cut_78 rfl (lv_at hl 2 rfl) ?_
              refine z_get (ci := 3) (C := RX3) (T := TX3) (N := 5) S w 0 rfl rfl in_X3_cut_X3 1 (by decide) ln_X3_cut_23 rfl rfl dX3_cut_79 ?_
              refine lv_iload_n S.1 S.2.1 dX3_cut_82 rfl (lv_at hl 3 rfl) ?_
              refine z_iconst S dX3_cut_83 ?_
              refine z_iadd S dX3_cut_84 ?_
              refine z_icmp_le (tgt := 92) S dX3_cut_85 (by decide) (by omega) (by omega) (fun h85 => ?_) (fun h85 => ?_)
              · skip
                refine z_iconst S dX3_cut_92 ?_
                refine lv_istore_n (lv' := [(2, .int (zI 0)), (3, .int (zI 0)), (0, .ref h), (1, .int (zI nn))]) S.1 S.2.1 dX3_cut_93 rfl hl (by decide) rfl (fun ls hl => ?_)
                exact lab94 0 (by omega) (by omega) _ _ _ w (lv_sub hl [2, 3, 0] rfl)
              · skip
                refine z_iconst S dX3_cut_88 ?_
                refine lv_goto (tgt := 93) S.1 S.2.1 dX3_cut_89 (by decide) ?_
                refine lv_istore_n (lv' := [(2, .int (zI 1)), (3, .int (zI 0)), (0, .ref h), (1, .int (zI nn))]) S.1 S.2.1 dX3_cut_93 rfl hl (by decide) rfl (fun ls hl => ?_)
                exact lab94 1 (by omega) (by omega) _ _ _ w (lv_sub hl [2, 3, 0] rfl)
          · skip
            refine lv_aload_n S.1 S.2.1 dX3_cut_54 rfl (lv_at hl 1 rfl) ?_
            refine z_get (ci := 3) (C := RX3) (T := TX3) (N := 5) S w 0 rfl rfl in_X3_cut_X3 0 (by decide) ln_X3_cut_7 rfl rfl dX3_cut_55 ?_
            refine lv_iload_n S.1 S.2.1 dX3_cut_58 rfl (lv_at hl 2 rfl) ?_
            refine z_iconst S dX3_cut_59 ?_
            refine z_isub S dX3_cut_60 ?_
            refine z_bald S w 1 0 rfl rfl (by omega) (by decide) dX3_cut_61 ?_
            refine z_iconst S dX3_cut_62 ?_
            refine z_irem S dX3_cut_63 (by have := d1 (nn - 1).toNat (by omega); omega) (by omega) ?_
            refine z_iconst S dX3_cut_64 ?_
            refine z_icmp_ne (tgt := 72) S dX3_cut_65 (by decide) (by omega) (by omega) (fun h65 => ?_) (fun h65 => ?_)
            · skip
              refine z_iconst S dX3_cut_72 ?_
              refine lv_istore_n (lv' := [(3, .int (zI 0)), (2, .int (zI 0)), (0, .ref h), (1, .int (zI nn))]) S.1 S.2.1 dX3_cut_73 rfl hl (by decide) rfl (fun ls hl => ?_)
              refine lv_iload_n S.1 S.2.1 dX3_cut_74 rfl (lv_at hl 0 rfl) ?_
              refine z_if_ne (tgt := 88) S dX3_cut_75 (by decide) (by omega) (fun h75 => ?_) (fun h75 => ?_)
              · skip
                refine z_iconst S dX3_cut_88 ?_
                refine lv_goto (tgt := 93) S.1 S.2.1 dX3_cut_89 (by decide) ?_
                refine lv_istore_n (lv' := [(2, .int (zI 1)), (3, .int (zI 0)), (0, .ref h), (1, .int (zI nn))]) S.1 S.2.1 dX3_cut_93 rfl hl (by decide) rfl (fun ls hl => ?_)
                exact lab94 1 (by omega) (by omega) _ _ _ w (lv_sub hl [2, 3, 0] rfl)
              · skip
                refine lv_aload_n S.1 S.2.1 dX3_cut_78 rfl (lv_at hl 2 rfl) ?_
                refine z_get (ci := 3) (C := RX3) (T := TX3) (N := 5) S w 0 rfl rfl in_X3_cut_X3 1 (by decide) ln_X3_cut_23 rfl rfl dX3_cut_79 ?_
                refine lv_iload_n S.1 S.2.1 dX3_cut_82 rfl (lv_at hl 3 rfl) ?_
                refine z_iconst S dX3_cut_83 ?_
                refine z_iadd S dX3_cut_84 ?_
                refine z_icmp_le (tgt := 92) S dX3_cut_85 (by decide) (by omega) (by omega) (fun h85 => ?_) (fun h85 => ?_)
                · skip
                  refine z_iconst S dX3_cut_92 ?_
                  refine lv_istore_n (lv' := [(2, .int (zI 0)), (3, .int (zI 0)), (0, .ref h), (1, .int (zI nn))]) S.1 S.2.1 dX3_cut_93 rfl hl (by decide) rfl (fun ls hl => ?_)
                  exact lab94 0 (by omega) (by omega) _ _ _ w (lv_sub hl [2, 3, 0] rfl)
                · skip
                  refine z_iconst S dX3_cut_88 ?_
                  refine lv_goto (tgt := 93) S.1 S.2.1 dX3_cut_89 (by decide) ?_
                  refine lv_istore_n (lv' := [(2, .int (zI 1)), (3, .int (zI 0)), (0, .ref h), (1, .int (zI nn))]) S.1 S.2.1 dX3_cut_93 rfl hl (by decide) rfl (fun ls hl => ?_)
                  exact lab94 1 (by omega) (by omega) _ _ _ w (lv_sub hl [2, 3, 0] rfl)
            · skip
              refine z_iconst S dX3_cut_68 ?_
              refine lv_goto (tgt := 73) S.1 S.2.1 dX3_cut_69 (by decide) ?_
              refine lv_istore_n (lv' := [(3, .int (zI 1)), (2, .int (zI 0)), (0, .ref h), (1, .int (zI nn))]) S.1 S.2.1 dX3_cut_73 rfl hl (by decide) rfl (fun ls hl => ?_)
              refine lv_iload_n S.1 S.2.1 dX3_cut_74 rfl (lv_at hl 0 rfl) ?_
              refine z_if_ne (tgt := 88) S dX3_cut_75 (by decide) (by omega) (fun h75 => ?_) (fun h75 => ?_)
              · skip
                refine z_iconst S dX3_cut_88 ?_
                refine lv_goto (tgt := 93) S.1 S.2.1 dX3_cut_89 (by decide) ?_
                refine lv_istore_n (lv' := [(2, .int (zI 1)), (3, .int (zI 1)), (0, .ref h), (1, .int (zI nn))]) S.1 S.2.1 dX3_cut_93 rfl hl (by decide) rfl (fun ls hl => ?_)
                exact lab94 1 (by omega) (by omega) _ _ _ w (lv_sub hl [2, 3, 0] rfl)
              · skip
                refine lv_aload_n S.1 S.2.1 dX3_cut_78 rfl (lv_at hl 2 rfl) ?_
                refine z_get (ci := 3) (C := RX3) (T := TX3) (N := 5) S w 0 rfl rfl in_X3_cut_X3 1 (by decide) ln_X3_cut_23 rfl rfl dX3_cut_79 ?_
                refine lv_iload_n S.1 S.2.1 dX3_cut_82 rfl (lv_at hl 3 rfl) ?_
                refine z_iconst S dX3_cut_83 ?_
                refine z_iadd S dX3_cut_84 ?_
                refine z_icmp_le (tgt := 92) S dX3_cut_85 (by decide) (by omega) (by omega) (fun h85 => ?_) (fun h85 => ?_)
                · skip
                  refine z_iconst S dX3_cut_92 ?_
                  refine lv_istore_n (lv' := [(2, .int (zI 0)), (3, .int (zI 1)), (0, .ref h), (1, .int (zI nn))]) S.1 S.2.1 dX3_cut_93 rfl hl (by decide) rfl (fun ls hl => ?_)
                  exact lab94 0 (by omega) (by omega) _ _ _ w (lv_sub hl [2, 3, 0] rfl)
                · skip
                  refine z_iconst S dX3_cut_88 ?_
                  refine lv_goto (tgt := 93) S.1 S.2.1 dX3_cut_89 (by decide) ?_
                  refine lv_istore_n (lv' := [(2, .int (zI 1)), (3, .int (zI 1)), (0, .ref h), (1, .int (zI nn))]) S.1 S.2.1 dX3_cut_93 rfl hl (by decide) rfl (fun ls hl => ?_)
                  exact lab94 1 (by omega) (by omega) _ _ _ w (lv_sub hl [2, 3, 0] rfl)
      · skip
        refine z_iconst S dX3_cut_34 ?_
        refine lv_goto (tgt := 39) S.1 S.2.1 dX3_cut_35 (by decide) ?_
        refine lv_istore_n (lv' := [(2, .int (zI 1)), (0, .ref h), (1, .int (zI nn))]) S.1 S.2.1 dX3_cut_39 rfl hl (by decide) rfl (fun ls hl => ?_)
        refine lv_aload_n S.1 S.2.1 dX3_cut_40 rfl (lv_at hl 1 rfl) ?_
        refine z_get (ci := 3) (C := RX3) (T := TX3) (N := 5) S w 0 rfl rfl in_X3_cut_X3 0 (by decide) ln_X3_cut_7 rfl rfl dX3_cut_41 ?_
        refine lv_iload_n S.1 S.2.1 dX3_cut_44 rfl (lv_at hl 2 rfl) ?_
        refine z_bald S w 1 0 rfl rfl (by omega) (by decide) dX3_cut_45 ?_
        refine z_iconst S dX3_cut_46 ?_
        refine z_icmp_ne (tgt := 94) S dX3_cut_47 (by decide) (by have := d1 nn.toNat (by omega); omega) (by omega) (fun h47 => ?_) (fun h47 => ?_)
        · skip
          exact lab94 1 (by omega) (by omega) _ _ _ w (lv_sub hl [1, 2, 0] rfl)
        · skip
          refine lv_iload_n S.1 S.2.1 dX3_cut_50 rfl (lv_at hl 2 rfl) ?_
          refine z_if_le (tgt := 72) S dX3_cut_51 (by decide) (by omega) (fun h51 => ?_) (fun h51 => ?_)
          · skip
            refine z_iconst S dX3_cut_72 ?_
            refine lv_istore_n (lv' := [(3, .int (zI 0)), (2, .int (zI 1)), (0, .ref h), (1, .int (zI nn))]) S.1 S.2.1 dX3_cut_73 rfl hl (by decide) rfl (fun ls hl => ?_)
            refine lv_iload_n S.1 S.2.1 dX3_cut_74 rfl (lv_at hl 0 rfl) ?_
            refine z_if_ne (tgt := 88) S dX3_cut_75 (by decide) (by omega) (fun h75 => ?_) (fun h75 => ?_)
            · skip
              refine z_iconst S dX3_cut_88 ?_
              refine lv_goto (tgt := 93) S.1 S.2.1 dX3_cut_89 (by decide) ?_
              refine lv_istore_n (lv' := [(2, .int (zI 1)), (3, .int (zI 0)), (0, .ref h), (1, .int (zI nn))]) S.1 S.2.1 dX3_cut_93 rfl hl (by decide) rfl (fun ls hl => ?_)
              exact lab94 1 (by omega) (by omega) _ _ _ w (lv_sub hl [2, 3, 0] rfl)
            · skip
              refine lv_aload_n S.1 S.2.1 dX3_cut_78 rfl (lv_at hl 2 rfl) ?_
              refine z_get (ci := 3) (C := RX3) (T := TX3) (N := 5) S w 0 rfl rfl in_X3_cut_X3 1 (by decide) ln_X3_cut_23 rfl rfl dX3_cut_79 ?_
              refine lv_iload_n S.1 S.2.1 dX3_cut_82 rfl (lv_at hl 3 rfl) ?_
              refine z_iconst S dX3_cut_83 ?_
              refine z_iadd S dX3_cut_84 ?_
              refine z_icmp_le (tgt := 92) S dX3_cut_85 (by decide) (by omega) (by omega) (fun h85 => ?_) (fun h85 => ?_)
              · skip
                refine z_iconst S dX3_cut_92 ?_
                refine lv_istore_n (lv' := [(2, .int (zI 0)), (3, .int (zI 0)), (0, .ref h), (1, .int (zI nn))]) S.1 S.2.1 dX3_cut_93 rfl hl (by decide) rfl (fun ls hl => ?_)
                exact lab94 0 (by omega) (by omega) _ _ _ w (lv_sub hl [2, 3, 0] rfl)
              · skip
                refine z_iconst S dX3_cut_88 ?_
                refine lv_goto (tgt := 93) S.1 S.2.1 dX3_cut_89 (by decide) ?_
                refine lv_istore_n (lv' := [(2, .int (zI 1)), (3, .int (zI 0)), (0, .ref h), (1, .int (zI nn))]) S.1 S.2.1 dX3_cut_93 rfl hl (by decide) rfl (fun ls hl => ?_)
                exact lab94 1 (by omega) (by omega) _ _ _ w (lv_sub hl [2, 3, 0] rfl)
          · skip
            refine lv_aload_n S.1 S.2.1 dX3_cut_54 rfl (lv_at hl 1 rfl) ?_
            refine z_get (ci := 3) (C := RX3) (T := TX3) (N := 5) S w 0 rfl rfl in_X3_cut_X3 0 (by decide) ln_X3_cut_7 rfl rfl dX3_cut_55 ?_
            refine lv_iload_n S.1 S.2.1 dX3_cut_58 rfl (lv_at hl 2 rfl) ?_
            refine z_iconst S dX3_cut_59 ?_
            refine z_isub S dX3_cut_60 ?_
            refine z_bald S w 1 0 rfl rfl (by omega) (by decide) dX3_cut_61 ?_
            refine z_iconst S dX3_cut_62 ?_
            refine z_irem S dX3_cut_63 (by have := d1 (nn - 1).toNat (by omega); omega) (by omega) ?_
            refine z_iconst S dX3_cut_64 ?_
            refine z_icmp_ne (tgt := 72) S dX3_cut_65 (by decide) (by omega) (by omega) (fun h65 => ?_) (fun h65 => ?_)
            · skip
              refine z_iconst S dX3_cut_72 ?_
              refine lv_istore_n (lv' := [(3, .int (zI 0)), (2, .int (zI 1)), (0, .ref h), (1, .int (zI nn))]) S.1 S.2.1 dX3_cut_73 rfl hl (by decide) rfl (fun ls hl => ?_)
              refine lv_iload_n S.1 S.2.1 dX3_cut_74 rfl (lv_at hl 0 rfl) ?_
              refine z_if_ne (tgt := 88) S dX3_cut_75 (by decide) (by omega) (fun h75 => ?_) (fun h75 => ?_)
              · skip
                refine z_iconst S dX3_cut_88 ?_
                refine lv_goto (tgt := 93) S.1 S.2.1 dX3_cut_89 (by decide) ?_
                refine lv_istore_n (lv' := [(2, .int (zI 1)), (3, .int (zI 0)), (0, .ref h), (1, .int (zI nn))]) S.1 S.2.1 dX3_cut_93 rfl hl (by decide) rfl (fun ls hl => ?_)
                exact lab94 1 (by omega) (by omega) _ _ _ w (lv_sub hl [2, 3, 0] rfl)
              · skip
                refine lv_aload_n S.1 S.2.1 dX3_cut_78 rfl (lv_at hl 2 rfl) ?_
                refine z_get (ci := 3) (C := RX3) (T := TX3) (N := 5) S w 0 rfl rfl in_X3_cut_X3 1 (by decide) ln_X3_cut_23 rfl rfl dX3_cut_79 ?_
                refine lv_iload_n S.1 S.2.1 dX3_cut_82 rfl (lv_at hl 3 rfl) ?_
                refine z_iconst S dX3_cut_83 ?_
                refine z_iadd S dX3_cut_84 ?_
                refine z_icmp_le (tgt := 92) S dX3_cut_85 (by decide) (by omega) (by omega) (fun h85 => ?_) (fun h85 => ?_)
                · skip
                  refine z_iconst S dX3_cut_92 ?_
                  refine lv_istore_n (lv' := [(2, .int (zI 0)), (3, .int (zI 0)), (0, .ref h), (1, .int (zI nn))]) S.1 S.2.1 dX3_cut_93 rfl hl (by decide) rfl (fun ls hl => ?_)
                  exact lab94 0 (by omega) (by omega) _ _ _ w (lv_sub hl [2, 3, 0] rfl)
                · skip
                  refine z_iconst S dX3_cut_88 ?_
                  refine lv_goto (tgt := 93) S.1 S.2.1 dX3_cut_89 (by decide) ?_
                  refine lv_istore_n (lv' := [(2, .int (zI 1)), (3, .int (zI 0)), (0, .ref h), (1, .int (zI nn))]) S.1 S.2.1 dX3_cut_93 rfl hl (by decide) rfl (fun ls hl => ?_)
                  exact lab94 1 (by omega) (by omega) _ _ _ w (lv_sub hl [2, 3, 0] rfl)
            · skip
              refine z_iconst S dX3_cut_68 ?_
              refine lv_goto (tgt := 73) S.1 S.2.1 dX3_cut_69 (by decide) ?_
              refine lv_istore_n (lv' := [(3, .int (zI 1)), (2, .int (zI 1)), (0, .ref h), (1, .int (zI nn))]) S.1 S.2.1 dX3_cut_73 rfl hl (by decide) rfl (fun ls hl => ?_)
              refine lv_iload_n S.1 S.2.1 dX3_cut_74 rfl (lv_at hl 0 rfl) ?_
              refine z_if_ne (tgt := 88) S dX3_cut_75 (by decide) (by omega) (fun h75 => ?_) (fun h75 => ?_)
              · skip
                refine z_iconst S dX3_cut_88 ?_
                refine lv_goto (tgt := 93) S.1 S.2.1 dX3_cut_89 (by decide) ?_
                refine lv_istore_n (lv' := [(2, .int (zI 1)), (3, .int (zI 1)), (0, .ref h), (1, .int (zI nn))]) S.1 S.2.1 dX3_cut_93 rfl hl (by decide) rfl (fun ls hl => ?_)
                exact lab94 1 (by omega) (by omega) _ _ _ w (lv_sub hl [2, 3, 0] rfl)
              · skip
                refine lv_aload_n S.1 S.2.1 dX3_cut_78 rfl (lv_at hl 2 rfl) ?_
                refine z_get (ci := 3) (C := RX3) (T := TX3) (N := 5) S w 0 rfl rfl in_X3_cut_X3 1 (by decide) ln_X3_cut_23 rfl rfl dX3_cut_79 ?_
                refine lv_iload_n S.1 S.2.1 dX3_cut_82 rfl (lv_at hl 3 rfl) ?_
                refine z_iconst S dX3_cut_83 ?_
                refine z_iadd S dX3_cut_84 ?_
                refine z_icmp_le (tgt := 92) S dX3_cut_85 (by decide) (by omega) (by omega) (fun h85 => ?_) (fun h85 => ?_)
                · skip
                  refine z_iconst S dX3_cut_92 ?_
                  refine lv_istore_n (lv' := [(2, .int (zI 0)), (3, .int (zI 1)), (0, .ref h), (1, .int (zI nn))]) S.1 S.2.1 dX3_cut_93 rfl hl (by decide) rfl (fun ls hl => ?_)
                  exact lab94 0 (by omega) (by omega) _ _ _ w (lv_sub hl [2, 3, 0] rfl)
                · skip
                  refine z_iconst S dX3_cut_88 ?_
                  refine lv_goto (tgt := 93) S.1 S.2.1 dX3_cut_89 (by decide) ?_
                  refine lv_istore_n (lv' := [(2, .int (zI 1)), (3, .int (zI 1)), (0, .ref h), (1, .int (zI nn))]) S.1 S.2.1 dX3_cut_93 rfl hl (by decide) rfl (fun ls hl => ?_)
                  exact lab94 1 (by omega) (by omega) _ _ _ w (lv_sub hl [2, 3, 0] rfl)
    · skip
      refine lv_aload_n S.1 S.2.1 dX3_cut_13 rfl (lv_at hl 0 rfl) ?_
      refine z_iconst S dX3_cut_14 ?_
      refine z_put (ci := 3) (C := RX3) (T := TX3) (N := 5) S w 0 rfl rfl in_X3_cut_X3 tyX3_ok nmX3 1 (by decide) ln_X3_cut_23 rfl rfl rfl rfl (Nat.le_of_ble_eq_true rfl) dX3_cut_15 (fun H locs w => ?_)
      have w : zW D _ _ s [(h, .inr (3, [.ref hb, .int (zI 0), .int (zI P), .ref ht, .int (zI len)])), (hb, .inl (cB, 1200, .inl (zA r))), (ht, .inl (cT, 420, .inl (zA tx)))] H locs := w
      refine lv_aload_n S.1 S.2.1 dX3_cut_18 rfl (lv_at hl 0 rfl) ?_
      refine z_iconst S dX3_cut_19 ?_
      refine z_put (ci := 3) (C := RX3) (T := TX3) (N := 5) S w 0 rfl rfl in_X3_cut_X3 tyX3_ok nmX3 2 (by decide) ln_X3_cut_31 rfl rfl rfl rfl (Nat.le_of_ble_eq_true rfl) dX3_cut_20 (fun H locs w => ?_)
      have w : zW D _ _ s [(h, .inr (3, [.ref hb, .int (zI 0), .int (zI 0), .ref ht, .int (zI len)])), (hb, .inl (cB, 1200, .inl (zA r))), (ht, .inl (cT, 420, .inl (zA tx)))] H locs := w
      have k12_ : mRep r (0 : Int) (0 : Int) (rX X (1200 + P - nn).toNat) ∧ (0 : Int) ≤ n ∧ ((0 : Int) ≤ P + 1 ∨ (0 : Int) = 0) := by
        rw [cut_neg hp (by omega)]
        refine ⟨⟨⟨fun j q => by omega, by omega, by omega, ?_⟩, fun _ => rfl, fun q => by omega⟩, by omega, by omega⟩
        show 0 = hv r 0 * _
        rw [hv, Nat.zero_mul]
      exact z_vret S hr hlk w (r, 0, 0) k12_ rfl dX3_cut_23
  · skip
    have k13_ : mRep r n P (rX X (1200 + P - nn).toNat) ∧ n ≤ n ∧ (P ≤ P + 1 ∨ P = 0) := by
      rw [cut_id hp (by omega) hc]; exact ⟨hp, by omega, by omega⟩
    exact z_vret S hr hlk w (r, n, P) k13_ rfl dX3_cut_8
end
section
set_option maxRecDepth 20000 in
theorem ln_X3_spread_23 : Cond.fieldLink RX3 23 "DecimalTextModel" "digits" "I" ∈ wsX3_spread := by decide +kernel
theorem in_X3_spread_X3 : ∀ w ∈ u_ws RX3 TX3 5, w ∈ wsX3_spread := by decide +kernel
set_option maxRecDepth 20000 in
theorem ln_X3_spread_31 : Cond.fieldLink RX3 31 "DecimalTextModel" "point" "I" ∈ wsX3_spread := by decide +kernel
set_option maxRecDepth 20000 in
theorem ln_X3_spread_7 : Cond.fieldLink RX3 7 "DecimalTextModel" "row" "[B" ∈ wsX3_spread := by decide +kernel
set_option maxRecDepth 20000 in
theorem kl_X3_spread_29 : Cond.constantLong RX3 29 (10) ∈ wsX3_spread := by decide +kernel
set_option maxRecDepth 20000 in
theorem kl_X3_spread_27 : Cond.constantLong RX3 27 (1000000000000000000) ∈ wsX3_spread := by decide +kernel
set_option maxRecDepth 20000 in
theorem kl_X3_spread_17 : Cond.constantLong RX3 17 (2047) ∈ wsX3_spread := by decide +kernel
set_option maxRecDepth 20000 in
theorem kl_X3_spread_19 : Cond.constantLong RX3 19 (4503599627370495) ∈ wsX3_spread := by decide +kernel
set_option maxRecDepth 20000 in
theorem kl_X3_spread_21 : Cond.constantLong RX3 21 (4503599627370496) ∈ wsX3_spread := by decide +kernel
set_option maxHeartbeats 4000000 in
set_option maxRecDepth 100000 in
theorem c_X3_spread (l : Launch) (D : va_G) (cB cT : ClassId) (h : Nat) (hb : Nat) (ht : Nat) (r : Nat → Int) (n : Int) (P : Int) (tx : Nat → Int) (len : Int) (bz : Int) (hbz : -9223372036854775808 ≤ bz ∧ bz ≤ 9223372036854775807) (hfin : xE bz ≠ 2047) : zMv (T := (Nat → Int) × Int × Int) l yX3_spread wsX3_spread ({ frames := 2, cells := 0, slots := 0, locals := 45 } : Room) D [(cB, .byte), (cT, .int)] [.ref h, .long (lI bz)] [(h, .inr (3, [.ref hb, .int (zI n), .int (zI P), .ref ht, .int (zI len)])), (hb, .inl (cB, 1200, .inl (zA r))), (ht, .inl (cT, 420, .inl (zA tx)))] (fun (u : (Nat → Int) × Int × Int) => mRep u.1 u.2.1 u.2.2 (xX bz) ∧ u.2.1 ≤ 1190 ∧ (-1200 ≤ u.2.2 ∧ u.2.2 ≤ 1100)) (fun (u : (Nat → Int) × Int × Int) => [(h, .inr (3, [.ref hb, .int (zI u.2.1), .int (zI u.2.2), .ref ht, .int (zI len)])), (hb, .inl (cB, 1200, .inl (zA u.1))), (ht, .inl (cT, 420, .inl (zA tx)))]) 0 0 := by
  refine zMv.of (bytes := cX3_spread) (nL := 8) (own := RX3) (by decide) rfl rfl (Nat.le_of_ble_eq_true rfl) ?_
  intro p e s m below meth c ls S hr hlk hnm w hl
  have lab139 : ∀ (nf_ : Nat) (r1 : Nat → Int) (n1 : Int) (P1 : Int) (t : Int) (k : Int) (ex : Int), (k - t).toNat < nf_ → (t = xP bz ∧ -1074 ≤ t ∧ t ≤ 971) → ((0 ≤ t ∧ k = 0 ∧ ex = t) ∨ (t ≤ k ∧ k ≤ 0 ∧ ex = k)) → (mRep r1 n1 P1 ((xM bz).toNat * 2 ^ (1200 + ex).toNat * 5 ^ 1200)) → (((0 ≤ t ∧ n1 ≤ 19 + t) ∨ n1 ≤ 19 - k) ∧ n1 - P1 ≤ -k ∧ P1 ≤ 1000) → ∀ (H : Heap) (locs : List Loc) (ls : Array Slot), zW D [(cB, .byte), (cT, .int)] (va_A [(h, .inr (3, [.ref hb, .int (zI n), .int (zI P), .ref ht, .int (zI len)])), (hb, .inl (cB, 1200, .inl (zA r))), (ht, .inl (cT, 420, .inl (zA tx)))] s.heap.size) s [(h, .inr (3, [.ref hb, .int (zI n1), .int (zI P1), .ref ht, .int (zI len)])), (hb, .inl (cB, 1200, .inl (zA r1))), (ht, .inl (cT, 420, .inl (zA tx)))] H locs → lv_has ls 8 [(0, .ref h), (6, .int (zI t)), (7, .int (zI k))] → W p l e ({ frames := 2, cells := 0, slots := 0, locals := 45 } : Room) s m ([.ref h, .long (lI bz)] : List Value).toArray below meth c H locs 0 0 (MQ below (zQv D [(cB, .byte), (cT, .int)] [(h, .inr (3, [.ref hb, .int (zI n), .int (zI P), .ref ht, .int (zI len)])), (hb, .inl (cB, 1200, .inl (zA r))), (ht, .inl (cT, 420, .inl (zA tx)))] s.heap.size (fun (u : (Nat → Int) × Int × Int) => mRep u.1 u.2.1 u.2.2 (xX bz) ∧ u.2.1 ≤ 1190 ∧ (-1200 ≤ u.2.2 ∧ u.2.2 ≤ 1100)) (fun (u : (Nat → Int) × Int × Int) => [(h, .inr (3, [.ref hb, .int (zI u.2.1), .int (zI u.2.2), .ref ht, .int (zI len)])), (hb, .inl (cB, 1200, .inl (zA u.1))), (ht, .inl (cT, 420, .inl (zA tx)))])) ([.ref h, .long (lI bz)] : List Value).toArray s 0 0 (va_A [(h, .inr (3, [.ref hb, .int (zI n), .int (zI P), .ref ht, .int (zI len)])), (hb, .inl (cB, 1200, .inl (zA r))), (ht, .inl (cT, 420, .inl (zA tx)))] s.heap.size)) (F0 m 139 ls []) := by
    intro nf_
    induction nf_ with
    | zero => intro r1 n1 P1 t k ex hmeas_; exact absurd hmeas_ (Nat.not_lt_zero _)
    | succ nf_ ih =>
      intro r1 n1 P1 t k ex hmeas_ htt hk hq hb1 H locs ls w hl
      refine lv_iload S.1 S.2.1 dX3_spread_139 (lv_at hl 2 rfl) ?_
      refine lv_iload S.1 S.2.1 dX3_spread_141 (lv_at hl 1 rfl) ?_
      refine z_icmp_le (tgt := 156) S dX3_spread_143 (by decide) (by omega) (by omega) (fun h143 => ?_) (fun h143 => ?_)
      · skip
        have k1_ : mRep r1 n1 P1 (xX bz) ∧ n1 ≤ 1190 ∧ (-1200 ≤ P1 ∧ P1 ≤ 1100) := by
          have g1 := hq.1.2.1
          have g2 := hq.1.2.2.1
          refine ⟨?_, by omega, by omega⟩
          have q1 : ex = xP bz := by omega
          unfold xX
          have q2 : (1200 + ex).toNat = (xP bz + 1200).toNat := by omega
          rw [q2] at hq; exact hq
        exact z_vret S hr hlk w (r1, n1, P1) k1_ rfl dX3_spread_156
      · skip
        have h7 := hq.1.2.1
        have h77 := hq.1.2.2.1
        have h8 : ex = k := by omega
        refine lv_aload_n S.1 S.2.1 dX3_spread_146 rfl (lv_at hl 0 rfl) ?_
        have k2_ : mRep r1 n1 P1 (2 * ((xM bz).toNat * 2 ^ (1200 + (k - 1)).toNat * 5 ^ 1200)) := by
          rw [h8] at hq
          have q1 : (1200 + k).toNat = (1200 + (k - 1)).toNat + 1 := by omega
          rw [q1, Nat.pow_succ] at hq
          have q2 : 2 * ((xM bz).toNat * 2 ^ (1200 + (k - 1)).toNat * 5 ^ 1200) = (xM bz).toNat * (2 ^ (1200 + (k - 1)).toNat * 2) * 5 ^ 1200 := by
            generalize (2 : Nat) ^ (1200 + (k - 1)).toNat = a
            generalize (5 : Nat) ^ 1200 = b
            grind
          rw [q2]; exact hq
        refine z_callvV (C := RX3) (n := 0) (As := []) (rest := []) (wr := []) (wn := (fun (u : (Nat → Int) × Int × Int) => [(h, .inr (3, [.ref hb, .int (zI u.2.1), .int (zI u.2.2), .ref ht, .int (zI len)])), (hb, .inl (cB, 1200, .inl (zA u.1))), (ht, .inl (cT, 420, .inl (zA tx)))])) S w (c_X3_half l D cB cT h hb ht r1 n1 P1 tx len ((xM bz).toNat * 2 ^ (1200 + (k - 1)).toNat * 5 ^ 1200) k2_ (by omega) (by omega) (by omega)) gX3_spread_X3_half (by decide +kernel) rfl ⟨rfl, rfl⟩ ⟨Nat.le_of_ble_eq_true rfl, Nat.le_of_ble_eq_true rfl⟩ [0, 1] [0, 1, 2] [] [0, 1, 2] rfl rfl rfl rfl rfl (by decide) (fun u => rfl) rfl rfl rfl rfl rfl hl.1 (Nat.le_of_ble_eq_true rfl) ⟨Nat.le_of_ble_eq_true rfl, Nat.le_of_ble_eq_true rfl⟩ rfl dX3_spread_147 (fun u H locs p147 w => ?_)
        obtain ⟨r2, n2, P2⟩ := u
        have p147 : mRep r2 n2 P2 ((xM bz).toNat * 2 ^ (1200 + (k - 1)).toNat * 5 ^ 1200) ∧ n2 ≤ n1 + 1 ∧ (n2 - P2 ≤ n1 + 1 - P1 ∨ n2 - P2 = 0) ∧ (P2 ≤ P1 ∨ P2 = 0) := p147
        have w : zW D _ _ s [(h, .inr (3, [.ref hb, .int (zI n2), .int (zI P2), .ref ht, .int (zI len)])), (hb, .inl (cB, 1200, .inl (zA r2))), (ht, .inl (cT, 420, .inl (zA tx)))] H locs := w
        obtain ⟨a1, a2, a3, a4⟩ := p147
        have a5 := a1.2.1
        have a6 := a1.1.2.1
        refine lv_iinc (v := zI (k + (-1))) (lv' := [(7, .int (zI (k + (-1)))), (0, .ref h), (6, .int (zI t))]) S.1 S.2.1 dX3_spread_150 hl (k := 2) rfl (zI_add k (-1)) (by decide) rfl (fun ls hl => ?_)
        refine lv_goto (tgt := 139) S.1 S.2.1 dX3_spread_153 (by decide) ?_
        have k3_ : mRep r2 n2 P2 ((xM bz).toNat * 2 ^ (1200 + (k + (-1))).toNat * 5 ^ 1200) := by
          have q : k + (-1) = k - 1 := by omega
          rw [q]; exact a1
        exact ih r2 n2 P2 t (k + (-1)) (k + (-1)) (by omega) htt (by omega) k3_ (by omega) _ _ _ w (lv_sub hl [1, 2, 0] rfl)
  have lab119 : ∀ (nf_ : Nat) (r1 : Nat → Int) (n1 : Int) (P1 : Int) (t : Int) (k : Int), (t - k).toNat < nf_ → (t = xP bz ∧ -1074 ≤ t ∧ t ≤ 971) → (0 ≤ k ∧ (k ≤ t ∨ k = 0)) → (mRep r1 n1 P1 ((xM bz).toNat * 2 ^ (1200 + k).toNat * 5 ^ 1200)) → (n1 ≤ 19 + k ∧ n1 - P1 ≤ 0 ∧ P1 ≤ 19 + k) → ∀ (H : Heap) (locs : List Loc) (ls : Array Slot), zW D [(cB, .byte), (cT, .int)] (va_A [(h, .inr (3, [.ref hb, .int (zI n), .int (zI P), .ref ht, .int (zI len)])), (hb, .inl (cB, 1200, .inl (zA r))), (ht, .inl (cT, 420, .inl (zA tx)))] s.heap.size) s [(h, .inr (3, [.ref hb, .int (zI n1), .int (zI P1), .ref ht, .int (zI len)])), (hb, .inl (cB, 1200, .inl (zA r1))), (ht, .inl (cT, 420, .inl (zA tx)))] H locs → lv_has ls 8 [(0, .ref h), (6, .int (zI t)), (7, .int (zI k))] → W p l e ({ frames := 2, cells := 0, slots := 0, locals := 45 } : Room) s m ([.ref h, .long (lI bz)] : List Value).toArray below meth c H locs 0 0 (MQ below (zQv D [(cB, .byte), (cT, .int)] [(h, .inr (3, [.ref hb, .int (zI n), .int (zI P), .ref ht, .int (zI len)])), (hb, .inl (cB, 1200, .inl (zA r))), (ht, .inl (cT, 420, .inl (zA tx)))] s.heap.size (fun (u : (Nat → Int) × Int × Int) => mRep u.1 u.2.1 u.2.2 (xX bz) ∧ u.2.1 ≤ 1190 ∧ (-1200 ≤ u.2.2 ∧ u.2.2 ≤ 1100)) (fun (u : (Nat → Int) × Int × Int) => [(h, .inr (3, [.ref hb, .int (zI u.2.1), .int (zI u.2.2), .ref ht, .int (zI len)])), (hb, .inl (cB, 1200, .inl (zA u.1))), (ht, .inl (cT, 420, .inl (zA tx)))])) ([.ref h, .long (lI bz)] : List Value).toArray s 0 0 (va_A [(h, .inr (3, [.ref hb, .int (zI n), .int (zI P), .ref ht, .int (zI len)])), (hb, .inl (cB, 1200, .inl (zA r))), (ht, .inl (cT, 420, .inl (zA tx)))] s.heap.size)) (F0 m 119 ls []) := by
    intro nf_
    induction nf_ with
    | zero => intro r1 n1 P1 t k hmeas_; exact absurd hmeas_ (Nat.not_lt_zero _)
    | succ nf_ ih =>
      intro r1 n1 P1 t k hmeas_ htt hk hq hb1 H locs ls w hl
      refine lv_iload S.1 S.2.1 dX3_spread_119 (lv_at hl 2 rfl) ?_
      refine lv_iload S.1 S.2.1 dX3_spread_121 (lv_at hl 1 rfl) ?_
      refine z_icmp_ge (tgt := 136) S dX3_spread_123 (by decide) (by omega) (by omega) (fun h123 => ?_) (fun h123 => ?_)
      · skip
        refine z_iconst S dX3_spread_136 ?_
        refine lv_istore (lv' := [(7, .int (zI 0)), (0, .ref h), (6, .int (zI t))]) S.1 S.2.1 dX3_spread_137 hl (by decide) rfl (fun ls hl => ?_)
        exact lab139 _ r1 n1 P1 t 0 k (Nat.lt_succ_self _) htt (by omega) hq (by omega) _ _ _ w (lv_sub hl [1, 2, 0] rfl)
      · skip
        have h7 := hq.1.2.1
        have h8 := hq.1.2.2.1
        refine lv_aload_n S.1 S.2.1 dX3_spread_126 rfl (lv_at hl 0 rfl) ?_
        refine z_callvV (C := RX3) (n := 0) (As := []) (rest := []) (wr := []) (wn := (fun (u : (Nat → Int) × Int × Int) => [(h, .inr (3, [.ref hb, .int (zI u.2.1), .int (zI u.2.2), .ref ht, .int (zI len)])), (hb, .inl (cB, 1200, .inl (zA u.1))), (ht, .inl (cT, 420, .inl (zA tx)))])) S w (c_X3_twice l D cB cT h hb ht r1 n1 P1 tx len ((xM bz).toNat * 2 ^ (1200 + k).toNat * 5 ^ 1200) hq (by omega) (by omega)) gX3_spread_X3_twice (by decide +kernel) rfl ⟨rfl, rfl⟩ ⟨Nat.le_of_ble_eq_true rfl, Nat.le_of_ble_eq_true rfl⟩ [0, 1] [0, 1, 2] [] [0, 1, 2] rfl rfl rfl rfl rfl (by decide) (fun u => rfl) rfl rfl rfl rfl rfl hl.1 (Nat.le_of_ble_eq_true rfl) ⟨Nat.le_of_ble_eq_true rfl, Nat.le_of_ble_eq_true rfl⟩ rfl dX3_spread_127 (fun u H locs p127 w => ?_)
        obtain ⟨r2, n2, P2⟩ := u
        have p127 : mRep r2 n2 P2 (2 * ((xM bz).toNat * 2 ^ (1200 + k).toNat * 5 ^ 1200)) ∧ n2 ≤ n1 + 1 ∧ (n2 - P2 ≤ n1 - P1 ∨ n2 - P2 = 0) ∧ (P2 ≤ P1 + 1 ∨ P2 = 0) := p127
        have w : zW D _ _ s [(h, .inr (3, [.ref hb, .int (zI n2), .int (zI P2), .ref ht, .int (zI len)])), (hb, .inl (cB, 1200, .inl (zA r2))), (ht, .inl (cT, 420, .inl (zA tx)))] H locs := w
        obtain ⟨a1, a2, a3, a4⟩ := p127
        have a5 := a1.2.1
        have a6 := a1.1.2.1
        refine lv_iinc (v := zI (k + 1)) (lv' := [(7, .int (zI (k + 1))), (0, .ref h), (6, .int (zI t))]) S.1 S.2.1 dX3_spread_130 hl (k := 2) rfl (zI_add k 1) (by decide) rfl (fun ls hl => ?_)
        refine lv_goto (tgt := 119) S.1 S.2.1 dX3_spread_133 (by decide) ?_
        have k4_ : mRep r2 n2 P2 ((xM bz).toNat * 2 ^ (1200 + (k + 1)).toNat * 5 ^ 1200) := by
          have q1 : (1200 + (k + 1)).toNat = (1200 + k).toNat + 1 := by omega
          rw [q1, Nat.pow_succ]
          have q2 : 2 * ((xM bz).toNat * 2 ^ (1200 + k).toNat * 5 ^ 1200) = (xM bz).toNat * (2 ^ (1200 + k).toNat * 2) * 5 ^ 1200 := by
            generalize (2 : Nat) ^ (1200 + k).toNat = a
            generalize (5 : Nat) ^ 1200 = b
            grind
          rw [← q2]; exact a1
        exact ih r2 n2 P2 t (k + 1) (by omega) htt (by omega) k4_ (by omega) _ _ _ w (lv_sub hl [1, 2, 0] rfl)
  have lab39 : ∀ (nf_ : Nat) (r1 : Nat → Int) (i : Int) (un : Int) (mm : Int), (19 - i).toNat < nf_ → (mm = xM bz ∧ 0 ≤ mm ∧ mm < 9007199254740992) → (0 ≤ i ∧ i ≤ 19) → ((i < 19 ∧ un = ((10 ^ (18 - i).toNat : Nat) : Int)) ∨ (i = 19 ∧ un = 0)) → (0 ≤ un ∧ un ≤ 1000000000000000000) → (∀ j : Nat, (j : Int) < i → 0 ≤ r1 j ∧ r1 j ≤ 9) → (hv r1 i.toNat = mm.toNat / 10 ^ (19 - i).toNat) → ∀ (H : Heap) (locs : List Loc) (ls : Array Slot), zW D [(cB, .byte), (cT, .int)] (va_A [(h, .inr (3, [.ref hb, .int (zI n), .int (zI P), .ref ht, .int (zI len)])), (hb, .inl (cB, 1200, .inl (zA r))), (ht, .inl (cT, 420, .inl (zA tx)))] s.heap.size) s [(h, .inr (3, [.ref hb, .int (zI i), .int (zI P), .ref ht, .int (zI len)])), (hb, .inl (cB, 1200, .inl (zA r1))), (ht, .inl (cT, 420, .inl (zA tx)))] H locs → lv_has ls 8 [(0, .ref h), (3, .int (zI (xE bz))), (4, .long (lI mm)), (6, .long (lI un))] → W p l e ({ frames := 2, cells := 0, slots := 0, locals := 45 } : Room) s m ([.ref h, .long (lI bz)] : List Value).toArray below meth c H locs 0 0 (MQ below (zQv D [(cB, .byte), (cT, .int)] [(h, .inr (3, [.ref hb, .int (zI n), .int (zI P), .ref ht, .int (zI len)])), (hb, .inl (cB, 1200, .inl (zA r))), (ht, .inl (cT, 420, .inl (zA tx)))] s.heap.size (fun (u : (Nat → Int) × Int × Int) => mRep u.1 u.2.1 u.2.2 (xX bz) ∧ u.2.1 ≤ 1190 ∧ (-1200 ≤ u.2.2 ∧ u.2.2 ≤ 1100)) (fun (u : (Nat → Int) × Int × Int) => [(h, .inr (3, [.ref hb, .int (zI u.2.1), .int (zI u.2.2), .ref ht, .int (zI len)])), (hb, .inl (cB, 1200, .inl (zA u.1))), (ht, .inl (cT, 420, .inl (zA tx)))])) ([.ref h, .long (lI bz)] : List Value).toArray s 0 0 (va_A [(h, .inr (3, [.ref hb, .int (zI n), .int (zI P), .ref ht, .int (zI len)])), (hb, .inl (cB, 1200, .inl (zA r))), (ht, .inl (cT, 420, .inl (zA tx)))] s.heap.size)) (F0 m 39 ls []) := by
    intro nf_
    induction nf_ with
    | zero => intro r1 i un mm hmeas_; exact absurd hmeas_ (Nat.not_lt_zero _)
    | succ nf_ ih =>
      intro r1 i un mm hmeas_ hmm hi hu1 hub e1 ev H locs ls w hl
      have hE : 0 ≤ xE bz ∧ xE bz < 2048 := by unfold xE; omega
      refine lv_lload S.1 S.2.1 dX3_spread_39 (lv_at hl 3 rfl) ?_
      refine z_lconst (z := 0) S dX3_spread_41 (by decide +kernel) ?_
      refine z_lcmp S dX3_spread_42 (by omega) (by omega) (fun c42 hc42 => ?_)
      refine z_if_le (tgt := 87) S dX3_spread_43 (by decide) (by omega) (fun h43 => ?_) (fun h43 => ?_)
      · skip
        have ei : i = 19 := by
          rcases hu1 with q | q
          · have := p10_pos (18 - i).toNat
            omega
          · exact q.1
        refine lv_aload_n S.1 S.2.1 dX3_spread_87 rfl (lv_at hl 0 rfl) ?_
        refine lv_aload_n S.1 S.2.1 dX3_spread_88 rfl (lv_at hl 0 rfl) ?_
        refine z_get (ci := 3) (C := RX3) (T := TX3) (N := 5) S w 0 rfl rfl in_X3_spread_X3 1 (by decide) ln_X3_spread_23 rfl rfl dX3_spread_89 ?_
        refine z_put (ci := 3) (C := RX3) (T := TX3) (N := 5) S w 0 rfl rfl in_X3_spread_X3 tyX3_ok nmX3 2 (by decide) ln_X3_spread_31 rfl rfl rfl rfl (Nat.le_of_ble_eq_true rfl) dX3_spread_92 (fun H locs w => ?_)
        have w : zW D _ _ s [(h, .inr (3, [.ref hb, .int (zI i), .int (zI i), .ref ht, .int (zI len)])), (hb, .inl (cB, 1200, .inl (zA r1))), (ht, .inl (cT, 420, .inl (zA tx)))] H locs := w
        refine lv_aload_n S.1 S.2.1 dX3_spread_95 rfl (lv_at hl 0 rfl) ?_
        have k5_ : mPre r1 i i ((xM bz).toNat * 2 ^ (1200 + (0 : Int)).toNat * 5 ^ 1200) := by
          rw [ei] at e1 ev ⊢
          refine ⟨e1, by omega, by omega, ?_⟩
          have k1 : (1200 + (19 : Int) - 19).toNat = 1200 := rfl
          have k2 : (1200 + (0 : Int)).toNat = 1200 := rfl
          have k3 : (19 - (19 : Int)).toNat = 0 := rfl
          rw [k1, k2, ev, k3, Nat.pow_zero, Nat.div_one, hmm.1, ten_pow 1200, Nat.mul_assoc]
        refine z_callvV (C := RX3) (n := 0) (As := []) (rest := []) (wr := []) (wn := (fun (u : (Nat → Int) × Int × Int) => [(h, .inr (3, [.ref hb, .int (zI u.2.1), .int (zI u.2.2), .ref ht, .int (zI len)])), (hb, .inl (cB, 1200, .inl (zA u.1))), (ht, .inl (cT, 420, .inl (zA tx)))])) S w (c_X3_trim l D cB cT h hb ht r1 i i tx len ((xM bz).toNat * 2 ^ (1200 + (0 : Int)).toNat * 5 ^ 1200) k5_ (by omega) (by omega)) gX3_spread_X3_trim (by decide +kernel) rfl ⟨rfl, rfl⟩ ⟨Nat.le_of_ble_eq_true rfl, Nat.le_of_ble_eq_true rfl⟩ [0, 1] [0, 1, 2] [] [0, 1, 2] rfl rfl rfl rfl rfl (by decide) (fun u => rfl) rfl rfl rfl rfl rfl hl.1 (Nat.le_of_ble_eq_true rfl) ⟨Nat.le_of_ble_eq_true rfl, Nat.le_of_ble_eq_true rfl⟩ rfl dX3_spread_96 (fun u H locs p96 w => ?_)
        obtain ⟨r96, n96, P96⟩ := u
        have p96 : mRep r96 n96 P96 ((xM bz).toNat * 2 ^ (1200 + (0 : Int)).toNat * 5 ^ 1200) ∧ n96 ≤ i ∧ (n96 - P96 ≤ i - i ∨ n96 - P96 = 0) ∧ (P96 ≤ i ∨ P96 = 0) := p96
        have w : zW D _ _ s [(h, .inr (3, [.ref hb, .int (zI n96), .int (zI P96), .ref ht, .int (zI len)])), (hb, .inl (cB, 1200, .inl (zA r96))), (ht, .inl (cT, 420, .inl (zA tx)))] H locs := w
        obtain ⟨a1, a2, a3, a4⟩ := p96
        have a5 := a1.2.1
        refine lv_iload_n S.1 S.2.1 dX3_spread_99 rfl (lv_at hl 1 rfl) ?_
        refine z_if_ne (tgt := 109) S dX3_spread_100 (by decide) (by omega) (fun h100 => ?_) (fun h100 => ?_)
        · skip
          refine lv_iload_n S.1 S.2.1 dX3_spread_109 rfl (lv_at hl 1 rfl) ?_
          refine z_sipush S dX3_spread_110 (by decide +kernel) ?_
          refine z_isub S dX3_spread_113 ?_
          refine lv_istore (lv' := [(6, .int (zI ((xE bz) - 1075))), (0, .ref h), (3, .int (zI (xE bz))), (4, .long (lI mm))]) S.1 S.2.1 dX3_spread_114 hl (by decide) rfl (fun ls hl => ?_)
          refine z_iconst S dX3_spread_116 ?_
          refine lv_istore (lv' := [(7, .int (zI 0)), (6, .int (zI ((xE bz) - 1075))), (0, .ref h), (3, .int (zI (xE bz))), (4, .long (lI mm))]) S.1 S.2.1 dX3_spread_117 hl (by decide) rfl (fun ls hl => ?_)
          exact lab119 _ r96 n96 P96 ((xE bz) - 1075) 0 (Nat.lt_succ_self _) (by unfold xP; first | (rw [if_pos (by omega)]; omega) | (rw [if_neg (by omega)]; omega)) (by omega) a1 (by omega) _ _ _ w (lv_sub hl [2, 1, 0] rfl)
        · skip
          refine z_sipush S dX3_spread_103 (by decide +kernel) ?_
          refine lv_goto (tgt := 114) S.1 S.2.1 dX3_spread_106 (by decide) ?_
          refine lv_istore (lv' := [(6, .int (zI (-1074))), (0, .ref h), (3, .int (zI (xE bz))), (4, .long (lI mm))]) S.1 S.2.1 dX3_spread_114 hl (by decide) rfl (fun ls hl => ?_)
          refine z_iconst S dX3_spread_116 ?_
          refine lv_istore (lv' := [(7, .int (zI 0)), (6, .int (zI (-1074))), (0, .ref h), (3, .int (zI (xE bz))), (4, .long (lI mm))]) S.1 S.2.1 dX3_spread_117 hl (by decide) rfl (fun ls hl => ?_)
          exact lab119 _ r96 n96 P96 (-1074) 0 (Nat.lt_succ_self _) (by unfold xP; first | (rw [if_pos (by omega)]; omega) | (rw [if_neg (by omega)]; omega)) (by omega) a1 (by omega) _ _ _ w (lv_sub hl [2, 1, 0] rfl)
      · skip
        have hi9 : i < 19 ∧ un = ((10 ^ (18 - i).toNat : Nat) : Int) := by
          rcases hu1 with q | q
          · exact q
          · omega
        obtain ⟨dv, hdv⟩ : ∃ d : Nat, mm.toNat / 10 ^ (18 - i).toNat = d := ⟨_, rfl⟩
        have hq1 : mm / un = (dv : Int) := by
          rw [hi9.2, ← hdv, Int.natCast_ediv]
          congr 1; omega
        have hq2 : dv ≤ 9007199254740992 := by
          have := Nat.div_le_self mm.toNat (10 ^ (18 - i).toNat)
          omega
        refine lv_aload_n S.1 S.2.1 dX3_spread_46 rfl (lv_at hl 0 rfl) ?_
        refine z_get (ci := 3) (C := RX3) (T := TX3) (N := 5) S w 0 rfl rfl in_X3_spread_X3 0 (by decide) ln_X3_spread_7 rfl rfl dX3_spread_47 ?_
        refine lv_aload_n S.1 S.2.1 dX3_spread_50 rfl (lv_at hl 0 rfl) ?_
        refine z_get (ci := 3) (C := RX3) (T := TX3) (N := 5) S w 0 rfl rfl in_X3_spread_X3 1 (by decide) ln_X3_spread_23 rfl rfl dX3_spread_51 ?_
        refine lv_lload S.1 S.2.1 dX3_spread_54 (lv_at hl 2 rfl) ?_
        refine lv_lload S.1 S.2.1 dX3_spread_56 (lv_at hl 3 rfl) ?_
        refine z_ldiv S dX3_spread_58 (by omega) (by omega) ?_
        rw [hq1]
        refine z_ldc2 (v := 10) S 10 kl_X3_spread_29 (by decide +kernel) dX3_spread_59 ?_
        refine z_lrem S dX3_spread_62 (by omega) (by omega) ?_
        refine z_l2i S dX3_spread_63 ?_
        refine z_i2b S dX3_spread_64 (by omega) ?_
        refine z_bast S w 1 0 rfl rfl (by omega) (by decide) (by omega) dX3_spread_65 (fun H locs w => ?_)
        have w : zW D _ _ s [(h, .inr (3, [.ref hb, .int (zI i), .int (zI P), .ref ht, .int (zI len)])), (hb, .inl (cB, 1200, .inl (zA (zu r1 i.toNat ((dv : Int) % 10))))), (ht, .inl (cT, 420, .inl (zA tx)))] H locs := w
        refine lv_aload_n S.1 S.2.1 dX3_spread_66 rfl (lv_at hl 0 rfl) ?_
        refine lv_aload_n S.1 S.2.1 dX3_spread_67 rfl (lv_at hl 0 rfl) ?_
        refine z_get (ci := 3) (C := RX3) (T := TX3) (N := 5) S w 0 rfl rfl in_X3_spread_X3 1 (by decide) ln_X3_spread_23 rfl rfl dX3_spread_68 ?_
        refine z_iconst S dX3_spread_71 ?_
        refine z_iadd S dX3_spread_72 ?_
        refine z_put (ci := 3) (C := RX3) (T := TX3) (N := 5) S w 0 rfl rfl in_X3_spread_X3 tyX3_ok nmX3 1 (by decide) ln_X3_spread_23 rfl rfl rfl rfl (Nat.le_of_ble_eq_true rfl) dX3_spread_73 (fun H locs w => ?_)
        have w : zW D _ _ s [(h, .inr (3, [.ref hb, .int (zI (i + 1)), .int (zI P), .ref ht, .int (zI len)])), (hb, .inl (cB, 1200, .inl (zA (zu r1 i.toNat ((dv : Int) % 10))))), (ht, .inl (cT, 420, .inl (zA tx)))] H locs := w
        refine lv_lload S.1 S.2.1 dX3_spread_76 (lv_at hl 3 rfl) ?_
        refine z_ldc2 (v := 10) S 10 kl_X3_spread_29 (by decide +kernel) dX3_spread_78 ?_
        refine z_ldiv S dX3_spread_81 (by omega) (by omega) ?_
        refine lv_lstore (lv' := [(6, .long (lI (un / 10))), (0, .ref h), (3, .int (zI (xE bz))), (4, .long (lI mm))]) S.1 S.2.1 dX3_spread_82 hl (by decide) rfl (fun ls hl => ?_)
        refine lv_goto (tgt := 39) S.1 S.2.1 dX3_spread_84 (by decide) ?_
        have k6_ : ((i + 1) < 19 ∧ (un / 10) = ((10 ^ (18 - (i + 1)).toNat : Nat) : Int)) ∨ ((i + 1) = 19 ∧ (un / 10) = 0) := by
          by_cases q : i = 18
          · right
            have q1 : un = 1 := by rw [hi9.2, q]; rfl
            omega
          · left
            refine ⟨by omega, ?_⟩
            have q1 : (18 - i).toNat = (18 - (i + 1)).toNat + 1 := by omega
            rw [hi9.2, q1, Nat.pow_succ]; omega
        have k7_ : ∀ j : Nat, (j : Int) < (i + 1) → 0 ≤ (zu r1 i.toNat ((dv : Int) % 10)) j ∧ (zu r1 i.toNat ((dv : Int) % 10)) j ≤ 9 := by
          intro j q
          by_cases q1 : (j : Int) = i
          · have q2 : i.toNat = j := by omega
            rw [q2, zu_s]; omega
          · rw [zu_n _ _ (by omega)]; exact e1 j (by omega)
        have k8_ : hv (zu r1 i.toNat ((dv : Int) % 10)) (i + 1).toNat = mm.toNat / 10 ^ (19 - (i + 1)).toNat := by
          have q1 : (i + 1).toNat = i.toNat + 1 := by omega
          have q2 : (19 - i).toNat = (18 - i).toNat + 1 := by omega
          have q3 : (19 - (i + 1)).toNat = (18 - i).toNat := by omega
          rw [q1, hv, zu_s, hv_congr (t := r1) (k := i.toNat) (fun j q => zu_n _ _ (by omega)), ev, q2, Nat.pow_succ, ← Nat.div_div_eq_div_mul, q3, hdv]
          omega
        exact ih (zu r1 i.toNat ((dv : Int) % 10)) (i + 1) (un / 10) mm (by omega) hmm (by omega) k6_ (by omega) k7_ k8_ _ _ _ w (lv_sub hl [1, 2, 3, 0] rfl)
  have lab29 : ∀ (mm : Int), (mm = xM bz ∧ 0 ≤ mm ∧ mm < 9007199254740992) → ∀ (H : Heap) (locs : List Loc) (ls : Array Slot), zW D [(cB, .byte), (cT, .int)] (va_A [(h, .inr (3, [.ref hb, .int (zI n), .int (zI P), .ref ht, .int (zI len)])), (hb, .inl (cB, 1200, .inl (zA r))), (ht, .inl (cT, 420, .inl (zA tx)))] s.heap.size) s [(h, .inr (3, [.ref hb, .int (zI n), .int (zI P), .ref ht, .int (zI len)])), (hb, .inl (cB, 1200, .inl (zA r))), (ht, .inl (cT, 420, .inl (zA tx)))] H locs → lv_has ls 8 [(0, .ref h), (3, .int (zI (xE bz))), (4, .long (lI mm))] → W p l e ({ frames := 2, cells := 0, slots := 0, locals := 45 } : Room) s m ([.ref h, .long (lI bz)] : List Value).toArray below meth c H locs 0 0 (MQ below (zQv D [(cB, .byte), (cT, .int)] [(h, .inr (3, [.ref hb, .int (zI n), .int (zI P), .ref ht, .int (zI len)])), (hb, .inl (cB, 1200, .inl (zA r))), (ht, .inl (cT, 420, .inl (zA tx)))] s.heap.size (fun (u : (Nat → Int) × Int × Int) => mRep u.1 u.2.1 u.2.2 (xX bz) ∧ u.2.1 ≤ 1190 ∧ (-1200 ≤ u.2.2 ∧ u.2.2 ≤ 1100)) (fun (u : (Nat → Int) × Int × Int) => [(h, .inr (3, [.ref hb, .int (zI u.2.1), .int (zI u.2.2), .ref ht, .int (zI len)])), (hb, .inl (cB, 1200, .inl (zA u.1))), (ht, .inl (cT, 420, .inl (zA tx)))])) ([.ref h, .long (lI bz)] : List Value).toArray s 0 0 (va_A [(h, .inr (3, [.ref hb, .int (zI n), .int (zI P), .ref ht, .int (zI len)])), (hb, .inl (cB, 1200, .inl (zA r))), (ht, .inl (cT, 420, .inl (zA tx)))] s.heap.size)) (F0 m 29 ls []) := by
    intro mm hmm H locs ls w hl
    refine lv_aload_n S.1 S.2.1 dX3_spread_29 rfl (lv_at hl 0 rfl) ?_
    refine z_iconst S dX3_spread_30 ?_
    refine z_put (ci := 3) (C := RX3) (T := TX3) (N := 5) S w 0 rfl rfl in_X3_spread_X3 tyX3_ok nmX3 1 (by decide) ln_X3_spread_23 rfl rfl rfl rfl (Nat.le_of_ble_eq_true rfl) dX3_spread_31 (fun H locs w => ?_)
    have w : zW D _ _ s [(h, .inr (3, [.ref hb, .int (zI 0), .int (zI P), .ref ht, .int (zI len)])), (hb, .inl (cB, 1200, .inl (zA r))), (ht, .inl (cT, 420, .inl (zA tx)))] H locs := w
    refine z_ldc2 (v := 1000000000000000000) S 1000000000000000000 kl_X3_spread_27 (by decide +kernel) dX3_spread_34 ?_
    refine lv_lstore (lv' := [(6, .long (lI 1000000000000000000)), (0, .ref h), (3, .int (zI (xE bz))), (4, .long (lI mm))]) S.1 S.2.1 dX3_spread_37 hl (by decide) rfl (fun ls hl => ?_)
    exact lab39 _ r (0 : Int) 1000000000000000000 mm (Nat.lt_succ_self _) hmm (by omega) (Or.inl ⟨by omega, rfl⟩) (by omega) (fun j q => by omega) (by show 0 = mm.toNat / 10 ^ 19; rw [Nat.div_eq_of_lt (by omega)]) _ _ _ w (lv_sub hl [1, 2, 3, 0] rfl)
  have hl : lv_has ls 8 [(0, .ref h), (1, .long (lI bz))] := hl
  have hE : 0 ≤ xE bz ∧ xE bz < 2048 := by unfold xE; omega
  refine lv_lload_n S.1 S.2.1 dX3_spread_0 rfl (lv_at hl 1 rfl) ?_
  refine z_bipush S dX3_spread_1 (by decide +kernel) ?_
  refine z_lshr S dX3_spread_3 (v := (bz / 4503599627370496)) (lI_s52 hbz) ?_
  refine z_ldc2 (v := 2047) S 2047 kl_X3_spread_17 (by decide +kernel) dX3_spread_4 ?_
  refine z_land S dX3_spread_7 (v := (xE bz)) (lI_m11 _) ?_
  refine z_l2i S dX3_spread_8 ?_
  refine lv_istore_n (lv' := [(3, .int (zI (xE bz))), (0, .ref h), (1, .long (lI bz))]) S.1 S.2.1 dX3_spread_9 rfl hl (by decide) rfl (fun ls hl => ?_)
  refine lv_lload_n S.1 S.2.1 dX3_spread_10 rfl (lv_at hl 2 rfl) ?_
  refine z_ldc2 (v := 4503599627370495) S 4503599627370495 kl_X3_spread_19 (by decide +kernel) dX3_spread_11 ?_
  refine z_land S dX3_spread_14 (v := (bz % 4503599627370496)) (lI_m52 bz) ?_
  refine lv_lstore (lv' := [(4, .long (lI (bz % 4503599627370496))), (3, .int (zI (xE bz))), (0, .ref h), (1, .long (lI bz))]) S.1 S.2.1 dX3_spread_15 hl (by decide) rfl (fun ls hl => ?_)
  refine lv_iload_n S.1 S.2.1 dX3_spread_17 rfl (lv_at hl 1 rfl) ?_
  refine z_if_le (tgt := 29) S dX3_spread_18 (by decide) (by omega) (fun h18 => ?_) (fun h18 => ?_)
  · skip
    exact lab29 (bz % 4503599627370496) (by unfold xM; rw [if_pos (by omega)]; omega) _ _ _ w (lv_sub hl [2, 1, 0] rfl)
  · skip
    refine lv_lload S.1 S.2.1 dX3_spread_21 (lv_at hl 0 rfl) ?_
    refine z_ldc2 (v := 4503599627370496) S 4503599627370496 kl_X3_spread_21 (by decide +kernel) dX3_spread_23 ?_
    refine z_ladd S dX3_spread_26 ?_
    refine lv_lstore (lv' := [(4, .long (lI ((bz % 4503599627370496) + 4503599627370496))), (3, .int (zI (xE bz))), (0, .ref h), (1, .long (lI bz))]) S.1 S.2.1 dX3_spread_27 hl (by decide) rfl (fun ls hl => ?_)
    exact lab29 ((bz % 4503599627370496) + 4503599627370496) (by unfold xM; rw [if_neg (by omega)]; omega) _ _ _ w (lv_sub hl [2, 1, 0] rfl)
end
section
set_option maxRecDepth 20000 in
theorem ln_X3_put_13 : Cond.fieldLink RX3 13 "DecimalTextModel" "text" "[I" ∈ wsX3_put := by decide +kernel
theorem in_X3_put_X3 : ∀ w ∈ u_ws RX3 TX3 5, w ∈ wsX3_put := by decide +kernel
set_option maxRecDepth 20000 in
theorem ln_X3_put_43 : Cond.fieldLink RX3 43 "DecimalTextModel" "length" "I" ∈ wsX3_put := by decide +kernel
set_option maxHeartbeats 4000000 in
set_option maxRecDepth 100000 in
theorem c_X3_put (l : Launch) (D : va_G) (cB cT : ClassId) (h : Nat) (hb : Nat) (ht : Nat) (r : Nat → Int) (n : Int) (P : Int) (tx : Nat → Int) (len : Int) (x : Int) (hlen : 0 ≤ len ∧ len < 420) : zMv (T := (Nat → Int) × Int) l yX3_put wsX3_put ({ frames := 0, cells := 0, slots := 0, locals := 0 } : Room) D [(cB, .byte), (cT, .int)] [.ref h, .int (zI x)] [(h, .inr (3, [.ref hb, .int (zI n), .int (zI P), .ref ht, .int (zI len)])), (hb, .inl (cB, 1200, .inl (zA r))), (ht, .inl (cT, 420, .inl (zA tx)))] (fun (u : (Nat → Int) × Int) => u.1 = zu tx len.toNat x ∧ u.2 = len + 1) (fun (u : (Nat → Int) × Int) => [(h, .inr (3, [.ref hb, .int (zI n), .int (zI P), .ref ht, .int (zI u.2)])), (hb, .inl (cB, 1200, .inl (zA r))), (ht, .inl (cT, 420, .inl (zA u.1)))]) 0 0 := by
  refine zMv.of (bytes := cX3_put) (nL := 2) (own := RX3) (by decide) rfl rfl (Nat.le_of_ble_eq_true rfl) ?_
  intro p e s m below meth c ls S hr hlk hnm w hl
  have hl : lv_has ls 2 [(0, .ref h), (1, .int (zI x))] := hl
  refine lv_aload_n S.1 S.2.1 dX3_put_0 rfl (lv_at hl 0 rfl) ?_
  refine z_get (ci := 3) (C := RX3) (T := TX3) (N := 5) S w 0 rfl rfl in_X3_put_X3 3 (by decide) ln_X3_put_13 rfl rfl dX3_put_1 ?_
  refine lv_aload_n S.1 S.2.1 dX3_put_4 rfl (lv_at hl 0 rfl) ?_
  refine z_get (ci := 3) (C := RX3) (T := TX3) (N := 5) S w 0 rfl rfl in_X3_put_X3 4 (by decide) ln_X3_put_43 rfl rfl dX3_put_5 ?_
  refine lv_iload_n S.1 S.2.1 dX3_put_8 rfl (lv_at hl 1 rfl) ?_
  refine z_iast S w 2 1 rfl rfl (by omega) (by decide) dX3_put_9 (fun H locs w => ?_)
  have w : zW D _ _ s [(h, .inr (3, [.ref hb, .int (zI n), .int (zI P), .ref ht, .int (zI len)])), (hb, .inl (cB, 1200, .inl (zA r))), (ht, .inl (cT, 420, .inl (zA (zu tx len.toNat x))))] H locs := w
  refine lv_aload_n S.1 S.2.1 dX3_put_10 rfl (lv_at hl 0 rfl) ?_
  refine lv_aload_n S.1 S.2.1 dX3_put_11 rfl (lv_at hl 0 rfl) ?_
  refine z_get (ci := 3) (C := RX3) (T := TX3) (N := 5) S w 0 rfl rfl in_X3_put_X3 4 (by decide) ln_X3_put_43 rfl rfl dX3_put_12 ?_
  refine z_iconst S dX3_put_15 ?_
  refine z_iadd S dX3_put_16 ?_
  refine z_put (ci := 3) (C := RX3) (T := TX3) (N := 5) S w 0 rfl rfl in_X3_put_X3 tyX3_ok nmX3 4 (by decide) ln_X3_put_43 rfl rfl rfl rfl (Nat.le_of_ble_eq_true rfl) dX3_put_17 (fun H locs w => ?_)
  have w : zW D _ _ s [(h, .inr (3, [.ref hb, .int (zI n), .int (zI P), .ref ht, .int (zI (len + 1))])), (hb, .inl (cB, 1200, .inl (zA r))), (ht, .inl (cT, 420, .inl (zA (zu tx len.toNat x))))] H locs := w
  exact z_vret S hr hlk w (zu tx len.toNat x, len + 1) ⟨rfl, rfl⟩ rfl dX3_put_20

set_option maxRecDepth 20000 in
theorem ln_X3_digit_23 : Cond.fieldLink RX3 23 "DecimalTextModel" "digits" "I" ∈ wsX3_digit := by decide +kernel
theorem in_X3_digit_X3 : ∀ w ∈ u_ws RX3 TX3 5, w ∈ wsX3_digit := by decide +kernel
set_option maxRecDepth 20000 in
theorem ln_X3_digit_7 : Cond.fieldLink RX3 7 "DecimalTextModel" "row" "[B" ∈ wsX3_digit := by decide +kernel
set_option maxHeartbeats 4000000 in
set_option maxRecDepth 100000 in
theorem c_X3_digit (l : Launch) (D : va_G) (cB cT : ClassId) (h : Nat) (hb : Nat) (ht : Nat) (r : Nat → Int) (n : Int) (P : Int) (tx : Nat → Int) (len : Int) (k : Int) (hn : 0 ≤ n ∧ n ≤ 1200) (hk : -2147483648 ≤ k ∧ k ≤ 2147483647) : zMi (T := Unit) l yX3_digit wsX3_digit ({ frames := 0, cells := 0, slots := 0, locals := 0 } : Room) D [(cB, .byte), (cT, .int)] [.ref h, .int (zI k)] [(h, .inr (3, [.ref hb, .int (zI n), .int (zI P), .ref ht, .int (zI len)])), (hb, .inl (cB, 1200, .inl (zA r))), (ht, .inl (cT, 420, .inl (zA tx)))] (fun (z : Int) (u : Unit) => z = mD r n k) (fun (u : Unit) => [(h, .inr (3, [.ref hb, .int (zI n), .int (zI P), .ref ht, .int (zI len)])), (hb, .inl (cB, 1200, .inl (zA r))), (ht, .inl (cT, 420, .inl (zA tx)))]) 0 0 := by
  refine zMi.of (bytes := cX3_digit) (nL := 2) (own := RX3) (by decide) rfl rfl (Nat.le_of_ble_eq_true rfl) ?_
  intro p e s m below meth c ls S hr hlk hnm w hl
  have hl : lv_has ls 2 [(0, .ref h), (1, .int (zI k))] := hl
  refine lv_iload_n S.1 S.2.1 dX3_digit_0 rfl (lv_at hl 1 rfl) ?_
  refine z_if_lt (tgt := 21) S dX3_digit_1 (by decide) (by omega) (fun h1 => ?_) (fun h1 => ?_)
  · skip
    refine z_iconst S dX3_digit_21 ?_
    have k1_ : (0 : Int) = mD r n k := by
      unfold mD; rw [if_neg (by omega)]
    exact z_iret S hr hlk w (zNar_int _) () k1_ rfl dX3_digit_22
  · skip
    refine lv_iload_n S.1 S.2.1 dX3_digit_4 rfl (lv_at hl 1 rfl) ?_
    refine lv_aload_n S.1 S.2.1 dX3_digit_5 rfl (lv_at hl 0 rfl) ?_
    refine z_get (ci := 3) (C := RX3) (T := TX3) (N := 5) S w 0 rfl rfl in_X3_digit_X3 1 (by decide) ln_X3_digit_23 rfl rfl dX3_digit_6 ?_
    refine z_icmp_ge (tgt := 21) S dX3_digit_9 (by decide) (by omega) (by omega) (fun h9 => ?_) (fun h9 => ?_)
    · skip
      refine z_iconst S dX3_digit_21 ?_
      have k2_ : (0 : Int) = mD r n k := by
        unfold mD; rw [if_neg (by omega)]
      exact z_iret S hr hlk w (zNar_int _) () k2_ rfl dX3_digit_22
    · skip
      refine lv_aload_n S.1 S.2.1 dX3_digit_12 rfl (lv_at hl 0 rfl) ?_
      refine z_get (ci := 3) (C := RX3) (T := TX3) (N := 5) S w 0 rfl rfl in_X3_digit_X3 0 (by decide) ln_X3_digit_7 rfl rfl dX3_digit_13 ?_
      refine lv_iload_n S.1 S.2.1 dX3_digit_16 rfl (lv_at hl 1 rfl) ?_
      refine z_bald S w 1 0 rfl rfl (by omega) (by decide) dX3_digit_17 ?_
      refine lv_goto (tgt := 22) S.1 S.2.1 dX3_digit_18 (by decide) ?_
      have k3_ : (r k.toNat : Int) = mD r n k := by
        unfold mD; rw [if_pos (by omega)]
      exact z_iret S hr hlk w (zNar_int _) () k3_ rfl dX3_digit_22

set_option maxRecDepth 20000 in
theorem ln_X3_at_43 : Cond.fieldLink RX3 43 "DecimalTextModel" "length" "I" ∈ wsX3_at := by decide +kernel
theorem in_X3_at_X3 : ∀ w ∈ u_ws RX3 TX3 5, w ∈ wsX3_at := by decide +kernel
set_option maxRecDepth 20000 in
theorem ln_X3_at_13 : Cond.fieldLink RX3 13 "DecimalTextModel" "text" "[I" ∈ wsX3_at := by decide +kernel
set_option maxHeartbeats 4000000 in
set_option maxRecDepth 100000 in
theorem c_X3_at (l : Launch) (D : va_G) (cB cT : ClassId) (h : Nat) (hb : Nat) (ht : Nat) (r : Nat → Int) (n : Int) (P : Int) (tx : Nat → Int) (len : Int) (i : Int) (hlen : 0 ≤ len ∧ len ≤ 420) (hi : -2147483648 ≤ i ∧ i ≤ 2147483647) : zMi (T := Unit) l yX3_at wsX3_at ({ frames := 0, cells := 0, slots := 0, locals := 0 } : Room) D [(cB, .byte), (cT, .int)] [.ref h, .int (zI i)] [(h, .inr (3, [.ref hb, .int (zI n), .int (zI P), .ref ht, .int (zI len)])), (hb, .inl (cB, 1200, .inl (zA r))), (ht, .inl (cT, 420, .inl (zA tx)))] (fun (z : Int) (u : Unit) => z = (if 0 ≤ i ∧ i < len then tx i.toNat else -1)) (fun (u : Unit) => [(h, .inr (3, [.ref hb, .int (zI n), .int (zI P), .ref ht, .int (zI len)])), (hb, .inl (cB, 1200, .inl (zA r))), (ht, .inl (cT, 420, .inl (zA tx)))]) 0 0 := by
  refine zMi.of (bytes := cX3_at) (nL := 2) (own := RX3) (by decide) rfl rfl (Nat.le_of_ble_eq_true rfl) ?_
  intro p e s m below meth c ls S hr hlk hnm w hl
  have hl : lv_has ls 2 [(0, .ref h), (1, .int (zI i))] := hl
  refine lv_iload_n S.1 S.2.1 dX3_at_0 rfl (lv_at hl 1 rfl) ?_
  refine z_if_lt (tgt := 21) S dX3_at_1 (by decide) (by omega) (fun h1 => ?_) (fun h1 => ?_)
  · skip
    refine z_iconst S dX3_at_21 ?_
    have k1_ : ((-1) : Int) = (if 0 ≤ i ∧ i < len then tx i.toNat else -1) := by
      rw [if_neg (by omega)]
    exact z_iret S hr hlk w (zNar_int _) () k1_ rfl dX3_at_22
  · skip
    refine lv_iload_n S.1 S.2.1 dX3_at_4 rfl (lv_at hl 1 rfl) ?_
    refine lv_aload_n S.1 S.2.1 dX3_at_5 rfl (lv_at hl 0 rfl) ?_
    refine z_get (ci := 3) (C := RX3) (T := TX3) (N := 5) S w 0 rfl rfl in_X3_at_X3 4 (by decide) ln_X3_at_43 rfl rfl dX3_at_6 ?_
    refine z_icmp_ge (tgt := 21) S dX3_at_9 (by decide) (by omega) (by omega) (fun h9 => ?_) (fun h9 => ?_)
    · skip
      refine z_iconst S dX3_at_21 ?_
      have k2_ : ((-1) : Int) = (if 0 ≤ i ∧ i < len then tx i.toNat else -1) := by
        rw [if_neg (by omega)]
      exact z_iret S hr hlk w (zNar_int _) () k2_ rfl dX3_at_22
    · skip
      refine lv_aload_n S.1 S.2.1 dX3_at_12 rfl (lv_at hl 0 rfl) ?_
      refine z_get (ci := 3) (C := RX3) (T := TX3) (N := 5) S w 0 rfl rfl in_X3_at_X3 3 (by decide) ln_X3_at_13 rfl rfl dX3_at_13 ?_
      refine lv_iload_n S.1 S.2.1 dX3_at_16 rfl (lv_at hl 1 rfl) ?_
      refine z_iald S w 2 1 rfl rfl (by omega) (by decide) dX3_at_17 ?_
      refine lv_goto (tgt := 22) S.1 S.2.1 dX3_at_18 (by decide) ?_
      have k3_ : (tx i.toNat : Int) = (if 0 ≤ i ∧ i < len then tx i.toNat else -1) := by
        rw [if_pos (by omega)]
      exact z_iret S hr hlk w (zNar_int _) () k3_ rfl dX3_at_22

set_option maxRecDepth 20000 in
theorem kl_X3_infinite_17 : Cond.constantLong RX3 17 (2047) ∈ wsX3_infinite := by decide +kernel
set_option maxRecDepth 20000 in
theorem kl_X3_infinite_19 : Cond.constantLong RX3 19 (4503599627370495) ∈ wsX3_infinite := by decide +kernel
set_option maxHeartbeats 4000000 in
set_option maxRecDepth 100000 in
theorem c_X3_infinite (l : Launch) (D : va_G) (bz : Int) (hbz : -9223372036854775808 ≤ bz ∧ bz ≤ 9223372036854775807) : zMi (T := Unit) l yX3_infinite wsX3_infinite ({ frames := 0, cells := 0, slots := 0, locals := 0 } : Room) D [] [.long (lI bz)] [] (fun (z : Int) (u : Unit) => (z = 1 ∧ (xE bz = 2047 ∧ bz % 4503599627370496 = 0)) ∨ (z = 0 ∧ ¬ (xE bz = 2047 ∧ bz % 4503599627370496 = 0))) (fun (u : Unit) => []) 0 0 := by
  refine zMi.of (bytes := cX3_infinite) (nL := 2) (own := RX3) (by decide) rfl rfl (Nat.le_of_ble_eq_true rfl) ?_
  intro p e s m below meth c ls S hr hlk hnm w hl
  have hl : lv_has ls 2 [(0, .long (lI bz))] := hl
  have hE : 0 ≤ xE bz ∧ xE bz < 2048 := by unfold xE; omega
  refine lv_lload_n S.1 S.2.1 dX3_infinite_0 rfl (lv_at hl 0 rfl) ?_
  refine z_bipush S dX3_infinite_1 (by decide +kernel) ?_
  refine z_lshr S dX3_infinite_3 (v := (bz / 4503599627370496)) (lI_s52 hbz) ?_
  refine z_ldc2 (v := 2047) S 2047 kl_X3_infinite_17 (by decide +kernel) dX3_infinite_4 ?_
  refine z_land S dX3_infinite_7 (v := (xE bz)) (lI_m11 _) ?_
  refine z_ldc2 (v := 2047) S 2047 kl_X3_infinite_17 (by decide +kernel) dX3_infinite_8 ?_
  refine z_lcmp S dX3_infinite_11 (by omega) (by omega) (fun c11 hc11 => ?_)
  refine z_if_ne (tgt := 29) S dX3_infinite_12 (by decide) (by omega) (fun h12 => ?_) (fun h12 => ?_)
  · skip
    refine z_iconst S dX3_infinite_29 ?_
    have k1_ : ((0 : Int) = 1 ∧ (xE bz = 2047 ∧ bz % 4503599627370496 = 0)) ∨ ((0 : Int) = 0 ∧ ¬ (xE bz = 2047 ∧ bz % 4503599627370496 = 0)) := by
      omega
    exact z_iret S hr hlk w zNar_b0 () k1_ rfl dX3_infinite_30
  · skip
    refine lv_lload_n S.1 S.2.1 dX3_infinite_15 rfl (lv_at hl 0 rfl) ?_
    refine z_ldc2 (v := 4503599627370495) S 4503599627370495 kl_X3_infinite_19 (by decide +kernel) dX3_infinite_16 ?_
    refine z_land S dX3_infinite_19 (v := (bz % 4503599627370496)) (lI_m52 bz) ?_
    refine z_lconst (z := 0) S dX3_infinite_20 (by decide +kernel) ?_
    refine z_lcmp S dX3_infinite_21 (by omega) (by omega) (fun c21 hc21 => ?_)
    refine z_if_ne (tgt := 29) S dX3_infinite_22 (by decide) (by omega) (fun h22 => ?_) (fun h22 => ?_)
    · skip
      refine z_iconst S dX3_infinite_29 ?_
      have k2_ : ((0 : Int) = 1 ∧ (xE bz = 2047 ∧ bz % 4503599627370496 = 0)) ∨ ((0 : Int) = 0 ∧ ¬ (xE bz = 2047 ∧ bz % 4503599627370496 = 0)) := by
        omega
      exact z_iret S hr hlk w zNar_b0 () k2_ rfl dX3_infinite_30
    · skip
      refine z_iconst S dX3_infinite_25 ?_
      refine lv_goto (tgt := 30) S.1 S.2.1 dX3_infinite_26 (by decide) ?_
      have k3_ : ((1 : Int) = 1 ∧ (xE bz = 2047 ∧ bz % 4503599627370496 = 0)) ∨ ((1 : Int) = 0 ∧ ¬ (xE bz = 2047 ∧ bz % 4503599627370496 = 0)) := by
        omega
      exact z_iret S hr hlk w zNar_b1 () k3_ rfl dX3_infinite_30

set_option maxRecDepth 20000 in
theorem kl_X3_none_17 : Cond.constantLong RX3 17 (2047) ∈ wsX3_none := by decide +kernel
set_option maxRecDepth 20000 in
theorem kl_X3_none_19 : Cond.constantLong RX3 19 (4503599627370495) ∈ wsX3_none := by decide +kernel
set_option maxHeartbeats 4000000 in
set_option maxRecDepth 100000 in
theorem c_X3_none (l : Launch) (D : va_G) (bz : Int) (hbz : -9223372036854775808 ≤ bz ∧ bz ≤ 9223372036854775807) : zMi (T := Unit) l yX3_none wsX3_none ({ frames := 0, cells := 0, slots := 0, locals := 0 } : Room) D [] [.long (lI bz)] [] (fun (z : Int) (u : Unit) => (z = 1 ∧ (xE bz = 2047 ∧ bz % 4503599627370496 ≠ 0)) ∨ (z = 0 ∧ ¬ (xE bz = 2047 ∧ bz % 4503599627370496 ≠ 0))) (fun (u : Unit) => []) 0 0 := by
  refine zMi.of (bytes := cX3_none) (nL := 2) (own := RX3) (by decide) rfl rfl (Nat.le_of_ble_eq_true rfl) ?_
  intro p e s m below meth c ls S hr hlk hnm w hl
  have hl : lv_has ls 2 [(0, .long (lI bz))] := hl
  have hE : 0 ≤ xE bz ∧ xE bz < 2048 := by unfold xE; omega
  refine lv_lload_n S.1 S.2.1 dX3_none_0 rfl (lv_at hl 0 rfl) ?_
  refine z_bipush S dX3_none_1 (by decide +kernel) ?_
  refine z_lshr S dX3_none_3 (v := (bz / 4503599627370496)) (lI_s52 hbz) ?_
  refine z_ldc2 (v := 2047) S 2047 kl_X3_none_17 (by decide +kernel) dX3_none_4 ?_
  refine z_land S dX3_none_7 (v := (xE bz)) (lI_m11 _) ?_
  refine z_ldc2 (v := 2047) S 2047 kl_X3_none_17 (by decide +kernel) dX3_none_8 ?_
  refine z_lcmp S dX3_none_11 (by omega) (by omega) (fun c11 hc11 => ?_)
  refine z_if_ne (tgt := 29) S dX3_none_12 (by decide) (by omega) (fun h12 => ?_) (fun h12 => ?_)
  · skip
    refine z_iconst S dX3_none_29 ?_
    have k1_ : ((0 : Int) = 1 ∧ (xE bz = 2047 ∧ bz % 4503599627370496 ≠ 0)) ∨ ((0 : Int) = 0 ∧ ¬ (xE bz = 2047 ∧ bz % 4503599627370496 ≠ 0)) := by
      omega
    exact z_iret S hr hlk w zNar_b0 () k1_ rfl dX3_none_30
  · skip
    refine lv_lload_n S.1 S.2.1 dX3_none_15 rfl (lv_at hl 0 rfl) ?_
    refine z_ldc2 (v := 4503599627370495) S 4503599627370495 kl_X3_none_19 (by decide +kernel) dX3_none_16 ?_
    refine z_land S dX3_none_19 (v := (bz % 4503599627370496)) (lI_m52 bz) ?_
    refine z_lconst (z := 0) S dX3_none_20 (by decide +kernel) ?_
    refine z_lcmp S dX3_none_21 (by omega) (by omega) (fun c21 hc21 => ?_)
    refine z_if_eq (tgt := 29) S dX3_none_22 (by decide) (by omega) (fun h22 => ?_) (fun h22 => ?_)
    · skip
      refine z_iconst S dX3_none_29 ?_
      have k2_ : ((0 : Int) = 1 ∧ (xE bz = 2047 ∧ bz % 4503599627370496 ≠ 0)) ∨ ((0 : Int) = 0 ∧ ¬ (xE bz = 2047 ∧ bz % 4503599627370496 ≠ 0)) := by
        omega
      exact z_iret S hr hlk w zNar_b0 () k2_ rfl dX3_none_30
    · skip
      refine z_iconst S dX3_none_25 ?_
      refine lv_goto (tgt := 30) S.1 S.2.1 dX3_none_26 (by decide) ?_
      have k3_ : ((1 : Int) = 1 ∧ (xE bz = 2047 ∧ bz % 4503599627370496 ≠ 0)) ∨ ((1 : Int) = 0 ∧ ¬ (xE bz = 2047 ∧ bz % 4503599627370496 ≠ 0)) := by
        omega
      exact z_iret S hr hlk w zNar_b1 () k3_ rfl dX3_none_30

set_option maxRecDepth 20000 in
theorem ln_X3_digits_23 : Cond.fieldLink RX3 23 "DecimalTextModel" "digits" "I" ∈ wsX3_digits := by decide +kernel
theorem in_X3_digits_X3 : ∀ w ∈ u_ws RX3 TX3 5, w ∈ wsX3_digits := by decide +kernel
set_option maxHeartbeats 4000000 in
set_option maxRecDepth 100000 in
theorem c_X3_digits (l : Launch) (D : va_G) (cB cT : ClassId) (h : Nat) (hb : Nat) (ht : Nat) (r : Nat → Int) (n : Int) (P : Int) (tx : Nat → Int) (len : Int) (bz : Int) (hbz : -9223372036854775808 ≤ bz ∧ bz ≤ 9223372036854775807) : zMi (T := (Nat → Int) × Int × Int) l yX3_digits wsX3_digits ({ frames := 3, cells := 0, slots := 0, locals := 72 } : Room) D [(cB, .byte), (cT, .int)] [.ref h, .long (lI bz)] [(h, .inr (3, [.ref hb, .int (zI n), .int (zI P), .ref ht, .int (zI len)])), (hb, .inl (cB, 1200, .inl (zA r))), (ht, .inl (cT, 420, .inl (zA tx)))] (fun (z : Int) (u : (Nat → Int) × Int × Int) => (xE bz = 2047 ∧ z = -1) ∨ (xE bz ≠ 2047 ∧ sgX (xX bz) z)) (fun (u : (Nat → Int) × Int × Int) => [(h, .inr (3, [.ref hb, .int (zI u.2.1), .int (zI u.2.2), .ref ht, .int (zI len)])), (hb, .inl (cB, 1200, .inl (zA u.1))), (ht, .inl (cT, 420, .inl (zA tx)))]) 0 0 := by
  refine zMi.of (bytes := cX3_digits) (nL := 3) (own := RX3) (by decide) rfl rfl (Nat.le_of_ble_eq_true rfl) ?_
  intro p e s m below meth c ls S hr hlk hnm w hl
  have hl : lv_has ls 3 [(0, .ref h), (1, .long (lI bz))] := hl
  refine lv_lload_n S.1 S.2.1 dX3_digits_0 rfl (lv_at hl 1 rfl) ?_
  refine z_calliS (n := 1) (As := [.long (lI bz)]) (rest := []) (wr := [(h, .inr (3, [.ref hb, .int (zI n), .int (zI P), .ref ht, .int (zI len)])), (hb, .inl (cB, 1200, .inl (zA r))), (ht, .inl (cT, 420, .inl (zA tx)))]) (wn := (fun (u : Unit) => [(h, .inr (3, [.ref hb, .int (zI n), .int (zI P), .ref ht, .int (zI len)])), (hb, .inl (cB, 1200, .inl (zA r))), (ht, .inl (cT, 420, .inl (zA tx)))])) S w (c_X3_infinite l D bz (by omega)) gX3_digits_X3_infinite (by decide +kernel) rfl ⟨rfl, rfl⟩ ⟨Nat.le_of_ble_eq_true rfl, Nat.le_of_ble_eq_true rfl⟩ [] [] [0, 1, 2] [0, 1, 2] rfl rfl rfl rfl rfl (by decide) (fun u => rfl) rfl rfl hl.1 (Nat.le_of_ble_eq_true rfl) ⟨Nat.le_of_ble_eq_true rfl, Nat.le_of_ble_eq_true rfl⟩ rfl dX3_digits_1 (fun z1 _ H locs p1 w => ?_)
  have p1 : (z1 = 1 ∧ (xE bz = 2047 ∧ bz % 4503599627370496 = 0)) ∨ (z1 = 0 ∧ ¬ (xE bz = 2047 ∧ bz % 4503599627370496 = 0)) := p1
  have w : zW D _ _ s [(h, .inr (3, [.ref hb, .int (zI n), .int (zI P), .ref ht, .int (zI len)])), (hb, .inl (cB, 1200, .inl (zA r))), (ht, .inl (cT, 420, .inl (zA tx)))] H locs := w
  refine z_if_ne (tgt := 14) S dX3_digits_4 (by decide) (by omega) (fun h4 => ?_) (fun h4 => ?_)
  · skip
    refine z_iconst S dX3_digits_14 ?_
    exact z_iret S hr hlk w (zNar_int _) (r, n, P) (Or.inl ⟨by omega, rfl⟩) rfl dX3_digits_15
  · skip
    refine lv_lload_n S.1 S.2.1 dX3_digits_7 rfl (lv_at hl 1 rfl) ?_
    refine z_calliS (n := 1) (As := [.long (lI bz)]) (rest := []) (wr := [(h, .inr (3, [.ref hb, .int (zI n), .int (zI P), .ref ht, .int (zI len)])), (hb, .inl (cB, 1200, .inl (zA r))), (ht, .inl (cT, 420, .inl (zA tx)))]) (wn := (fun (u : Unit) => [(h, .inr (3, [.ref hb, .int (zI n), .int (zI P), .ref ht, .int (zI len)])), (hb, .inl (cB, 1200, .inl (zA r))), (ht, .inl (cT, 420, .inl (zA tx)))])) S w (c_X3_none l D bz (by omega)) gX3_digits_X3_none (by decide +kernel) rfl ⟨rfl, rfl⟩ ⟨Nat.le_of_ble_eq_true rfl, Nat.le_of_ble_eq_true rfl⟩ [] [] [0, 1, 2] [0, 1, 2] rfl rfl rfl rfl rfl (by decide) (fun u => rfl) rfl rfl hl.1 (Nat.le_of_ble_eq_true rfl) ⟨Nat.le_of_ble_eq_true rfl, Nat.le_of_ble_eq_true rfl⟩ rfl dX3_digits_8 (fun z8 _ H locs p8 w => ?_)
    have p8 : (z8 = 1 ∧ (xE bz = 2047 ∧ bz % 4503599627370496 ≠ 0)) ∨ (z8 = 0 ∧ ¬ (xE bz = 2047 ∧ bz % 4503599627370496 ≠ 0)) := p8
    have w : zW D _ _ s [(h, .inr (3, [.ref hb, .int (zI n), .int (zI P), .ref ht, .int (zI len)])), (hb, .inl (cB, 1200, .inl (zA r))), (ht, .inl (cT, 420, .inl (zA tx)))] H locs := w
    refine z_if_eq (tgt := 16) S dX3_digits_11 (by decide) (by omega) (fun h11 => ?_) (fun h11 => ?_)
    · skip
      refine lv_aload_n S.1 S.2.1 dX3_digits_16 rfl (lv_at hl 0 rfl) ?_
      refine lv_lload_n S.1 S.2.1 dX3_digits_17 rfl (lv_at hl 1 rfl) ?_
      refine z_callvV (C := RX3) (n := 1) (As := [.long (lI bz)]) (rest := []) (wr := []) (wn := (fun (u : (Nat → Int) × Int × Int) => [(h, .inr (3, [.ref hb, .int (zI u.2.1), .int (zI u.2.2), .ref ht, .int (zI len)])), (hb, .inl (cB, 1200, .inl (zA u.1))), (ht, .inl (cT, 420, .inl (zA tx)))])) S w (c_X3_spread l D cB cT h hb ht r n P tx len bz (by omega) (by omega)) gX3_digits_X3_spread (by decide +kernel) rfl ⟨rfl, rfl⟩ ⟨Nat.le_of_ble_eq_true rfl, Nat.le_of_ble_eq_true rfl⟩ [0, 1] [0, 1, 2] [] [0, 1, 2] rfl rfl rfl rfl rfl (by decide) (fun u => rfl) rfl rfl rfl rfl rfl hl.1 (Nat.le_of_ble_eq_true rfl) ⟨Nat.le_of_ble_eq_true rfl, Nat.le_of_ble_eq_true rfl⟩ rfl dX3_digits_18 (fun u H locs p18 w => ?_)
      obtain ⟨r18, n18, P18⟩ := u
      have p18 : mRep r18 n18 P18 (xX bz) ∧ n18 ≤ 1190 ∧ (-1200 ≤ P18 ∧ P18 ≤ 1100) := p18
      have w : zW D _ _ s [(h, .inr (3, [.ref hb, .int (zI n18), .int (zI P18), .ref ht, .int (zI len)])), (hb, .inl (cB, 1200, .inl (zA r18))), (ht, .inl (cT, 420, .inl (zA tx)))] H locs := w
      obtain ⟨a1, a2, a3⟩ := p18
      refine lv_aload_n S.1 S.2.1 dX3_digits_21 rfl (lv_at hl 0 rfl) ?_
      refine z_get (ci := 3) (C := RX3) (T := TX3) (N := 5) S w 0 rfl rfl in_X3_digits_X3 1 (by decide) ln_X3_digits_23 rfl rfl dX3_digits_22 ?_
      exact z_iret S hr hlk w (zNar_int _) (r18, n18, P18) (Or.inr ⟨by omega, sg_mRep a1⟩) rfl dX3_digits_25
    · skip
      refine z_iconst S dX3_digits_14 ?_
      exact z_iret S hr hlk w (zNar_int _) (r, n, P) (Or.inl ⟨by omega, rfl⟩) rfl dX3_digits_15
end
