/-! makers: contracts that give new cells, and the rows for new arrays and objects -/
def zQk {T : Type} (D : va_G) (wc : va_W) (sz : Nat) (post : T → Prop) (wf : T → va_W) (tf : T → List (ClassId × FieldType)) : Array Value → State → Outcome → State → Prop := va_Qv post (fun u t => va_P D vwCl (wf u) t.heap ∧ va_K D vwCl (tf u) t ∧ va_D (va_A wc sz) (wf u)) (va_A wc sz)
def zMk {T : Type} (l : Launch) (y : MethodName) (wds : List Cond) (rm : Room) (D : va_G) (av : List Value) (wc : va_W) (post : T → Prop) (wf : T → va_W) (tf : T → List (ClassId × FieldType)) (mc ms : Nat) : Prop :=
  ∀ sz : Nat, Met l y wds rm (va_Pc av (zPre D [] wc sz)) (zQk D wc sz post wf tf) mc ms (va_A wc sz)
section ZK
variable {p : Program} {l : Launch} {e : Env} {R : Room} {s : State} {m : MethodId} {args : Array Value} {below : List Frame} {meth : Method} {c : Code} {H : Heap} {locs : List Loc} {cells slots : Nat} {Q : State → Prop} {cc : ByteArray} {nL : Nat} {Ts : List Cond} {own : String} {pc : Nat} {ls : Array Slot} {rest : List Value} {D : va_G} {tys : List (ClassId × FieldType)} {A : Nat → Prop} {ws wc wr : va_W}
  {T : Type} {wf wn : T → va_W} {tf : T → List (ClassId × FieldType)} {y : MethodName} {wds ws' : List Cond} {rm : Room} {index maxL mc ms n b : Nat} {bytes : ByteArray} {As st : List Value}
theorem z_lshl (S : CallFix p m c cc nL s args Ts own) {a b : Int} (hdg : decode cc pc = .ok (.lshl, 1)) {v : Int} (hv : lI a <<< ((zI b).toInt64 &&& 63) = lI v) (k : W p l e R s m args below meth c H locs cells slots Q (F0 m (pc + 1) ls (.long (lI v) :: rest))) : W p l e R s m args below meth c H locs cells slots Q (F0 m pc ls (.int (zI b) :: .long (lI a) :: rest)) := lv_lshl S.1 S.2.1 hdg hv k
theorem z_newa (S : CallFix p m c cc nL s args Ts own) (w : zW D tys A s ws H locs) {atype : ArrayType} {ty : FieldType} {N : Nat} {z : Int} (harr : Cond.arrayClass ty ∈ Ts) (hty : newarray.typeOf atype = ty) (ha : ∀ cA : ClassId, vp_cell cA (N, .inl (zA (fun _ => 0))) = arrV cA N (fun _ => defaultValue ty)) (hz : z = (N : Int)) (hN : N ≤ 1200) (hbytes : N * componentBytes ty ≤ 536870912) (hcells : cells + 1 ≤ R.cells) (hslots : slots + N ≤ R.slots) (hdg : decode cc pc = .ok (.newarray atype, 2))
    (kk : ∀ (q : Nat) (cA : ClassId) (H : Heap), zW D (tys ++ [(cA, ty)]) A s (ws ++ [(q, .inl (cA, N, .inl (zA (fun _ => 0))))]) H locs → W p l e R s m args below meth c H locs (cells + 1) (slots + N) Q (F0 m (pc + 2) ls (.ref q :: rest))) : W p l e R s m args below meth c H locs cells slots Q (F0 m pc ls (.int (zI z) :: rest)) := by
  subst hz
  subst hty
  exact va_newa S.1 S.2.1 (S.2.2.2.2 _ harr) rfl w.1 w.2.1 w.2.2.1 w.2.2.2.1 w.2.2.2.2.1 ha (fun h => by have := (zI_lt (by omega) (b := 0) (by omega)).mp h; omega) (by rw [zI_cl (by omega)]; omega) hbytes hcells hslots hdg (fun q cA H1 h1 h2 h3 h4 => kk q cA H1 ⟨h1, h2, h3, h4, w.2.2.2.2⟩)
theorem z_new (S : CallFix p m c cc nL s args Ts own) (w : zW D tys A s ws H locs) {C : String} {TT : u_T} {N ci : Nat} (hin : ∀ w ∈ u_ws C TT N, w ∈ Ts) {ty : Nat → FieldType} (hty : ∀ k, k < N → parseFieldDescriptor (TT k).2.2.1 = some (ty k)) (hcl : Cond.classLink own index C ∈ Ts) (hinst : Cond.instantiable C N ∈ Ts) (hini : Cond.initialized C ∈ Ts) (hc : vwCl[ci]? = some (C, TT, N)) {fs : List Value} (hfs : ∀ j, j < N → defaultValue (ty j) = vp_V fs j) (hcells : cells + 1 ≤ R.cells) (hslots : slots + N ≤ R.slots) (hdg : decode cc pc = .ok (.new index, 3))
    (kk : ∀ (q : Nat) (H : Heap), zW D tys A s (ws ++ [(q, .inr (ci, fs))]) H locs → W p l e R s m args below meth c H locs (cells + 1) (slots + N) Q (F0 m (pc + 3) ls (.ref q :: rest))) : W p l e R s m args below meth c H locs cells slots Q (F0 m pc ls rest) :=
  va_new S.1 S.2.1 S.2.2.2.2 hin ty hty S.2.2.2.1 (S.2.2.2.2 _ hcl) (S.2.2.2.2 _ hinst) (S.2.2.2.2 _ hini) w.1 w.2.1 w.2.2.1 w.2.2.2.1 w.2.2.2.2.1 hc hfs hcells hslots hdg (fun q H1 h2 h3 h4 => kk q H1 ⟨w.1, h2, h3, h4, w.2.2.2.2⟩)
theorem z_callK {post : T → Prop} (S : CallFix p m c cc nL s args Ts own) (w : zW D tys A s ws H locs) (hM : zMk l y wds rm D (.ref b :: As) wc post wf tf mc ms) (hG : GoodIn Ts wds) (hlk : Cond.methodLink own index y ∈ Ts) (him : Cond.instanceMethod y ∈ Ts) (hini : Cond.initialized y.cls ∈ Ts) (hnm : y.name = "<init>") (hd : y.cls ≠ "java/lang/invoke/MethodHandle" ∧ y.cls ≠ "java/lang/invoke/VarHandle" ∧ (parseMethodDescriptor y.desc).map (fun d => d.parameters.length) = some n) (hwy : wds = Cond.code y bytes maxL none :: ws') (hrm : rm.cells = mc ∧ rm.slots = ms) (hR : rm.frames + 1 ≤ R.frames ∧ 8 + (maxL + 11) + rm.locals ≤ R.locals)
    (isC isR isN : List Nat) (hC : isC.map (fun i => ws[i]?) = wc.map some) (hCn : va_nd isC = true) (hRr : isR.map (fun i => ws[i]?) = wr.map some) (hRn : va_nd isR = true) (hdis : ∀ i ∈ isR, i ∉ isC) (hN : ∀ u, isN.map (fun i => (wr ++ wf u)[i]?) = (wn u).map some) (hNn : va_nd isN = true) (hn : As.length = n) (hsz : ls.size = nL) (hcat : (rest.map fun v => v.category).sum ≤ 8) (hf : cells + mc ≤ R.cells ∧ slots + ms ≤ R.slots) (hst : st = As.reverse ++ .ref b :: rest) (hdg : decode cc pc = .ok (.invokespecial index, 3))
    (kk : ∀ (u : T) (H : Heap) (locs : List Loc), post u → zW D (tys ++ tf u) A s (wn u) H locs → W p l e R s m args below meth c H locs (cells + mc) (slots + ms) Q (F0 m (pc + 3) ls rest)) : W p l e R s m args below meth c H locs cells slots Q (F0 m pc ls st) := by
  subst hst
  have hfree := va_free (wc := wc) w.2.2.1 w.2.2.2.1 w.2.2.2.2.1 isC hC
  refine va_callv (va_runI (As := As) (rest := rest) S (hM H.size) (cwI n S.2.2.2.2 hG hwy hrm.1 hrm.2 (S.2.2.2.2 _ hini) (S.2.2.2.2 _ hlk) (S.2.2.2.2 _ him) hnm hd hR) ⟨zPre.blind D [] _ wc H.size, zPre.at w _ [] isC rfl hC hCn⟩ rfl hn hsz rfl (lv_room hcat) hdg hf) w.2.2.2.1 (fun q _ h => hfree q h) hfree (fun u t H1 locs1 ht hvm hw hB hz1 hk1 hS1 => ?_)
  obtain ⟨hP1, hK1, hD1⟩ := hB
  rw [ht] at hP1
  obtain ⟨hP2, hD2⟩ := va_join (wr := wr) (w1 := wf u) w.2.1 w.2.2.1 isC isR hC hRr hRn hdis hk1 hfree hP1 hD1
  exact kk u H1 locs1 hw (zW.sub ⟨w.1.app (va_K.moved hvm.symm hK1), hP2, hD2, hS1, w.2.2.2.2⟩ isN hNn (hN u))
theorem zMk.of {post : T → Prop} {av : List Value} (hy : plainName y.cls = true) (hwy : wds = Cond.code y bytes nL none :: ws') (ho : y.cls = own) (hav : (lg_sl av).length ≤ nL) (body : ∀ (p : Program) (e : Env) (s : State) (m : MethodId) (below : List Frame) (meth : Method) (c : Code) (ls : Array Slot), CallFix p m c bytes nL s av.toArray wds own → meth.sig.returnType = none → meth.locks = false → meth.name = y.name → zW D [] (va_A wc s.heap.size) s wc s.heap [] → lv_has ls nL (lv_args 0 av) → W p l e rm s m av.toArray below meth c s.heap [] 0 0 (MQ below (zQk D wc s.heap.size post wf tf) av.toArray s mc ms (va_A wc s.heap.size)) (F0 m 0 ls [])) : zMk l y wds rm D av wc post wf tf mc ms := by
  intro sz
  refine Met.ofW (cc := bytes) (maxL := nL) (ret := none) hy hwy ?_
  intro p e s m args below meth c s₁ B hml hv
  obtain ⟨rfl, hsz, hP, hK, hD0, hNs⟩ := hv
  subst hsz
  have hown : s.vm.findClass y.cls = some m.cls := findClass_of_methodNamed B.named
  rw [ho] at hown
  have hl := lv_entry av (n := nL) hav
  rw [lg_entry_eq]
  exact body p e s m below meth c _ ⟨B.exec, B.bytes, hml, hown, atoms_spec (ws := wds) B.pre⟩ B.returns B.notSynchronized (name_of_methodNamed B.named B.method).1 ⟨hK, hP, hD0.self (sz := s.heap.size), va_S.rf, fun q h => Or.inr h, hNs⟩ hl
theorem z_kret {post : T → Prop} (S : CallFix p m c cc nL s args Ts own) (hr : meth.sig.returnType = none) (hlk : meth.locks = false) {wsE : va_W} (w : zW D tys (va_A wc s.heap.size) s wsE H locs) (u : T) (hu : post u) (hw : wsE = wf u) (ht : tys = tf u) (hdg : decode cc pc = .ok (.return_, 1)) : W p l e R s m args below meth c H locs cells slots (MQ below (zQk D wc s.heap.size post wf tf) args s cells slots (va_A wc s.heap.size)) (F0 m pc ls []) := by
  subst hw
  subst ht
  exact W.vret S.1 S.2.1 hr (fun t ht hW => ⟨⟨u, rfl, hu, by rw [ht]; exact w.2.1, va_K.moved hW.alike w.1, w.2.2.1⟩, w.2.2.2.1.F ht⟩) w.2.2.2.1.2.2 hdg hlk
theorem z_sld (S : CallFix p m c cc nL s args Ts own) (w : zW D tys A s ws H locs) {b L : Nat} {xs : Nat → Int32} (hX : va_X b L xs s s.heap) (hbl : b < s.heap.size) (hbA : ¬ A b) {i : Int} (hi : 0 ≤ i ∧ i < (L : Int)) (hL : L ≤ 4000) (hdg : decode cc pc = .ok (.iaload, 1)) (kk : W p l e R s m args below meth c H locs cells slots Q (F0 m (pc + 1) ls (.int (zI (xs i.toNat).toInt) :: rest))) : W p l e R s m args below meth c H locs cells slots Q (F0 m pc ls (.int (zI i) :: .ref b :: rest)) := by
  refine va_sld S.1 S.2.1 hX hbl hbA w.2.2.2.1 (zI_in hi (by omega)) hdg ?_
  rw [zI_cl (by omega), zI_eq_of (x := xs i.toNat) rfl]
  exact kk
theorem z_slen (S : CallFix p m c cc nL s args Ts own) (w : zW D tys A s ws H locs) {b L : Nat} {xs : Nat → Int32} (hX : va_X b L xs s s.heap) (hbl : b < s.heap.size) (hbA : ¬ A b) (hdg : decode cc pc = .ok (.arraylength, 1)) (kk : W p l e R s m args below meth c H locs cells slots Q (F0 m (pc + 1) ls (.int (zI (L : Int)) :: rest))) : W p l e R s m args below meth c H locs cells slots Q (F0 m pc ls (.ref b :: rest)) := by
  refine va_slen S.1 S.2.1 hX hbl hbA w.2.2.2.1 hdg ?_
  rw [zI_nI] at kk
  exact kk
end ZK
theorem lI_self (x : Int64) : x = lI x.toInt := lI_eq_of rfl
def shv (a : Int) : Int := (lI a <<< ((zI 32).toInt64 &&& 63)).toInt
def lov (b : Int) : Int := (lI b &&& lI 4294967295).toInt
def bzv (a b : Int) : Int := (lI (shv a) ||| lI (lov b)).toInt
theorem i64_rng (x : Int64) : -9223372036854775808 ≤ x.toInt ∧ x.toInt ≤ 9223372036854775807 := by
  have h1 := x.le_toInt
  have h2 := x.toInt_lt
  omega
theorem i32_rng (x : Int32) : -2147483648 ≤ x.toInt ∧ x.toInt ≤ 2147483647 := by
  have h1 := x.le_toInt
  have h2 := x.toInt_lt
  omega
