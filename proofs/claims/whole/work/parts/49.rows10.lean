theorem nI_nneg {n : Nat} (h : n < 2 ^ 31) : ¬ nI n < 0 := fun q => by
  have h1 := Int32.lt_iff_toInt_lt.mp q
  rw [nI_toInt h] at h1
  have e : (0 : Int32).toInt = 0 := by decide
  omega
theorem va_AOA.warm {ty : FieldType} {s U : State} (hW : s.WarmedH U.vm) (h : va_AOA ty s) : va_AOA ty U := by
  have h1 : (Cond.arrayOver (.array ty)).before #[] (s.setVm U.vm) = true := by rw [Cond.arrayOver_setVmC hW.alike]; exact h
  exact h1
theorem va_AOA.same {ty : FieldType} {s U : State} (hv : s.vm = U.vm) (h : va_AOA ty s) : va_AOA ty U := by
  have h0 : (s.setVm U.vm) = s := by rw [← hv]; rfl
  have h1 : (Cond.arrayOver (.array ty)).before #[] (s.setVm U.vm) = true := by rw [h0]; exact h
  exact h1
/-- constructors: they leave a world of which F speaks, having made mc things of ms places -/
def PCI (D : va_G) (cs : ClassId × ClassId × ClassId × ClassId) (av : List Value) (sz : Nat) (ws : va_W) : Array Value → State → Prop :=
  va_Pc av (fun U => U.heap.size = sz ∧ va_P D CLS ws U.heap ∧ va_K D CLS (tysG cs) U ∧ va_D (fun _ => True) ws ∧ NWs U ∧ va_AOA .int U)
theorem PCI.blind {D : va_G} {cs : ClassId × ClassId × ClassId × ClassId} {av : List Value} {sz : Nat} {ws : va_W} : FrameBlind (PCI D cs av sz ws) := fun a U g mk q => by
  obtain ⟨q0, q1, qP, qK, qD, qN, qA⟩ := q
  exact ⟨q0, q1, qP, va_K.moved (u := U) (U := U.calling g mk a) (Vm.Alike.refl U.vm) qK, qD, NWs.same (s := U) (U := U.calling g mk a) rfl qN, va_AOA.same (s := U) (U := U.calling g mk a) rfl qA⟩
abbrev QX (D : va_G) (F : va_W → Prop) (A : Nat → Prop) : Array Value → State → Outcome → State → Prop := va_Qv (fun w1 : va_W => F w1) (fun w1 t => va_P D CLS w1 t.heap ∧ va_D A w1) A
def MI (l : Launch) (y : MethodName) (k : Cond) (rm : Room) (D : va_G) (cs : ClassId × ClassId × ClassId × ClassId) (av : List Value) (ws : va_W) (F : va_W → Prop) (mc ms : Nat) : Prop :=
  ∀ sz, Met l y (k :: TB) rm (PCI D cs av sz ws) (QX D F (va_A ws sz)) mc ms (va_A ws sz)
theorem MI.mk {l : Launch} {y : MethodName} {cc : ByteArray} {maxL mc ms : Nat} {rm : Room} {D : va_G} {cs : ClassId × ClassId × ClassId × ClassId} {av : List Value} {ws : va_W} {F : va_W → Prop} {own : String}
    (hy : plainName y.cls = true) (ho : y.cls = own) (hy1 : y.name = "<init>") (hn : (lg_sl av).length ≤ maxL)
    (body : ∀ (p : Program) (e : Env) (s : State) (m : MethodId) (below : List Frame) (meth : Method) (c : Code) (A : Nat → Prop), CX p s m av.toArray c cc maxL own D cs A → va_AOA .int s → meth.name = "<init>" → meth.sig.returnType = none → meth.locks = false →
      GO p l e rm s m av.toArray below meth c 0 0 (MQ below (QX D F A) av.toArray s mc ms A) A D maxL 0 (lv_args 0 av) [] ws) : MI l y (.code y cc maxL none) rm D cs av ws F mc ms := by
  intro sz
  refine Met.ofW (cc := cc) (maxL := maxL) (ret := none) hy rfl ?_
  intro p e s m args below meth c s₁ B hml hv
  obtain ⟨rfl, hsz, hP, hK, hD0, hNW, hAO⟩ := hv
  have hts := atoms_spec (ws := .code y cc maxL none :: TB) B.pre
  have hown : s.vm.findClass own = some m.cls := by rw [← ho]; exact findClass_of_methodNamed B.named
  have hin : meth.name = "<init>" := by rw [← hy1]; exact (name_of_methodNamed B.named B.method).1
  subst hsz
  have hD := hD0.self (sz := s.heap.size)
  have hl := lv_entry av hn
  rw [lg_entry_eq]
  exact body p e s m below meth c (va_A ws s.heap.size) ⟨⟨B.exec, B.bytes, hml, hown, fun w h => hts w (List.mem_cons_of_mem _ h)⟩, hK, fun q h => Or.inr h, hNW⟩ hAO hin B.returns B.notSynchronized s.heap [] _ hP hD va_S.rf hl
theorem ra_int {s : State} (c1 c2 : ClassId) (h1 : va_RA s c1 .int) (h2 : va_RA s c2 .int) : c1 = c2 := by
  have a1 : s.vm.findClass ("[" ++ FieldType.int.toString) = some c1 := h1
  have a2 : s.vm.findClass ("[" ++ FieldType.int.toString) = some c2 := h2
  rw [a1] at a2; exact Option.some.inj a2
theorem ra_long {s : State} (c1 c2 : ClassId) (h1 : va_RA s c1 .long) (h2 : va_RA s c2 .long) : c1 = c2 := by
  have a1 : s.vm.findClass ("[" ++ FieldType.long.toString) = some c1 := h1
  have a2 : s.vm.findClass ("[" ++ FieldType.long.toString) = some c2 := h2
  rw [a1] at a2; exact Option.some.inj a2
theorem ra_bool {s : State} (c1 c2 : ClassId) (h1 : va_RA s c1 .boolean) (h2 : va_RA s c2 .boolean) : c1 = c2 := by
  have a1 : s.vm.findClass ("[" ++ FieldType.boolean.toString) = some c1 := h1
  have a2 : s.vm.findClass ("[" ++ FieldType.boolean.toString) = some c2 := h2
  rw [a1] at a2; exact Option.some.inj a2
theorem ra_arr {s : State} (c1 c2 : ClassId) (h1 : va_RA s c1 (.array .int)) (h2 : va_RA s c2 (.array .int)) : c1 = c2 := by
  have a1 : s.vm.findClass ("[" ++ (FieldType.array .int).toString) = some c1 := h1
  have a2 : s.vm.findClass ("[" ++ (FieldType.array .int).toString) = some c2 := h2
  rw [a1] at a2; exact Option.some.inj a2
theorem va_P.mid {D : va_G} {X R : va_W} {q : Nat} {e e' : va_E} {H : Heap} (h : va_P D CLS ((X ++ [(q, e)]) ++ R) H) (he : va_at D CLS (q, e) H → va_at D CLS (q, e') H) : va_P D CLS ((X ++ [(q, e')]) ++ R) H := by
  have hX : va_P D CLS X H := fun i x hx => h i x (by rw [List.append_assoc, List.getElem?_append_left (List.getElem?_eq_some_iff.mp hx).1]; exact hx)
  have hR : va_P D CLS R H := fun i x hx => h ((X ++ [(q, e)]).length + i) x (by rw [List.getElem?_append_right (Nat.le_add_right _ _), Nat.add_sub_cancel_left]; exact hx)
  have hq : va_at D CLS (q, e) H := h X.length (q, e) (by rw [List.append_assoc, List.getElem?_append_right (Nat.le_refl _), Nat.sub_self]; rfl)
  refine va_P.app (va_P.app hX (fun i x hx => ?_)) hR
  have h0 : i < 1 := (List.getElem?_eq_some_iff.mp hx).1
  rw [show i = 0 by omega] at hx
  cases hx
  exact he hq
theorem va_D.mid {A : Nat → Prop} {X R : va_W} {q : Nat} {e e' : va_E} (h : va_D A ((X ++ [(q, e)]) ++ R)) : va_D A ((X ++ [(q, e')]) ++ R) := h.addr (fun i => by
  rw [List.append_assoc, List.append_assoc]
  rcases Nat.lt_or_ge i X.length with k | k
  · rw [List.getElem?_append_left k, List.getElem?_append_left k]
  · rw [List.getElem?_append_right k, List.getElem?_append_right k]
    cases i - X.length <;> rfl)
section GR10
variable {p : Program} {l : Launch} {e : Env} {R : Room} {s : State} {m : MethodId} {args : Array Value} {below : List Frame} {meth : Method} {c : Code} {cells slots : Nat} {Q : State → Prop} {A : Nat → Prop} {D : va_G} {nL : Nat} {cc : ByteArray} {own : String} {cs : ClassId × ClassId × ClassId × ClassId}
variable {pc : Nat} {lv lv' : List (Nat × Value)} {st : List Value} {ws ws' : va_W}

theorem g_xret (C : CX p s m args c cc nL own D cs A) {F : va_W → Prop} {mc ms : Nat} (hr : meth.sig.returnType = none) (hlocks : meth.locks = false) (hF : F ws) (h1 : cells ≤ mc) (h2 : slots ≤ ms) (d : decode cc pc = .ok (.return_, 1)) : GO p l e R s m args below meth c cells slots (MQ below (QX D F A) args s mc ms A) A D nL pc lv [] ws := by
  obtain ⟨⟨hx, hb, hml, hown, ht⟩, hK, hA⟩ := C
  intro H locs ls hP hD hS hl
  refine W.widen h1 h2 ?_
  exact W.vret hx hb hr (fun t ht hW => ⟨⟨ws, rfl, hF, by show va_P D CLS ws t.heap; rw [ht]; exact hP, hD⟩, hS.F ht⟩) hS.2.2 d hlocks
theorem g_oinit (C : CX p s m args c cc nL own D cs A) {idx : Nat} {a : Nat} (w1 : Cond.methodLink own idx Lib.objectInit ∈ TB) (w2 : Cond.instanceMethod Lib.objectInit ∈ TB) (w3 : Cond.code Lib.objectInit ⟨#[0xb1]⟩ 1 none ∈ TB) (hR : 1 ≤ R.frames ∧ (st.map fun v => v.category).sum + 12 ≤ R.locals) (d : decode cc pc = .ok (.invokespecial idx, 3)) (g : GO p l e R s m args below meth c cells slots Q A D nL (pc + 3) lv st ws) : GO p l e R s m args below meth c cells slots Q A D nL pc lv (.ref a :: st) ws := by
  obtain ⟨⟨hx, hb, hml, hown, ht⟩, hK, hA, hNW⟩ := C
  intro H locs ls hP hD hS hl
  exact W.objInit hx hb hown (ht _ w1) (ht _ w2) (ht _ w3) rfl (hl.1.trans hml.symm) rfl d hR.1 (by show 2 * 0 + _ + 12 ≤ _; have := hR.2; omega) (g H locs ls hP hD hS hl)
theorem g_newarr (C : CX p s m args c cc nL own D cs A) {atype : ArrayType} {ty : FieldType} {N : Nat} {a0 : vp_A} {cA : ClassId} {X T : va_W} {w2 : Nat → va_W} (hw : Cond.arrayClass ty ∈ TB) (hty : newarray.typeOf atype = ty) (t0 : Nat) (ht0 : (tysG cs)[t0]? = some (cA, ty)) (hra : ∀ c1 c2 : ClassId, va_RA s c1 ty → va_RA s c2 ty → c1 = c2) (ha : ∀ c9 : ClassId, vp_cell c9 a0 = arrV c9 N (fun _ => defaultValue ty)) (hN : N < 2 ^ 31) (hbytes : N * componentBytes ty ≤ 536870912) (hcells : cells + 1 ≤ R.cells) (hslots : slots + N ≤ R.slots) (hws : ws = X ++ T) (hw2 : ∀ q, (X ++ [(q, .inl (cA, a0))]) ++ T = w2 q) (d : decode cc pc = .ok (.newarray atype, 2)) (g : ∀ q : Nat, GO p l e R s m args below meth c (cells + 1) (slots + N) Q A D nL (pc + 2) lv (.ref q :: st) (w2 q)) : GO p l e R s m args below meth c cells slots Q A D nL pc lv (.int (nI N) :: st) ws := by
  obtain ⟨⟨hx, hb, hml, hown, ht⟩, hK, hA, hNW⟩ := C
  intro H locs ls hP hD hS hl
  refine va_newa hx hb (by rw [hty]; exact ht _ hw) hty hK hP hD hS hA ha (nI_nneg hN) (nI_clamp hN) hbytes hcells hslots d (fun q c1 H1 hK1 hP1 hD1 hS1 => ?_)
  have e1 : c1 = cA := hra _ _ (hK1.2 4 (c1, ty) rfl).2 (hK.2 t0 _ ht0).2
  subst e1
  subst hws
  have hP2 : va_P D CLS ((X ++ [(q, .inl (c1, a0))]) ++ T) H1 := va_P.swap hP1
  have hD2 : va_D A ((X ++ [(q, .inl (c1, a0))]) ++ T) := va_D.swap hD1
  rw [hw2] at hP2 hD2
  exact g q H1 locs ls hP2 hD2 hS1 hl
theorem g_new (C : CX p s m args c cc nL own D cs A) {C9 : String} {T9 : u_T} {N ci index : Nat} {fs : List Value} {X T : va_W} {w2 : Nat → va_W} (hin : ∀ w ∈ u_ws C9 T9 N, w ∈ TB) (ty0 : Nat → FieldType) (hty : ∀ k, k < N → parseFieldDescriptor (T9 k).2.2.1 = some (ty0 k)) (hc : CLS[ci]? = some (C9, T9, N)) (w1 : Cond.classLink own index C9 ∈ TB) (w3 : Cond.instantiable C9 N ∈ TB) (w4 : Cond.initialized C9 ∈ TB) (hfs : ∀ j, j < N → defaultValue (ty0 j) = vp_V fs j) (hcells : cells + 1 ≤ R.cells) (hslots : slots + N ≤ R.slots) (hws : ws = X ++ T) (hw2 : ∀ q, (X ++ [(q, .inr (ci, fs))]) ++ T = w2 q) (d : decode cc pc = .ok (.new index, 3)) (g : ∀ q : Nat, GO p l e R s m args below meth c (cells + 1) (slots + N) Q A D nL (pc + 3) lv (.ref q :: st) (w2 q)) : GO p l e R s m args below meth c cells slots Q A D nL pc lv st ws := by
  obtain ⟨⟨hx, hb, hml, hown, ht⟩, hK, hA, hNW⟩ := C
  intro H locs ls hP hD hS hl
  refine va_new hx hb ht hin ty0 hty hown (ht _ w1) (ht _ w3) (ht _ w4) hK hP hD hS hA hc hfs hcells hslots d (fun q H1 hP1 hD1 hS1 => ?_)
  subst hws
  have hP2 : va_P D CLS ((X ++ [(q, .inr (ci, fs))]) ++ T) H1 := va_P.swap hP1
  have hD2 : va_D A ((X ++ [(q, .inr (ci, fs))]) ++ T) := va_D.swap hD1
  rw [hw2] at hP2 hD2
  exact g q H1 locs ls hP2 hD2 hS1 hl
theorem g_callI (C : CX p s m args c cc nL own D cs A) (aoa : va_AOA .int s) {y : MethodName} {bytes : ByteArray} {maxL n index mc ms : Nat} {rm : Room} {wc wr : va_W} {As rest st0 : List Value} {b : Nat} {F : va_W → Prop} (hM : MI l y (.code y bytes maxL none) rm D cs (.ref b :: As) wc F mc ms) (w1 : Cond.methodLink own index y ∈ TB) (w2 : Cond.instanceMethod y ∈ TB) (w4 : Cond.initialized y.cls ∈ TB) (w5 : Cond.code y bytes maxL none ∈ TB) (hy1 : y.name = "<init>")
    (hnm : y.cls ≠ "java/lang/invoke/MethodHandle" ∧ y.cls ≠ "java/lang/invoke/VarHandle" ∧ (parseMethodDescriptor y.desc).map (fun d => d.parameters.length) = some n) (hnA : As.length = n)
    (hrm : rm.cells = mc ∧ rm.slots = ms ∧ (rm.frames + 1 ≤ R.frames ∧ 8 + (maxL + 11) + rm.locals ≤ R.locals) ∧ cells + mc ≤ R.cells ∧ slots + ms ≤ R.slots)
    (hst : st0 = As.reverse ++ .ref b :: rest) (isC isR : List Nat) (hC : isC.map (fun i => ws[i]?) = wc.map some) (hR : isR.map (fun i => ws[i]?) = wr.map some) (hnd : va_nd isC = true) (hndR : va_nd isR = true) (hdis : ∀ i ∈ isR, i ∉ isC) (hrest : (rest.map fun v => v.category).sum ≤ 8) (d : decode cc pc = .ok (.invokespecial index, 3)) (g : ∀ w1 : va_W, F w1 → GO p l e R s m args below meth c (cells + mc) (slots + ms) Q A D nL (pc + 3) lv rest (wr ++ w1)) : GO p l e R s m args below meth c cells slots Q A D nL pc lv st0 ws := by
  obtain ⟨⟨hx, hb, hml, hown, ht⟩, hK, hA, hNW⟩ := C
  intro H locs ls hP hD hS hl
  have hPc : va_P D CLS wc H := hP.sub isC (by
    have e9 : isC.filterMap (fun i => ws[i]?) = (isC.map (fun i => ws[i]?)).filterMap id := by rw [List.filterMap_map]; rfl
    rw [e9, hC, List.filterMap_map]; simp)
  have hDc := hD.sub isC hnd hC
  have hFc := va_free (wc := wc) hD hS hA isC hC
  have hpre : ∀ U : State, U.heap = H → s.WarmedH U.vm → PCI D cs (.ref b :: As) H.size wc (Value.ref b :: As).toArray U := fun U hU hW => ⟨rfl, by rw [hU], by rw [hU]; exact hPc, va_K.moved hW.alike hK, hDc.weaken (fun _ _ _ _ => trivial), NWs.warm hW hNW, va_AOA.warm hW aoa⟩
  refine va_callv (va_runI (As := As) (rest := rest) ⟨hx, hb, hml, hown, ht⟩ (hM H.size) (cwI n ht (tb_cons w5) rfl hrm.1 hrm.2.1 (ht _ w4) (ht _ w1) (ht _ w2) hy1 hnm hrm.2.2.1) ⟨PCI.blind, hpre⟩ rfl hnA hl.1 hst (lv_room hrest) d ⟨hrm.2.2.2.1, hrm.2.2.2.2⟩) hS (fun q _ h => hFc q h) hFc (fun u t H1 locs1 ht9 hvm hw hB hz1 hk1 hS1 => ?_)
  obtain ⟨hP1, hD1⟩ := hB
  rw [ht9] at hP1
  obtain ⟨hP9, hD9⟩ := va_join hP hD isC isR hC hR hndR hdis hk1 hFc hP1 hD1
  exact g u hw H1 locs1 ls hP9 hD9 hS1 hl
theorem g_callIN (C : CX p s m args c cc nL own D cs A) (aoa : va_AOA .int s) {y : MethodName} {bytes : ByteArray} {maxL n index mc ms : Nat} {rm : Room} {wc wr : va_W} {As rest st0 : List Value} {b : Nat} {host : String} {F : va_W → Prop} (hM : MI l y (.code y bytes maxL none) rm D cs (.ref b :: As) wc F mc ms) (w1 : va_Nw (.methodLinkNest own index y host) s) (w2 : Cond.instanceMethod y ∈ TB) (w4 : Cond.initialized y.cls ∈ TB) (w5 : Cond.code y bytes maxL none ∈ TB) (hy1 : y.name = "<init>")
    (hnm : y.cls ≠ "java/lang/invoke/MethodHandle" ∧ y.cls ≠ "java/lang/invoke/VarHandle" ∧ (parseMethodDescriptor y.desc).map (fun d => d.parameters.length) = some n) (hnA : As.length = n)
    (hrm : rm.cells = mc ∧ rm.slots = ms ∧ (rm.frames + 1 ≤ R.frames ∧ 8 + (maxL + 11) + rm.locals ≤ R.locals) ∧ cells + mc ≤ R.cells ∧ slots + ms ≤ R.slots)
    (hst : st0 = As.reverse ++ .ref b :: rest) (isC isR : List Nat) (hC : isC.map (fun i => ws[i]?) = wc.map some) (hR : isR.map (fun i => ws[i]?) = wr.map some) (hnd : va_nd isC = true) (hndR : va_nd isR = true) (hdis : ∀ i ∈ isR, i ∉ isC) (hrest : (rest.map fun v => v.category).sum ≤ 8) (d : decode cc pc = .ok (.invokespecial index, 3)) (g : ∀ w1 : va_W, F w1 → GO p l e R s m args below meth c (cells + mc) (slots + ms) Q A D nL (pc + 3) lv rest (wr ++ w1)) : GO p l e R s m args below meth c cells slots Q A D nL pc lv st0 ws := by
  obtain ⟨⟨hx, hb, hml, hown, ht⟩, hK, hA, hNW⟩ := C
  intro H locs ls hP hD hS hl
  have hPc : va_P D CLS wc H := hP.sub isC (by
    have e9 : isC.filterMap (fun i => ws[i]?) = (isC.map (fun i => ws[i]?)).filterMap id := by rw [List.filterMap_map]; rfl
    rw [e9, hC, List.filterMap_map]; simp)
  have hDc := hD.sub isC hnd hC
  have hFc := va_free (wc := wc) hD hS hA isC hC
  have hpre : ∀ U : State, U.heap = H → s.WarmedH U.vm → PCI D cs (.ref b :: As) H.size wc (Value.ref b :: As).toArray U := fun U hU hW => ⟨rfl, by rw [hU], by rw [hU]; exact hPc, va_K.moved hW.alike hK, hDc.weaken (fun _ _ _ _ => trivial), NWs.warm hW hNW, va_AOA.warm hW aoa⟩
  refine va_callv (va_runIN (As := As) (rest := rest) ⟨hx, hb, hml, hown, ht⟩ (hM H.size) ⟨va_cnB n ht (tb_cons w5) rfl hrm.1 hrm.2.1 w1 (ht _ w4) hnm hrm.2.2.1, hy1, ht _ w2⟩ ⟨PCI.blind, hpre⟩ rfl hnA hl.1 hst (lv_room hrest) d ⟨hrm.2.2.2.1, hrm.2.2.2.2⟩) hS (fun q _ h => hFc q h) hFc (fun u t H1 locs1 ht9 hvm hw hB hz1 hk1 hS1 => ?_)
  obtain ⟨hP1, hD1⟩ := hB
  rw [ht9] at hP1
  obtain ⟨hP9, hD9⟩ := va_join hP hD isC isR hC hR hndR hdis hk1 hFc hP1 hD1
  exact g u hw H1 locs1 ls hP9 hD9 hS1 hl
theorem g_swap {a b c9 : va_W} (g : GO p l e R s m args below meth c cells slots Q A D nL pc lv st ((a ++ c9) ++ b)) : GO p l e R s m args below meth c cells slots Q A D nL pc lv st ((a ++ b) ++ c9) := fun H locs ls hP hD hS hl => g H locs ls (va_P.swap hP) (va_D.swap hD) hS hl
theorem g_mna (C : CX p s m args c cc nL own D cs A) (aoa : va_AOA .int s) {X : va_W} {index : Nat} (w1 : Cond.classLink own index ("[" ++ (FieldType.array .int).toString) ∈ TB) (w2 : Cond.arrayClass .int ∈ TB) (hcells : cells + (1 + 16) ≤ R.cells) (hslots : slots + (16 + 16 * 48) ≤ R.slots) (hws : ws = X) (d : decode cc pc = .ok (.multianewarray index 2, 4)) (g : ∀ (q : Nat) (r : Nat → Nat), GO p l e R s m args below meth c (cells + 1 + 16) (slots + 16 + 16 * 48) Q A D nL (pc + 4) lv (.ref q :: st) ((X ++ [(q, .inl (cs.2.2.2, 16, .inr (.inr (.inr (.inr (fun i => some (r i)))))))]) ++ rowsW cs.1 r (fun _ _ => 0))) : GO p l e R s m args below meth c cells slots Q A D nL pc lv (.int (nI 48) :: .int (nI 16) :: st) ws := by
  obtain ⟨⟨hx, hb, hml, hown, ht⟩, hK, hA, hNW⟩ := C
  intro H locs ls hP hD hS hl
  subst hws
  have hcy : s.vm.findClass (FieldType.array .int).toString = some cs.1 := (hK.2 0 (cs.1, .int) rfl).2
  have hP0 : va_P D CLS (ws ++ va_pl [] (fun _ => .inl (cs.1, 48, .inl (fun _ => 0)))) H := by rw [show va_pl [] (fun _ => (.inl (cs.1, 48, .inl (fun _ => 0)) : va_E)) = [] from rfl, List.append_nil]; exact hP
  have hD0 : va_D A (ws ++ va_pl [] (fun _ => .inl (cs.1, 48, .inl (fun _ => 0)))) := by rw [show va_pl [] (fun _ => (.inl (cs.1, 48, .inl (fun _ => 0)) : va_E)) = [] from rfl, List.append_nil]; exact hD
  refine va_mna (ty := .int) (cy := cs.1) (N' := 16) (K' := 48) (z := (48, .inl (fun _ => 0))) hx hb hown (ht _ w1) aoa (ht _ w2) hcy hK hP0 hD0 hS hA (by decide) (by decide) (by decide) (by decide) (by decide) (by decide) (by decide) rfl rfl hcells hslots (fun c9 => (arrV_new c9 48 (defaultValue .int))) d (fun q r cA H1 hr1 hr2 hK1 hP1 hD1 hS1 => ?_)
  have e1 : cA = cs.2.2.2 := ra_arr _ _ (hK1.2 4 (cA, .array .int) rfl).2 (hK.2 3 _ rfl).2
  subst e1
  have e2 : va_pl ([] ++ (List.range 16).map r) (vr_up (fun _ => .inl (cs.1, 48, .inl (fun _ => 0))) ((List.range 16).map r) (.inl (cs.1, (48, .inl (fun _ => 0))))) = rowsW cs.1 r (fun _ _ => 0) := by
    unfold va_pl rowsW
    rw [List.nil_append, List.map_map]
    apply List.map_congr_left
    intro i hi
    show (r i, vr_up _ _ _ (r i)) = _
    rw [vr_up_in (List.mem_map.mpr ⟨i, hi, rfl⟩)]
    rfl
  rw [e2] at hP1 hD1
  have hP2 := va_P.mid (e' := .inl (cs.2.2.2, 16, .inr (.inr (.inr (.inr (fun i => some (r i))))))) hP1 (fun hq => by
    have hq : H1[q]? = some (vp_cell cs.2.2.2 (16, .inr (.inr (.inr (.inr (fun i => if i < 16 then some (r i) else none)))))) := hq
    show H1[q]? = some (vp_cell cs.2.2.2 (16, .inr (.inr (.inr (.inr (fun i => some (r i)))))))
    rw [hq, vp_cell_q, vp_cell_q]
    exact congrArg some (arrV_congr (fun j hj => by rw [if_pos hj])))
  have hD2 := va_D.mid (e' := .inl (cs.2.2.2, 16, .inr (.inr (.inr (.inr (fun i => some (r i))))))) hD1
  exact g q r H1 locs ls hP2 hD2 hS1 hl
end GR10
