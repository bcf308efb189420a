theorem xa_O : ∀ w ∈ (vx_atS "BoundedCodes" 152 "java/lang/IndexOutOfBoundsException" ["java/lang/RuntimeException", "java/lang/Exception"]).filter goodWord, w ∈ TB := fun w h => tb_l ((show ∀ w ∈ (vx_atS "BoundedCodes" 152 "java/lang/IndexOutOfBoundsException" ["java/lang/RuntimeException", "java/lang/Exception"]).filter goodWord, w ∈ lw_tbl by decide +kernel) w h) (List.mem_filter.mp h).2
theorem xb_O : ∀ w ∈ (vx_atS "BoundedCodes" 152 "java/lang/IndexOutOfBoundsException" ["java/lang/RuntimeException", "java/lang/Exception"]).filter (fun w => !goodWord w), w ∈ [Cond.castable "java/lang/IndexOutOfBoundsException" "java/lang/IndexOutOfBoundsException", .declares ⟨"java/lang/RuntimeException", "<init>", "(Ljava/lang/String;)V"⟩, .declares ⟨"java/lang/Exception", "<init>", "(Ljava/lang/String;)V"⟩, .declares ⟨"java/lang/Throwable", "<init>", "(Ljava/lang/String;)V"⟩] := by decide +kernel
theorem xg_O : ∀ w ∈ Cond.classLink "BoundedCodes" 148 "java/lang/IndexOutOfBoundsException" :: Cond.initialized "java/lang/IndexOutOfBoundsException" :: vx_atS "BoundedCodes" 152 "java/lang/IndexOutOfBoundsException" ["java/lang/RuntimeException", "java/lang/Exception"], vx_ot w = true := by decide +kernel
theorem xa_A : ∀ w ∈ (vx_atS "BoundedCodes" 69 "java/lang/IllegalArgumentException" ["java/lang/RuntimeException", "java/lang/Exception"]).filter goodWord, w ∈ TB := fun w h => tb_l ((show ∀ w ∈ (vx_atS "BoundedCodes" 69 "java/lang/IllegalArgumentException" ["java/lang/RuntimeException", "java/lang/Exception"]).filter goodWord, w ∈ lw_tbl by decide +kernel) w h) (List.mem_filter.mp h).2
theorem xb_A : ∀ w ∈ (vx_atS "BoundedCodes" 69 "java/lang/IllegalArgumentException" ["java/lang/RuntimeException", "java/lang/Exception"]).filter (fun w => !goodWord w), w ∈ [Cond.castable "java/lang/IllegalArgumentException" "java/lang/IllegalArgumentException", .declares ⟨"java/lang/RuntimeException", "<init>", "(Ljava/lang/String;)V"⟩, .declares ⟨"java/lang/Exception", "<init>", "(Ljava/lang/String;)V"⟩, .declares ⟨"java/lang/Throwable", "<init>", "(Ljava/lang/String;)V"⟩] := by decide +kernel
theorem xg_A : ∀ w ∈ Cond.classLink "BoundedCodes" 65 "java/lang/IllegalArgumentException" :: Cond.initialized "java/lang/IllegalArgumentException" :: vx_atS "BoundedCodes" 69 "java/lang/IllegalArgumentException" ["java/lang/RuntimeException", "java/lang/Exception"], vx_ot w = true := by decide +kernel
theorem xa_S : ∀ w ∈ (vx_atS "BoundedCodes" 157 "java/lang/IllegalStateException" ["java/lang/RuntimeException", "java/lang/Exception"]).filter goodWord, w ∈ TB := fun w h => tb_l ((show ∀ w ∈ (vx_atS "BoundedCodes" 157 "java/lang/IllegalStateException" ["java/lang/RuntimeException", "java/lang/Exception"]).filter goodWord, w ∈ lw_tbl by decide +kernel) w h) (List.mem_filter.mp h).2
theorem xb_S : ∀ w ∈ (vx_atS "BoundedCodes" 157 "java/lang/IllegalStateException" ["java/lang/RuntimeException", "java/lang/Exception"]).filter (fun w => !goodWord w), w ∈ [Cond.castable "java/lang/IllegalStateException" "java/lang/IllegalStateException", .declares ⟨"java/lang/RuntimeException", "<init>", "(Ljava/lang/String;)V"⟩, .declares ⟨"java/lang/Exception", "<init>", "(Ljava/lang/String;)V"⟩, .declares ⟨"java/lang/Throwable", "<init>", "(Ljava/lang/String;)V"⟩] := by decide +kernel
theorem xg_S : ∀ w ∈ Cond.classLink "BoundedCodes" 153 "java/lang/IllegalStateException" :: Cond.initialized "java/lang/IllegalStateException" :: vx_atS "BoundedCodes" 157 "java/lang/IllegalStateException" ["java/lang/RuntimeException", "java/lang/Exception"], vx_ot w = true := by decide +kernel
def vaCs (C T : String) (U : State) : Prop := (Cond.castable C T).before #[] U = true
theorem vaCs.same {C T : String} {s U : State} (hv : s.vm = U.vm) (h : vaCs C T s) : vaCs C T U := va_tabs rfl hv h
theorem vaCs.warm {C T : String} {s U : State} (hW : s.WarmedH U.vm) (h : vaCs C T s) : vaCs C T U := by
  have h1 : (Cond.castable C T).before #[] (s.setVm U.vm) = true := by rw [Cond.castable_setVm hW.alike]; exact h
  exact va_tabs (u := s.setVm U.vm) rfl rfl h1
def vaDc (y : MethodName) (U : State) : Prop := (Cond.declares y).before #[] U = true
theorem vaDc.moved {y : MethodName} {u U : State} (hvm : u.vm.Alike U.vm) (h : vaDc y u) : vaDc y U := by
  have h1 : (Cond.declares y).before #[] (u.setVm U.vm) = true := by rw [Cond.declares_setVm hvm]; exact h
  exact va_tabs (u := u.setVm U.vm) rfl rfl h1
theorem vaDc.use {y : MethodName} {A : Array Value} {U : State} (h : vaDc y U) : (Cond.declares y).before A U = true := va_tabs rfl rfl h
theorem vaCs.use {C T : String} {A : Array Value} {U : State} (h : vaCs C T U) : (Cond.castable C T).before A U = true := va_tabs rfl rfl h
/-- what a throw asks of the tables beside the words: casts, and the texts -/
def XF (U : State) : Prop := vaCs "java/lang/IndexOutOfBoundsException" "java/lang/IndexOutOfBoundsException" U ∧ vaCs "java/lang/IllegalArgumentException" "java/lang/IllegalArgumentException" U ∧ vaCs "java/lang/IllegalStateException" "java/lang/IllegalStateException" U ∧ va_Nc "java/lang/IllegalArgumentException" "java/lang/IndexOutOfBoundsException" U ∧ va_Nc "java/lang/IllegalStateException" "java/lang/IndexOutOfBoundsException" U ∧ vaDc ⟨"java/lang/RuntimeException", "<init>", "(Ljava/lang/String;)V"⟩ U ∧ vaDc ⟨"java/lang/Exception", "<init>", "(Ljava/lang/String;)V"⟩ U ∧ vaDc ⟨"java/lang/Throwable", "<init>", "(Ljava/lang/String;)V"⟩ U ∧ (∃ sa, vk_R "BoundedCodes" 150 "there is no such symbol" sa U) ∧ (∃ sa, vk_R "BoundedCodes" 67 "the count is not 0 .. 1000000000" sa U) ∧ (∃ sa, vk_R "BoundedCodes" 72 "the most is not 1 .. 16" sa U) ∧ (∃ sa, vk_R "BoundedCodes" 155 "the table is over-full" sa U) ∧ (∃ sa, vk_R "BoundedCodes" 96 "the length is not 0 .. 16" sa U) ∧ (∃ sa, vk_R "BoundedCodes" 105 "the length is not 1 .. 16" sa U) ∧ (∃ sa, vk_R "BoundedCodes" 107 "the extra bits are not -32 .. 32" sa U) ∧ (∃ sa, vk_R "BoundedCodes" 113 "the bit is not 0 or 1" sa U) ∧ (∃ sa, vk_R "BoundedCodes" 137 "no symbol was read" sa U)
theorem XF.warm {s U : State} (hW : s.WarmedH U.vm) (h : XF s) : XF U := ⟨vaCs.warm hW h.1, vaCs.warm hW h.2.1, vaCs.warm hW h.2.2.1, va_Nc.moved (hW.alike) h.2.2.2.1, va_Nc.moved (hW.alike) h.2.2.2.2.1, vaDc.moved (hW.alike) h.2.2.2.2.2.1, vaDc.moved (hW.alike) h.2.2.2.2.2.2.1, vaDc.moved (hW.alike) h.2.2.2.2.2.2.2.1, (let ⟨sa, q⟩ := h.2.2.2.2.2.2.2.2.1; ⟨sa, vk_R.warm hW q⟩), (let ⟨sa, q⟩ := h.2.2.2.2.2.2.2.2.2.1; ⟨sa, vk_R.warm hW q⟩), (let ⟨sa, q⟩ := h.2.2.2.2.2.2.2.2.2.2.1; ⟨sa, vk_R.warm hW q⟩), (let ⟨sa, q⟩ := h.2.2.2.2.2.2.2.2.2.2.2.1; ⟨sa, vk_R.warm hW q⟩), (let ⟨sa, q⟩ := h.2.2.2.2.2.2.2.2.2.2.2.2.1; ⟨sa, vk_R.warm hW q⟩), (let ⟨sa, q⟩ := h.2.2.2.2.2.2.2.2.2.2.2.2.2.1; ⟨sa, vk_R.warm hW q⟩), (let ⟨sa, q⟩ := h.2.2.2.2.2.2.2.2.2.2.2.2.2.2.1; ⟨sa, vk_R.warm hW q⟩), (let ⟨sa, q⟩ := h.2.2.2.2.2.2.2.2.2.2.2.2.2.2.2.1; ⟨sa, vk_R.warm hW q⟩), (let ⟨sa, q⟩ := h.2.2.2.2.2.2.2.2.2.2.2.2.2.2.2.2; ⟨sa, vk_R.warm hW q⟩)⟩
theorem XF.same {s U : State} (hv : s.vm = U.vm) (h : XF s) : XF U := ⟨vaCs.same hv h.1, vaCs.same hv h.2.1, vaCs.same hv h.2.2.1, va_Nc.moved (by rw [← hv]; exact Vm.Alike.refl _) h.2.2.2.1, va_Nc.moved (by rw [← hv]; exact Vm.Alike.refl _) h.2.2.2.2.1, vaDc.moved (by rw [← hv]; exact Vm.Alike.refl _) h.2.2.2.2.2.1, vaDc.moved (by rw [← hv]; exact Vm.Alike.refl _) h.2.2.2.2.2.2.1, vaDc.moved (by rw [← hv]; exact Vm.Alike.refl _) h.2.2.2.2.2.2.2.1, (let ⟨sa, q⟩ := h.2.2.2.2.2.2.2.2.1; ⟨sa, vk_R.same hv.symm q⟩), (let ⟨sa, q⟩ := h.2.2.2.2.2.2.2.2.2.1; ⟨sa, vk_R.same hv.symm q⟩), (let ⟨sa, q⟩ := h.2.2.2.2.2.2.2.2.2.2.1; ⟨sa, vk_R.same hv.symm q⟩), (let ⟨sa, q⟩ := h.2.2.2.2.2.2.2.2.2.2.2.1; ⟨sa, vk_R.same hv.symm q⟩), (let ⟨sa, q⟩ := h.2.2.2.2.2.2.2.2.2.2.2.2.1; ⟨sa, vk_R.same hv.symm q⟩), (let ⟨sa, q⟩ := h.2.2.2.2.2.2.2.2.2.2.2.2.2.1; ⟨sa, vk_R.same hv.symm q⟩), (let ⟨sa, q⟩ := h.2.2.2.2.2.2.2.2.2.2.2.2.2.2.1; ⟨sa, vk_R.same hv.symm q⟩), (let ⟨sa, q⟩ := h.2.2.2.2.2.2.2.2.2.2.2.2.2.2.2.1; ⟨sa, vk_R.same hv.symm q⟩), (let ⟨sa, q⟩ := h.2.2.2.2.2.2.2.2.2.2.2.2.2.2.2.2; ⟨sa, vk_R.same hv.symm q⟩)⟩
def XS (A : Nat → Prop) (U : State) (H : Heap) : Prop := vx_Zq Jvm.Bundle.tN "UNASSIGNED_STACK" Jvm.Bundle.steD A U H ∧ vx_Zq Jvm.Bundle.tN "SUPPRESSED_SENTINEL" Jvm.Bundle.listD A U H
theorem XS.moved {A : Nat → Prop} {u U : State} {H : Heap} (hvm : u.vm.Alike U.vm) (h : XS A u H) : XS A U H := ⟨vx_Zq.moved hvm h.1, vx_Zq.moved hvm h.2⟩
theorem XS.kept {A : Nat → Prop} {U : State} {H H1 : Heap} (h : XS A U H) (hq : ∀ a : Nat, a < H.size → ¬ A a → H1[a]? = H[a]?) : XS A U H1 := ⟨vx_Zq.kept h.1 hq, vx_Zq.kept h.2 hq⟩
theorem XS.narrow {A B : Nat → Prop} {U : State} {H : Heap} (h : XS A U H) (hAB : ∀ q, B q → A q) : XS B U H := ⟨vx_Zq.narrow h.1 hAB, vx_Zq.narrow h.2 hAB⟩
def PCX (D : va_G) (cs : ClassId × ClassId × ClassId × ClassId) (av : List Value) (sz : Nat) (ws : va_W) : Array Value → State → Prop :=
  va_Pc av (fun U => U.heap.size = sz ∧ va_P D CLS ws U.heap ∧ va_K D CLS (tysG cs) U ∧ va_D (fun _ => True) ws ∧ NWs U ∧ XF U ∧ XS (va_A ws sz) U U.heap)
theorem PCX.blind {D : va_G} {cs : ClassId × ClassId × ClassId × ClassId} {av : List Value} {sz : Nat} {ws : va_W} : FrameBlind (PCX D cs av sz ws) := fun a U g mk q => by
  obtain ⟨q0, q1, qP, qK, qD, qN, qX, qS⟩ := q
  exact ⟨q0, q1, qP, va_K.moved (u := U) (U := U.calling g mk a) (Vm.Alike.refl U.vm) qK, qD, NWs.same (s := U) (U := U.calling g mk a) rfl qN, XF.same (s := U) (U := U.calling g mk a) rfl qX, XS.moved (u := U) (U := U.calling g mk a) (Vm.Alike.refl U.vm) qS⟩
abbrev QF (A : Nat → Prop) : Array Value → State → Outcome → State → Prop := va_Qv (fun (_ : Unit) => False) (fun _ _ => True) A
abbrev XC9 (D : va_G) (E : String) (ws : va_W) (A : Nat → Prop) : String → State → State → Prop := vx_X (fun (_ : Unit) => True) (fun E' _ t => E' = E ∧ va_P D CLS ws t.heap) A
/-- a method that throws E, and changes nothing -/
def MT (l : Launch) (y : MethodName) (k : Cond) (rm : Room) (D : va_G) (cs : ClassId × ClassId × ClassId × ClassId) (av : List Value) (ws : va_W) (E : String) : Prop :=
  ∀ sz, vx_Met l y (k :: TB) rm (PCX D cs av sz ws) (QF (va_A ws sz)) (XC9 D E ws (va_A ws sz)) 1 6 (va_A ws sz)
theorem MT.mk {l : Launch} {y : MethodName} {cc : ByteArray} {maxL : Nat} {ret : Option FieldType} {rm : Room} {D : va_G} {cs : ClassId × ClassId × ClassId × ClassId} {av : List Value} {ws : va_W} {E own : String}
    (hy : plainName y.cls = true) (ho : y.cls = own) (hn : (lg_sl av).length ≤ maxL)
    (body : ∀ (p : Program) (e : Env) (s : State) (m : MethodId) (below : List Frame) (meth : Method) (c : Code) (A : Nat → Prop), CX p s m av.toArray c cc maxL own D cs A → XF s → XS A s s.heap → (∀ x ∈ c.exceptionTable.toList, False) → meth.locks = false →
      GO p l e rm s m av.toArray below meth c 0 0 (vx_MQ below (QF A) (XC9 D E ws A) av.toArray s 1 6 A) A D maxL 0 (lv_args 0 av) [] ws) : MT l y (.code y cc maxL ret) rm D cs av ws E := by
  intro sz
  refine vx_ofW (cc := cc) (maxL := maxL) (ret := ret) hy rfl ?_
  intro p e s m args below meth c s₁ B hml hex hv
  obtain ⟨rfl, hsz, hP, hK, hD0, hNW, hXF, hXS⟩ := hv
  have hts := atoms_spec (ws := .code y cc maxL ret :: TB) B.pre
  have hown : s.vm.findClass own = some m.cls := by rw [← ho]; exact findClass_of_methodNamed B.named
  subst hsz
  have hD := hD0.self (sz := s.heap.size)
  have hl := lv_entry av hn
  rw [lg_entry_eq]
  exact body p e s m below meth c (va_A ws s.heap.size) ⟨⟨B.exec, B.bytes, hml, hown, fun w h => hts w (List.mem_cons_of_mem _ h)⟩, hK, fun q h => Or.inr h, hNW⟩ hXF hXS hex B.notSynchronized s.heap [] _ hP hD va_S.rf hl
section GR6
variable {p : Program} {l : Launch} {e : Env} {R : Room} {s : State} {m : MethodId} {args : Array Value} {below : List Frame} {meth : Method} {c : Code} {cells slots : Nat} {Q : State → Prop} {A : Nat → Prop} {D : va_G} {nL : Nat} {cc : ByteArray} {own : String} {cs : ClassId × ClassId × ClassId × ClassId}
variable {pc : Nat} {lv lv' : List (Nat × Value)} {st : List Value} {ws ws' : va_W}

theorem xc_of {E : String} {H : Heap} {locs : List Loc} (hP : va_P D CLS ws H) (hS : va_S A s.heap H locs) (t : State) (h1 : H.size ≤ t.heap.size) (h2 : ∀ q : Nat, q < H.size → t.heap[q]? = H[q]?) : XC9 D E ws A E s t := by
  refine ⟨(), trivial, ⟨rfl, hP.kept (fun k q hk => h2 q.1 (hP k q hk).lt)⟩, Nat.le_trans hS.1 h1, fun q hq hA => ?_⟩
  rw [h2 q (Nat.lt_of_lt_of_le hq hS.1)]
  exact hS.2.1 q hq hA
theorem g_throw (C : CX p s m args c cc nL "BoundedCodes" D cs A) (hl9 : l.stackTraces = false) {cls text : String} {ik is ic sa : Nat} {Qc : Array Value → State → Outcome → State → Prop} (hcls : Jvm.Bundle.fit cls = true) (wk : Cond.classLink "BoundedCodes" ik cls ∈ TB) (wi : Cond.initialized cls ∈ TB) (hstr : vk_R "BoundedCodes" is text sa s) (hcs : vaCs cls cls s)
    (xa : ∀ w ∈ (vx_atS "BoundedCodes" ic cls ["java/lang/RuntimeException", "java/lang/Exception"]).filter goodWord, w ∈ TB) (xb : ∀ w ∈ (vx_atS "BoundedCodes" ic cls ["java/lang/RuntimeException", "java/lang/Exception"]).filter (fun w => !goodWord w), w ∈ [Cond.castable cls cls, .declares ⟨"java/lang/RuntimeException", "<init>", "(Ljava/lang/String;)V"⟩, .declares ⟨"java/lang/Exception", "<init>", "(Ljava/lang/String;)V"⟩, .declares ⟨"java/lang/Throwable", "<init>", "(Ljava/lang/String;)V"⟩]) (xg : ∀ w ∈ Cond.classLink "BoundedCodes" ik cls :: Cond.initialized cls :: vx_atS "BoundedCodes" ic cls ["java/lang/RuntimeException", "java/lang/Exception"], vx_ot w = true)
    (xf : XF s) (xs : XS A s s.heap) (hex : ∀ x ∈ c.exceptionTable.toList, False) (hlk : meth.locks = false) (hR : 5 < R.frames ∧ 82 + (st.map fun v => v.category).sum ≤ R.locals ∧ 1 ≤ R.cells ∧ 6 ≤ R.slots)
    (d0 : decode cc pc = .ok (.new ik, 3)) (d3 : decode cc (pc + 3) = .ok (.dup, 1)) (d4 : decode cc (pc + 4) = .ok (.ldc is, 2)) (d6 : decode cc (pc + 6) = .ok (.invokespecial ic, 3)) (d9 : decode cc (pc + 9) = .ok (.athrow, 1)) :
    GO p l e R s m args below meth c 0 0 (vx_MQ below Qc (XC9 D cls ws A) args s 1 6 A) A D nL pc lv st ws := by
  obtain ⟨⟨hx, hb, hml, hown, ht⟩, hK, hA, hNW⟩ := C
  intro H locs ls hP hD hS hl
  exact vx_throwS hx hb hl9 hown hcls (by decide +kernel) (ht _ wk) (ht _ wi) hstr (vx_hat (fun w h => ht w (xa w h)) xb (vx_c hcs.use (vx_c (vaDc.use xf.2.2.2.2.2.1) (vx_c (vaDc.use xf.2.2.2.2.2.2.1) (vx_c (vaDc.use xf.2.2.2.2.2.2.2.1) vx_n))))) xg xs.1 xs.2 hS (hl.1.trans hml.symm) d0 d3 d4 d6 d9 (fun x h => (hex x h).elim) hR.1 (by have := hR.2.1; simp only [List.length_cons, List.length_nil]; omega) (by have := hR.2.2.1; omega) (by have := hR.2.2.2; omega) hlk (fun t _ h1 h2 => xc_of hP hS t h1 h2) hS.2.2 (Nat.le_refl _) (Nat.le_refl _)
theorem g_callVt_out (C : CX p s m args c cc nL own D cs A) {y : MethodName} {bytes : ByteArray} {maxL n index : Nat} {ret : Option FieldType} {rm : Room} {wc : va_W} {As rest st0 : List Value} {E : String} {b ci N : Nat} {C9 : String} {T : u_T} {fs : List Value} {Qc : Array Value → State → Outcome → State → Prop} (hM : MT l y (.code y bytes maxL ret) rm D cs (.ref b :: As) wc E) (w1 : Cond.methodLink own index y ∈ TB) (w2 : Cond.instanceMethod y ∈ TB) (w3 : Cond.selects C9 y y ∈ TB) (w4 : Cond.initialized C9 ∈ TB) (w5 : Cond.code y bytes maxL ret ∈ TB) (hcl : y.cls = C9) (q0 : Nat) (hrecv : wc[q0]? = some (b, .inr (ci, fs))) (hc9 : CLS[ci]? = some (C9, T, N))
    (xf : XF s) (xs : XS A s s.heap) (hex : ∀ x ∈ c.exceptionTable.toList, False) (hlk : meth.locks = false)
    (hnm : y.cls ≠ "java/lang/invoke/MethodHandle" ∧ y.cls ≠ "java/lang/invoke/VarHandle" ∧ (parseMethodDescriptor y.desc).map (fun d => d.parameters.length) = some n) (hnA : As.length = n)
    (hrm : rm.cells = 1 ∧ rm.slots = 6 ∧ (rm.frames + 1 ≤ R.frames ∧ 8 + (maxL + 11) + rm.locals ≤ R.locals) ∧ 0 + 1 ≤ R.cells ∧ 0 + 6 ≤ R.slots)
    (hst : st0 = As.reverse ++ .ref b :: rest) (isC : List Nat) (hC : isC.map (fun i => ws[i]?) = wc.map some) (hnd : va_nd isC = true) (hrest : (rest.map fun v => v.category).sum ≤ 8) (hws : wUpd ws isC wc = ws)
    (d : decode cc pc = .ok (.invokevirtual index, 3))  : GO p l e R s m args below meth c 0 0 (vx_MQ below Qc (XC9 D E ws A) args s 1 6 A) A D nL pc lv st0 ws := by
  obtain ⟨⟨hx, hb, hml, hown, ht⟩, hK, hA, hNW⟩ := C
  intro H locs ls hP hD hS hl
  have hPc : va_P D CLS wc H := hP.sub isC (by
    have e9 : isC.filterMap (fun i => ws[i]?) = (isC.map (fun i => ws[i]?)).filterMap id := by rw [List.filterMap_map]; rfl
    rw [e9, hC, List.filterMap_map]; simp)
  have hDc := hD.sub isC hnd hC
  have hKc := hK
  have hFc := va_free (wc := wc) hD hS hA isC hC
  have hpre : ∀ U : State, U.heap = H → s.WarmedH U.vm → PCX D cs (.ref b :: As) H.size wc (Value.ref b :: As).toArray U := fun U hU hW => ⟨rfl, by rw [hU], by rw [hU]; exact hPc, va_K.moved hW.alike hK, hDc.weaken (fun _ _ _ _ => trivial), NWs.warm hW hNW, XF.warm hW xf, by
    rw [hU]; exact XS.moved hW.alike ((xs.kept hS.2.1).narrow hFc)⟩
  refine vx_callv (vx_runV (As := As) (rest := rest) ⟨hx, hb, hml, hown, ht⟩ (hM H.size) (cwV n ht (tb_wsV w1 w2 w3 w4 w5) rfl hrm.1 hrm.2.1 ⟨hcl, hnm.1, hnm.2.1, hnm.2.2⟩ hrm.2.2.1) ⟨PCX.blind, va_recv hKc hPc (q0 := q0) hc9 hrecv, hpre⟩ rfl hnA hl.1 hst (lv_room hrest) d ⟨hrm.2.2.2.1, hrm.2.2.2.2⟩) hS (fun q _ h => hFc q h) hFc (fun q _ h => hFc q h) (fun E9 ce q9 u t H1 locs1 ht9 hvm hw hB hz1 hk1 hS1 hce hcv hcl9 => ?_) (fun u t H1 locs1 ht9 hvm hw hB hz1 hk1 hS1 => hw.elim)
  · rcases hB with ⟨rfl, hB⟩
    rw [ht9] at hB
    obtain ⟨hP9, hD9⟩ := w_upd isC hP hD hC rfl hk1 hB
    rw [hws] at hP9 hD9
    refine vx_widen (k := 1) (n := 6) (by omega) (by omega) ?_
    exact vx_out (fun x h => (hex x h).elim) hlk hce hcv hcl9 (fun t2 ht2 _ => xc_of hP9 hS1 t2 (by rw [ht2]; exact Nat.le_refl _) (fun q _ => by rw [ht2])) hS1.2.2 (Nat.le_refl _) (Nat.le_refl _)
theorem g_callSt_out (C : CX p s m args c cc nL own D cs A) {y : MethodName} {bytes : ByteArray} {maxL n index : Nat} {ret : Option FieldType} {rm : Room} {wc : va_W} {As rest st0 : List Value} {E : String}  {Qc : Array Value → State → Outcome → State → Prop} (hM : MT l y (.code y bytes maxL ret) rm D cs As wc E) (w1 : Cond.methodLink own index y ∈ TB) (w2 : Cond.static y ∈ TB) (w4 : Cond.initialized y.cls ∈ TB) (w5 : Cond.code y bytes maxL ret ∈ TB)
    (xf : XF s) (xs : XS A s s.heap) (hex : ∀ x ∈ c.exceptionTable.toList, False) (hlk : meth.locks = false)
    (hnm : y.cls ≠ "java/lang/invoke/MethodHandle" ∧ y.cls ≠ "java/lang/invoke/VarHandle" ∧ (parseMethodDescriptor y.desc).map (fun d => d.parameters.length) = some n) (hnA : As.length = n)
    (hrm : rm.cells = 1 ∧ rm.slots = 6 ∧ (rm.frames + 1 ≤ R.frames ∧ 8 + (maxL + 11) + rm.locals ≤ R.locals) ∧ 0 + 1 ≤ R.cells ∧ 0 + 6 ≤ R.slots)
    (hst : st0 = As.reverse ++ rest) (isC : List Nat) (hC : isC.map (fun i => ws[i]?) = wc.map some) (hnd : va_nd isC = true) (hrest : (rest.map fun v => v.category).sum ≤ 8) (hws : wUpd ws isC wc = ws)
    (d : decode cc pc = .ok (.invokestatic index, 3))  : GO p l e R s m args below meth c 0 0 (vx_MQ below Qc (XC9 D E ws A) args s 1 6 A) A D nL pc lv st0 ws := by
  obtain ⟨⟨hx, hb, hml, hown, ht⟩, hK, hA, hNW⟩ := C
  intro H locs ls hP hD hS hl
  have hPc : va_P D CLS wc H := hP.sub isC (by
    have e9 : isC.filterMap (fun i => ws[i]?) = (isC.map (fun i => ws[i]?)).filterMap id := by rw [List.filterMap_map]; rfl
    rw [e9, hC, List.filterMap_map]; simp)
  have hDc := hD.sub isC hnd hC
  have hKc := hK
  have hFc := va_free (wc := wc) hD hS hA isC hC
  have hpre : ∀ U : State, U.heap = H → s.WarmedH U.vm → PCX D cs As H.size wc (As).toArray U := fun U hU hW => ⟨rfl, by rw [hU], by rw [hU]; exact hPc, va_K.moved hW.alike hK, hDc.weaken (fun _ _ _ _ => trivial), NWs.warm hW hNW, XF.warm hW xf, by
    rw [hU]; exact XS.moved hW.alike ((xs.kept hS.2.1).narrow hFc)⟩
  refine vx_callv (vx_runS (As := As) (rest := rest) ⟨hx, hb, hml, hown, ht⟩ (hM H.size) (va_cwS n ht (tb_wsS w1 w2 w4 w5) rfl hrm.1 hrm.2.1 hnm hrm.2.2.1) ⟨PCX.blind, hpre⟩ rfl hnA hl.1 hst (lv_room hrest) d ⟨hrm.2.2.2.1, hrm.2.2.2.2⟩) hS (fun q _ h => hFc q h) hFc (fun q _ h => hFc q h) (fun E9 ce q9 u t H1 locs1 ht9 hvm hw hB hz1 hk1 hS1 hce hcv hcl9 => ?_) (fun u t H1 locs1 ht9 hvm hw hB hz1 hk1 hS1 => hw.elim)
  · rcases hB with ⟨rfl, hB⟩
    rw [ht9] at hB
    obtain ⟨hP9, hD9⟩ := w_upd isC hP hD hC rfl hk1 hB
    rw [hws] at hP9 hD9
    refine vx_widen (k := 1) (n := 6) (by omega) (by omega) ?_
    exact vx_out (fun x h => (hex x h).elim) hlk hce hcv hcl9 (fun t2 ht2 _ => xc_of hP9 hS1 t2 (by rw [ht2]; exact Nat.le_refl _) (fun q _ => by rw [ht2])) hS1.2.2 (Nat.le_refl _) (Nat.le_refl _)
theorem g_callVt_cat (C : CX p s m args c cc nL own D cs A) {y : MethodName} {bytes : ByteArray} {maxL n index : Nat} {ret : Option FieldType} {rm : Room} {wc : va_W} {As rest st0 : List Value} {E : String} {b ci N : Nat} {C9 : String} {T : u_T} {fs : List Value} {pc9 : Nat} (hM : MT l y (.code y bytes maxL ret) rm D cs (.ref b :: As) wc E) (w1 : Cond.methodLink own index y ∈ TB) (w2 : Cond.instanceMethod y ∈ TB) (w3 : Cond.selects C9 y y ∈ TB) (w4 : Cond.initialized C9 ∈ TB) (w5 : Cond.code y bytes maxL ret ∈ TB) (hcl : y.cls = C9) (q0 : Nat) (hrecv : wc[q0]? = some (b, .inr (ci, fs))) (hc9 : CLS[ci]? = some (C9, T, N))
    (xf : XF s) (xs : XS A s s.heap) (pre : List ExceptionTableEntry) (x9 : ExceptionTableEntry) (suf : List ExceptionTableEntry) (hsplit : c.exceptionTable.toList = pre ++ x9 :: suf) (hpass : ∀ z ∈ pre, covers z pc = false ∨ (z.catchType ≠ 0 ∧ ∃ nm : String, Cond.classLink own z.catchType nm ∈ TB ∧ va_Nc E nm s)) (hx9 : covers x9 pc = true) (h09 : x9.catchType ≠ 0) (wl : Cond.classLink own x9.catchType E ∈ TB) (hcs : vaCs E E s) (hpc : x9.handlerPc = pc9)
    (hnm : y.cls ≠ "java/lang/invoke/MethodHandle" ∧ y.cls ≠ "java/lang/invoke/VarHandle" ∧ (parseMethodDescriptor y.desc).map (fun d => d.parameters.length) = some n) (hnA : As.length = n)
    (hrm : rm.cells = 1 ∧ rm.slots = 6 ∧ (rm.frames + 1 ≤ R.frames ∧ 8 + (maxL + 11) + rm.locals ≤ R.locals) ∧ 0 + 1 ≤ R.cells ∧ 0 + 6 ≤ R.slots)
    (hst : st0 = As.reverse ++ .ref b :: rest) (isC : List Nat) (hC : isC.map (fun i => ws[i]?) = wc.map some) (hnd : va_nd isC = true) (hrest : (rest.map fun v => v.category).sum ≤ 8) (hws : wUpd ws isC wc = ws)
    (d : decode cc pc = .ok (.invokevirtual index, 3)) (g : ∀ q9 : Nat, GO p l e R s m args below meth c 1 6 Q A D nL pc9 lv [.ref q9] ws) : GO p l e R s m args below meth c 0 0 Q A D nL pc lv st0 ws := by
  obtain ⟨⟨hx, hb, hml, hown, ht⟩, hK, hA, hNW⟩ := C
  intro H locs ls hP hD hS hl
  have hPc : va_P D CLS wc H := hP.sub isC (by
    have e9 : isC.filterMap (fun i => ws[i]?) = (isC.map (fun i => ws[i]?)).filterMap id := by rw [List.filterMap_map]; rfl
    rw [e9, hC, List.filterMap_map]; simp)
  have hDc := hD.sub isC hnd hC
  have hKc := hK
  have hFc := va_free (wc := wc) hD hS hA isC hC
  have hpre : ∀ U : State, U.heap = H → s.WarmedH U.vm → PCX D cs (.ref b :: As) H.size wc (Value.ref b :: As).toArray U := fun U hU hW => ⟨rfl, by rw [hU], by rw [hU]; exact hPc, va_K.moved hW.alike hK, hDc.weaken (fun _ _ _ _ => trivial), NWs.warm hW hNW, XF.warm hW xf, by
    rw [hU]; exact XS.moved hW.alike ((xs.kept hS.2.1).narrow hFc)⟩
  refine vx_callv (vx_runV (As := As) (rest := rest) ⟨hx, hb, hml, hown, ht⟩ (hM H.size) (cwV n ht (tb_wsV w1 w2 w3 w4 w5) rfl hrm.1 hrm.2.1 ⟨hcl, hnm.1, hnm.2.1, hnm.2.2⟩ hrm.2.2.1) ⟨PCX.blind, va_recv hKc hPc (q0 := q0) hc9 hrecv, hpre⟩ rfl hnA hl.1 hst (lv_room hrest) d ⟨hrm.2.2.2.1, hrm.2.2.2.2⟩) hS (fun q _ h => hFc q h) hFc (fun q _ h => hFc q h) (fun E9 ce q9 u t H1 locs1 ht9 hvm hw hB hz1 hk1 hS1 hce hcv hcl9 => ?_) (fun u t H1 locs1 ht9 hvm hw hB hz1 hk1 hS1 => hw.elim)
  · rcases hB with ⟨rfl, hB⟩
    rw [ht9] at hB
    obtain ⟨hP9, hD9⟩ := w_upd isC hP hD hC rfl hk1 hB
    rw [hws] at hP9 hD9
    refine vx_catch hown pre x9 suf hsplit (fun z hz => (hpass z hz).imp id (fun h => ⟨h.1, h.2.choose, ht _ h.2.choose_spec.1, h.2.choose_spec.2⟩)) hx9 h09 (ht _ wl) hcs.use hce hcv hcl9 ?_
    rw [hpc]
    exact W.widen (by omega) (by omega) (g q9 H1 locs1 ls hP9 hD9 hS1 hl)
end GR6
