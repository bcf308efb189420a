/-- contracts: the world ws before, the answer and the world behind -/
def PCW (D : va_G) (cs : ClassId × ClassId × ClassId × ClassId) (av : List Value) (sz : Nat) (ws : va_W) : Array Value → State → Prop :=
  va_Pc av (fun U => U.heap.size = sz ∧ va_P D CLS ws U.heap ∧ va_K D CLS (tysG cs) U ∧ va_D (fun _ => True) ws ∧ NWs U)
abbrev QI (D : va_G) (r : Int32) (ws' : va_W) (A : Nat → Prop) : Array Value → State → Outcome → State → Prop := va_Qi (fun x (_ : Unit) => x = r) (fun _ t => va_P D CLS ws' t.heap) A
abbrev QL (D : va_G) (r : Int64) (ws' : va_W) (A : Nat → Prop) : Array Value → State → Outcome → State → Prop := va_Ql (fun x (_ : Unit) => x = r) (fun _ t => va_P D CLS ws' t.heap) A
abbrev QV (D : va_G) (ws' : va_W) (A : Nat → Prop) : Array Value → State → Outcome → State → Prop := va_Qv (fun (_ : Unit) => True) (fun _ t => va_P D CLS ws' t.heap) A
def MG (l : Launch) (y : MethodName) (k : Cond) (rm : Room) (D : va_G) (cs : ClassId × ClassId × ClassId × ClassId) (av : List Value) (ws : va_W) (Qf : (Nat → Prop) → Array Value → State → Outcome → State → Prop) : Prop :=
  ∀ sz, Met l y (k :: TB) rm (PCW D cs av sz ws) (Qf (va_A ws sz)) 0 0 (va_A ws sz)
theorem MG.mk {l : Launch} {y : MethodName} {cc : ByteArray} {maxL : Nat} {ret : Option FieldType} {rm : Room} {D : va_G} {cs : ClassId × ClassId × ClassId × ClassId} {av : List Value} {ws : va_W} {Qf : (Nat → Prop) → Array Value → State → Outcome → State → Prop} {own : String}
    (hy : plainName y.cls = true) (ho : y.cls = own) (hn : (lg_sl av).length ≤ maxL)
    (body : ∀ (p : Program) (e : Env) (s : State) (m : MethodId) (below : List Frame) (meth : Method) (c : Code) (A : Nat → Prop), CX p s m av.toArray c cc maxL own D cs A → meth.sig.returnType = ret → meth.locks = false →
      GO p l e rm s m av.toArray below meth c 0 0 (MQ below (Qf A) av.toArray s 0 0 A) A D maxL 0 (lv_args 0 av) [] ws) : MG l y (.code y cc maxL ret) rm D cs av ws Qf := by
  intro sz
  refine Met.ofW (cc := cc) (maxL := maxL) (ret := ret) hy rfl ?_
  intro p e s m args below meth c s₁ B hml hv
  obtain ⟨rfl, hsz, hP, hK, hD0, hNW⟩ := hv
  have hts := atoms_spec (ws := .code y cc maxL ret :: TB) B.pre
  have hown : s.vm.findClass own = some m.cls := by rw [← ho]; exact findClass_of_methodNamed B.named
  subst hsz
  have hD := hD0.self (sz := s.heap.size)
  have hl := lv_entry av hn
  rw [lg_entry_eq]
  exact body p e s m below meth c (va_A ws s.heap.size) ⟨⟨B.exec, B.bytes, hml, hown, fun w h => hts w (List.mem_cons_of_mem _ h)⟩, hK, fun q h => Or.inr h, hNW⟩ B.returns B.notSynchronized s.heap [] _ hP hD va_S.rf hl
theorem PCW.blind {D : va_G} {cs : ClassId × ClassId × ClassId × ClassId} {av : List Value} {sz : Nat} {ws : va_W} : FrameBlind (PCW D cs av sz ws) := fun a U g mk q => by
  obtain ⟨q0, q1, qP, qK, qD, qN⟩ := q
  exact ⟨q0, q1, qP, va_K.moved (u := U) (U := U.calling g mk a) (Vm.Alike.refl U.vm) qK, qD, NWs.same (s := U) (U := U.calling g mk a) rfl qN⟩
/-- a world whose places isC hold other things at the same addresses -/
def wUpd : va_W → List Nat → va_W → va_W
  | ws, i :: is, c :: cs => wUpd (ws.set i c) is cs
  | ws, _, _ => ws
theorem wUpd_at : ∀ (isC : List Nat) (ws wc : va_W), (∀ (j i : Nat) (c : Nat × va_E), isC[j]? = some i → wc[j]? = some c → ∃ e, ws[i]? = some (c.1, e)) → isC.length = wc.length →
    (∀ (k : Nat) (q : Nat × va_E), (wUpd ws isC wc)[k]? = some q → q ∈ wc ∨ (k ∉ isC ∧ ws[k]? = some q)) ∧ (∀ k : Nat, ((wUpd ws isC wc)[k]?).map (·.1) = (ws[k]?).map (·.1))
  | [], ws, [], _, _ => ⟨fun k q h => Or.inr ⟨List.not_mem_nil, h⟩, fun k => rfl⟩
  | [], ws, c :: cs, _, hl => by simp at hl
  | i :: is, ws, [], _, hl => by simp at hl
  | i :: is, ws, c :: cs, h, hl => by
    obtain ⟨e0, he0⟩ := h 0 i c rfl rfl
    have hlt := (List.getElem?_eq_some_iff.mp he0).1
    have hset : ∀ k : Nat, ((ws.set i c)[k]?).map (·.1) = (ws[k]?).map (·.1) := by
      intro k
      by_cases hk : i = k
      · subst hk
        rw [List.getElem?_set_self hlt, he0]; rfl
      · rw [List.getElem?_set_ne hk]
    have ih := wUpd_at is (ws.set i c) cs (fun j i2 c2 h1 h2 => by
      obtain ⟨e2, he2⟩ := h (j + 1) i2 c2 (by simpa using h1) (by simpa using h2)
      have h3 := hset i2
      rw [he2] at h3
      cases h4 : (ws.set i c)[i2]? with
      | none => rw [h4] at h3; cases h3
      | some x =>
        rw [h4] at h3
        have : x.1 = c2.1 := by simpa using h3
        exact ⟨x.2, by rw [← this]⟩) (by simpa using hl)
    refine ⟨fun k q hq => ?_, fun k => (ih.2 k).trans (hset k)⟩
    rcases ih.1 k q hq with h1 | ⟨h1, h2⟩
    · exact Or.inl (List.mem_cons_of_mem _ h1)
    · by_cases hk : i = k
      · subst hk
        rw [List.getElem?_set_self hlt] at h2
        cases h2
        exact Or.inl List.mem_cons_self
      · rw [List.getElem?_set_ne hk] at h2
        exact Or.inr ⟨fun q9 => (List.mem_cons.mp q9).elim (fun q8 => hk q8.symm) h1, h2⟩
theorem va_D.addr {A : Nat → Prop} {ws ws2 : va_W} (hD : va_D A ws) (h : ∀ k : Nat, (ws2[k]?).map (·.1) = (ws[k]?).map (·.1)) : va_D A ws2 := by
  have key : ∀ (k : Nat) (q : Nat × va_E), ws2[k]? = some q → ∃ q0, ws[k]? = some q0 ∧ q0.1 = q.1 := by
    intro k q hk
    have h1 := h k
    rw [hk] at h1
    cases h2 : ws[k]? with
    | none => rw [h2] at h1; cases h1
    | some x => rw [h2] at h1; exact ⟨x, rfl, by simpa using h1.symm⟩
  refine ⟨fun i j x y hi hj hxy => ?_, fun k q hk => ?_⟩
  · obtain ⟨x0, h1, h2⟩ := key i x hi
    obtain ⟨y0, h3, h4⟩ := key j y hj
    exact hD.1 i j x0 y0 h1 h3 (h2.trans (hxy.trans h4.symm))
  · obtain ⟨q0, h1, h2⟩ := key k q hk
    rw [← h2]
    exact hD.2 k q0 h1
theorem w_upd {D : va_G} {A : Nat → Prop} {ws wc wc' : va_W} {H H1 : Heap} (isC : List Nat) (hP : va_P D CLS ws H) (hD : va_D A ws) (hC : isC.map (fun i => ws[i]?) = wc.map some) (hadr : wc'.map (·.1) = wc.map (·.1))
    (hk : ∀ q : Nat, q < H.size → ¬ va_A wc H.size q → H1[q]? = H[q]?) (hP1 : va_P D CLS wc' H1) : va_P D CLS (wUpd ws isC wc') H1 ∧ va_D A (wUpd ws isC wc') := by
  have hlen : isC.length = wc.length := by simpa using congrArg List.length hC
  have hlen' : wc'.length = wc.length := by simpa using congrArg List.length hadr
  have hat : ∀ (j i : Nat) (c : Nat × va_E), isC[j]? = some i → wc[j]? = some c → ws[i]? = some c := by
    intro j i c h1 h2
    have h3 : (isC.map (fun i => ws[i]?))[j]? = (wc.map some)[j]? := by rw [hC]
    rw [List.getElem?_map, List.getElem?_map, h1, h2] at h3
    simpa using h3
  have hadr2 : ∀ (j : Nat) (c : Nat × va_E), wc'[j]? = some c → ∃ c0, wc[j]? = some c0 ∧ c0.1 = c.1 := by
    intro j c h1
    have h3 : (wc'.map (·.1))[j]? = (wc.map (·.1))[j]? := by rw [hadr]
    rw [List.getElem?_map, List.getElem?_map, h1] at h3
    cases h2 : wc[j]? with
    | none => rw [h2] at h3; cases h3
    | some x => rw [h2] at h3; exact ⟨x, rfl, by simpa using h3.symm⟩
  obtain ⟨u1, u2⟩ := wUpd_at isC ws wc' (fun j i c h1 h2 => by
    obtain ⟨c0, h3, h4⟩ := hadr2 j c h2
    exact ⟨c0.2, by rw [← h4]; exact hat j i c0 h1 h3⟩) (hlen.trans hlen'.symm)
  refine ⟨fun k q hq => ?_, hD.addr u2⟩
  rcases u1 k q hq with h1 | ⟨h1, h2⟩
  · obtain ⟨j, hj⟩ := List.getElem?_of_mem h1
    exact hP1 j q hj
  · have hlt := (hP k q h2).lt
    refine (hP k q h2).kept (hk q.1 hlt ?_)
    rintro (⟨j, e9, hj⟩ | h9)
    · have hj2 : j < isC.length := by rw [hlen]; exact (List.getElem?_eq_some_iff.mp hj).1
      have hij : isC[j]? = some isC[j] := List.getElem?_eq_getElem hj2
      have := hD.1 k isC[j] q (q.1, e9) h2 (hat j _ _ hij hj) rfl
      exact h1 (by rw [this]; exact List.getElem_mem hj2)
    · omega
theorem tb_wsV {own C : String} {idx : Nat} {y : MethodName} {k : Cond} (w1 : Cond.methodLink own idx y ∈ TB) (w2 : Cond.instanceMethod y ∈ TB) (w3 : Cond.selects C y y ∈ TB) (w4 : Cond.initialized C ∈ TB) (w5 : k ∈ TB) : GoodIn TB (wsV own idx C y (k :: TB)) := by
  intro w h
  have h : w ∈ ([.methodLink own idx y, .instanceMethod y, .selects C y y, .initialized C] : List Cond) ++ (k :: TB) := h
  rcases List.mem_append.mp h with h | h
  · have : w ∈ TB := by
      simp only [List.mem_cons, List.not_mem_nil, or_false] at h
      rcases h with rfl | rfl | rfl | rfl
      · exact w1
      · exact w2
      · exact w3
      · exact w4
    exact ⟨this, tb_good this⟩
  · exact tb_cons w5 w h
theorem tb_wsS {own : String} {idx : Nat} {y : MethodName} {k : Cond} (w1 : Cond.methodLink own idx y ∈ TB) (w2 : Cond.static y ∈ TB) (w4 : Cond.initialized y.cls ∈ TB) (w5 : k ∈ TB) : GoodIn TB (va_wsS own idx y (k :: TB)) := by
  intro w h
  have h : w ∈ ([.methodLink own idx y, .static y, .initialized y.cls] : List Cond) ++ (k :: TB) := h
  rcases List.mem_append.mp h with h | h
  · have : w ∈ TB := by
      simp only [List.mem_cons, List.not_mem_nil, or_false] at h
      rcases h with rfl | rfl | rfl
      · exact w1
      · exact w2
      · exact w4
    exact ⟨this, tb_good this⟩
  · exact tb_cons w5 w h
section GR3
variable {p : Program} {l : Launch} {e : Env} {R : Room} {s : State} {m : MethodId} {args : Array Value} {below : List Frame} {meth : Method} {c : Code} {cells slots : Nat} {Q : State → Prop} {A : Nat → Prop} {D : va_G} {nL : Nat} {cc : ByteArray} {own : String} {cs : ClassId × ClassId × ClassId × ClassId}
variable {pc : Nat} {lv lv' : List (Nat × Value)} {st : List Value} {ws ws' : va_W}


theorem g_iret (C : CX p s m args c cc nL own D cs A) {v r : Int32} (hr : meth.sig.returnType = some .int) (hlocks : meth.locks = false) (hv : v = r) (hws : ws = ws') (d : decode cc pc = .ok (.ireturn, 1)) : GO p l e R s m args below meth c cells slots (MQ below (QI D r ws' A) args s cells slots A) A D nL pc lv [.int v] ws := by
  obtain ⟨⟨hx, hb, hml, hown, ht⟩, hK, hA⟩ := C
  intro H locs ls hP hD hS hl
  subst hws
  exact W.iret (v := v) hx hb hr (fun t ht hW => ⟨⟨v, (), rfl, hv, by show va_P D CLS ws t.heap; rw [ht]; exact hP⟩, hS.F ht⟩) hS.2.2 d hlocks
theorem g_zret (C : CX p s m args c cc nL own D cs A) {v r : Int32} (hr : meth.sig.returnType = some .boolean) (hlocks : meth.locks = false) (hn : narrow .boolean (.int v) = .int v) (hv : v = r) (hws : ws = ws') (d : decode cc pc = .ok (.ireturn, 1)) : GO p l e R s m args below meth c cells slots (MQ below (QI D r ws' A) args s cells slots A) A D nL pc lv [.int v] ws := by
  obtain ⟨⟨hx, hb, hml, hown, ht⟩, hK, hA⟩ := C
  intro H locs ls hP hD hS hl
  subst hws
  exact W.zret (v := v) hx hb hr hn (fun t ht hW => ⟨⟨v, (), rfl, hv, by show va_P D CLS ws t.heap; rw [ht]; exact hP⟩, hS.F ht⟩) hS.2.2 d hlocks
theorem g_lret (C : CX p s m args c cc nL own D cs A) {v r : Int64} (hr : meth.sig.returnType = some .long) (hlocks : meth.locks = false) (hv : v = r) (hws : ws = ws') (d : decode cc pc = .ok (.lreturn, 1)) : GO p l e R s m args below meth c cells slots (MQ below (QL D r ws' A) args s cells slots A) A D nL pc lv [.long v] ws := by
  obtain ⟨⟨hx, hb, hml, hown, ht⟩, hK, hA⟩ := C
  intro H locs ls hP hD hS hl
  subst hws
  exact W.lret (v := v) hx hb hr (fun t ht hW => ⟨⟨v, (), rfl, hv, by show va_P D CLS ws t.heap; rw [ht]; exact hP⟩, hS.F ht⟩) hS.2.2 d hlocks
theorem g_vret (C : CX p s m args c cc nL own D cs A) (hr : meth.sig.returnType = none) (hlocks : meth.locks = false) (hws : ws = ws') (d : decode cc pc = .ok (.return_, 1)) : GO p l e R s m args below meth c cells slots (MQ below (QV D ws' A) args s cells slots A) A D nL pc lv [] ws := by
  obtain ⟨⟨hx, hb, hml, hown, ht⟩, hK, hA⟩ := C
  intro H locs ls hP hD hS hl
  subst hws
  exact W.vret hx hb hr (fun t ht hW => ⟨⟨(), rfl, trivial, by show va_P D CLS ws t.heap; rw [ht]; exact hP⟩, hS.F ht⟩) hS.2.2 d hlocks

theorem g_callVi (C : CX p s m args c cc nL own D cs A) {y : MethodName} {bytes : ByteArray} {maxL n index : Nat} {ret : Option FieldType} {rm : Room} {wc wc' : va_W} {As rest st0 : List Value} {b ci N : Nat} {C9 : String} {T : u_T} {fs : List Value} {r : Int32} (hM : MG l y (.code y bytes maxL ret) rm D cs (.ref b :: As) wc (QI D r wc')) (w1 : Cond.methodLink own index y ∈ TB) (w2 : Cond.instanceMethod y ∈ TB) (w3 : Cond.selects C9 y y ∈ TB) (w4 : Cond.initialized C9 ∈ TB) (w5 : Cond.code y bytes maxL ret ∈ TB) (hcl : y.cls = C9) (q0 : Nat) (hrecv : wc[q0]? = some (b, .inr (ci, fs))) (hc9 : CLS[ci]? = some (C9, T, N))
    (hnm : y.cls ≠ "java/lang/invoke/MethodHandle" ∧ y.cls ≠ "java/lang/invoke/VarHandle" ∧ (parseMethodDescriptor y.desc).map (fun d => d.parameters.length) = some n) (hnA : As.length = n)
    (hrm : rm.cells = 0 ∧ rm.slots = 0 ∧ (rm.frames + 1 ≤ R.frames ∧ 8 + (maxL + 11) + rm.locals ≤ R.locals) ∧ cells + 0 ≤ R.cells ∧ slots + 0 ≤ R.slots)
    (hst : st0 = As.reverse ++ .ref b :: rest) (isC : List Nat) (hC : isC.map (fun i => ws[i]?) = wc.map some) (hadr : wc'.map (·.1) = wc.map (·.1)) (hnd : va_nd isC = true) (hrest : (rest.map fun v => v.category).sum ≤ 8) (hws : wUpd ws isC wc' = ws')
    (d : decode cc pc = .ok (.invokevirtual index, 3)) (g : GO p l e R s m args below meth c cells slots Q A D nL (pc + 3) lv (.int r :: rest) ws') : GO p l e R s m args below meth c cells slots Q A D nL pc lv st0 ws := by
  obtain ⟨⟨hx, hb, hml, hown, ht⟩, hK, hA, hNW⟩ := C
  intro H locs ls hP hD hS hl
  have hPc : va_P D CLS wc H := hP.sub isC (by
    have e9 : isC.filterMap (fun i => ws[i]?) = (isC.map (fun i => ws[i]?)).filterMap id := by rw [List.filterMap_map]; rfl
    rw [e9, hC, List.filterMap_map]; simp)
  have hDc := hD.sub isC hnd hC
  have hKc := hK
  have hFc := va_free (wc := wc) hD hS hA isC hC
  have hpre : ∀ U : State, U.heap = H → s.WarmedH U.vm → PCW D cs (.ref b :: As) H.size wc (Value.ref b :: As).toArray U := fun U hU hW => ⟨rfl, by rw [hU], by rw [hU]; exact hPc, va_K.moved hW.alike hK, hDc.weaken (fun _ _ _ _ => trivial), NWs.warm hW hNW⟩
  refine va_calli (va_runV (As := As) (rest := rest) ⟨hx, hb, hml, hown, ht⟩ (hM H.size) (cwV n ht (tb_wsV w1 w2 w3 w4 w5) rfl hrm.1 hrm.2.1 ⟨hcl, hnm.1, hnm.2.1, hnm.2.2⟩ hrm.2.2.1) ⟨PCW.blind, va_recv hKc hPc (q0 := q0) hc9 hrecv, hpre⟩ rfl hnA hl.1 hst (lv_room hrest) d ⟨hrm.2.2.2.1, hrm.2.2.2.2⟩) hS (fun q _ h => hFc q h) hFc (fun r_ u t H1 locs1 ht9 hvm hw hB hz1 hk1 hS1 => ?_)
  subst hw
  rw [ht9] at hB
  obtain ⟨hP9, hD9⟩ := w_upd isC hP hD hC hadr hk1 hB
  rw [hws] at hP9 hD9
  exact g H1 locs1 ls hP9 hD9 hS1 hl
theorem g_callVl (C : CX p s m args c cc nL own D cs A) {y : MethodName} {bytes : ByteArray} {maxL n index : Nat} {ret : Option FieldType} {rm : Room} {wc wc' : va_W} {As rest st0 : List Value} {b ci N : Nat} {C9 : String} {T : u_T} {fs : List Value} {r : Int64} (hM : MG l y (.code y bytes maxL ret) rm D cs (.ref b :: As) wc (QL D r wc')) (w1 : Cond.methodLink own index y ∈ TB) (w2 : Cond.instanceMethod y ∈ TB) (w3 : Cond.selects C9 y y ∈ TB) (w4 : Cond.initialized C9 ∈ TB) (w5 : Cond.code y bytes maxL ret ∈ TB) (hcl : y.cls = C9) (q0 : Nat) (hrecv : wc[q0]? = some (b, .inr (ci, fs))) (hc9 : CLS[ci]? = some (C9, T, N))
    (hnm : y.cls ≠ "java/lang/invoke/MethodHandle" ∧ y.cls ≠ "java/lang/invoke/VarHandle" ∧ (parseMethodDescriptor y.desc).map (fun d => d.parameters.length) = some n) (hnA : As.length = n)
    (hrm : rm.cells = 0 ∧ rm.slots = 0 ∧ (rm.frames + 1 ≤ R.frames ∧ 8 + (maxL + 11) + rm.locals ≤ R.locals) ∧ cells + 0 ≤ R.cells ∧ slots + 0 ≤ R.slots)
    (hst : st0 = As.reverse ++ .ref b :: rest) (isC : List Nat) (hC : isC.map (fun i => ws[i]?) = wc.map some) (hadr : wc'.map (·.1) = wc.map (·.1)) (hnd : va_nd isC = true) (hrest : (rest.map fun v => v.category).sum ≤ 8) (hws : wUpd ws isC wc' = ws')
    (d : decode cc pc = .ok (.invokevirtual index, 3)) (g : GO p l e R s m args below meth c cells slots Q A D nL (pc + 3) lv (.long r :: rest) ws') : GO p l e R s m args below meth c cells slots Q A D nL pc lv st0 ws := by
  obtain ⟨⟨hx, hb, hml, hown, ht⟩, hK, hA, hNW⟩ := C
  intro H locs ls hP hD hS hl
  have hPc : va_P D CLS wc H := hP.sub isC (by
    have e9 : isC.filterMap (fun i => ws[i]?) = (isC.map (fun i => ws[i]?)).filterMap id := by rw [List.filterMap_map]; rfl
    rw [e9, hC, List.filterMap_map]; simp)
  have hDc := hD.sub isC hnd hC
  have hKc := hK
  have hFc := va_free (wc := wc) hD hS hA isC hC
  have hpre : ∀ U : State, U.heap = H → s.WarmedH U.vm → PCW D cs (.ref b :: As) H.size wc (Value.ref b :: As).toArray U := fun U hU hW => ⟨rfl, by rw [hU], by rw [hU]; exact hPc, va_K.moved hW.alike hK, hDc.weaken (fun _ _ _ _ => trivial), NWs.warm hW hNW⟩
  refine va_calll (va_runV (As := As) (rest := rest) ⟨hx, hb, hml, hown, ht⟩ (hM H.size) (cwV n ht (tb_wsV w1 w2 w3 w4 w5) rfl hrm.1 hrm.2.1 ⟨hcl, hnm.1, hnm.2.1, hnm.2.2⟩ hrm.2.2.1) ⟨PCW.blind, va_recv hKc hPc (q0 := q0) hc9 hrecv, hpre⟩ rfl hnA hl.1 hst (lv_room hrest) d ⟨hrm.2.2.2.1, hrm.2.2.2.2⟩) hS (fun q _ h => hFc q h) hFc (fun r_ u t H1 locs1 ht9 hvm hw hB hz1 hk1 hS1 => ?_)
  subst hw
  rw [ht9] at hB
  obtain ⟨hP9, hD9⟩ := w_upd isC hP hD hC hadr hk1 hB
  rw [hws] at hP9 hD9
  exact g H1 locs1 ls hP9 hD9 hS1 hl
theorem g_callVv (C : CX p s m args c cc nL own D cs A) {y : MethodName} {bytes : ByteArray} {maxL n index : Nat} {ret : Option FieldType} {rm : Room} {wc wc' : va_W} {As rest st0 : List Value} {b ci N : Nat} {C9 : String} {T : u_T} {fs : List Value}  (hM : MG l y (.code y bytes maxL ret) rm D cs (.ref b :: As) wc (QV D wc')) (w1 : Cond.methodLink own index y ∈ TB) (w2 : Cond.instanceMethod y ∈ TB) (w3 : Cond.selects C9 y y ∈ TB) (w4 : Cond.initialized C9 ∈ TB) (w5 : Cond.code y bytes maxL ret ∈ TB) (hcl : y.cls = C9) (q0 : Nat) (hrecv : wc[q0]? = some (b, .inr (ci, fs))) (hc9 : CLS[ci]? = some (C9, T, N))
    (hnm : y.cls ≠ "java/lang/invoke/MethodHandle" ∧ y.cls ≠ "java/lang/invoke/VarHandle" ∧ (parseMethodDescriptor y.desc).map (fun d => d.parameters.length) = some n) (hnA : As.length = n)
    (hrm : rm.cells = 0 ∧ rm.slots = 0 ∧ (rm.frames + 1 ≤ R.frames ∧ 8 + (maxL + 11) + rm.locals ≤ R.locals) ∧ cells + 0 ≤ R.cells ∧ slots + 0 ≤ R.slots)
    (hst : st0 = As.reverse ++ .ref b :: rest) (isC : List Nat) (hC : isC.map (fun i => ws[i]?) = wc.map some) (hadr : wc'.map (·.1) = wc.map (·.1)) (hnd : va_nd isC = true) (hrest : (rest.map fun v => v.category).sum ≤ 8) (hws : wUpd ws isC wc' = ws')
    (d : decode cc pc = .ok (.invokevirtual index, 3)) (g : GO p l e R s m args below meth c cells slots Q A D nL (pc + 3) lv rest ws') : GO p l e R s m args below meth c cells slots Q A D nL pc lv st0 ws := by
  obtain ⟨⟨hx, hb, hml, hown, ht⟩, hK, hA, hNW⟩ := C
  intro H locs ls hP hD hS hl
  have hPc : va_P D CLS wc H := hP.sub isC (by
    have e9 : isC.filterMap (fun i => ws[i]?) = (isC.map (fun i => ws[i]?)).filterMap id := by rw [List.filterMap_map]; rfl
    rw [e9, hC, List.filterMap_map]; simp)
  have hDc := hD.sub isC hnd hC
  have hKc := hK
  have hFc := va_free (wc := wc) hD hS hA isC hC
  have hpre : ∀ U : State, U.heap = H → s.WarmedH U.vm → PCW D cs (.ref b :: As) H.size wc (Value.ref b :: As).toArray U := fun U hU hW => ⟨rfl, by rw [hU], by rw [hU]; exact hPc, va_K.moved hW.alike hK, hDc.weaken (fun _ _ _ _ => trivial), NWs.warm hW hNW⟩
  refine va_callv (va_runV (As := As) (rest := rest) ⟨hx, hb, hml, hown, ht⟩ (hM H.size) (cwV n ht (tb_wsV w1 w2 w3 w4 w5) rfl hrm.1 hrm.2.1 ⟨hcl, hnm.1, hnm.2.1, hnm.2.2⟩ hrm.2.2.1) ⟨PCW.blind, va_recv hKc hPc (q0 := q0) hc9 hrecv, hpre⟩ rfl hnA hl.1 hst (lv_room hrest) d ⟨hrm.2.2.2.1, hrm.2.2.2.2⟩) hS (fun q _ h => hFc q h) hFc (fun u t H1 locs1 ht9 hvm hw hB hz1 hk1 hS1 => ?_)
  rw [ht9] at hB
  obtain ⟨hP9, hD9⟩ := w_upd isC hP hD hC hadr hk1 hB
  rw [hws] at hP9 hD9
  exact g H1 locs1 ls hP9 hD9 hS1 hl
theorem g_callSi (C : CX p s m args c cc nL own D cs A) {y : MethodName} {bytes : ByteArray} {maxL n index : Nat} {ret : Option FieldType} {rm : Room} {wc wc' : va_W} {As rest st0 : List Value}  {r : Int32} (hM : MG l y (.code y bytes maxL ret) rm D cs As wc (QI D r wc')) (w1 : Cond.methodLink own index y ∈ TB) (w2 : Cond.static y ∈ TB) (w4 : Cond.initialized y.cls ∈ TB) (w5 : Cond.code y bytes maxL ret ∈ TB)
    (hnm : y.cls ≠ "java/lang/invoke/MethodHandle" ∧ y.cls ≠ "java/lang/invoke/VarHandle" ∧ (parseMethodDescriptor y.desc).map (fun d => d.parameters.length) = some n) (hnA : As.length = n)
    (hrm : rm.cells = 0 ∧ rm.slots = 0 ∧ (rm.frames + 1 ≤ R.frames ∧ 8 + (maxL + 11) + rm.locals ≤ R.locals) ∧ cells + 0 ≤ R.cells ∧ slots + 0 ≤ R.slots)
    (hst : st0 = As.reverse ++ rest) (isC : List Nat) (hC : isC.map (fun i => ws[i]?) = wc.map some) (hadr : wc'.map (·.1) = wc.map (·.1)) (hnd : va_nd isC = true) (hrest : (rest.map fun v => v.category).sum ≤ 8) (hws : wUpd ws isC wc' = ws')
    (d : decode cc pc = .ok (.invokestatic index, 3)) (g : GO p l e R s m args below meth c cells slots Q A D nL (pc + 3) lv (.int r :: rest) ws') : GO p l e R s m args below meth c cells slots Q A D nL pc lv st0 ws := by
  obtain ⟨⟨hx, hb, hml, hown, ht⟩, hK, hA, hNW⟩ := C
  intro H locs ls hP hD hS hl
  have hPc : va_P D CLS wc H := hP.sub isC (by
    have e9 : isC.filterMap (fun i => ws[i]?) = (isC.map (fun i => ws[i]?)).filterMap id := by rw [List.filterMap_map]; rfl
    rw [e9, hC, List.filterMap_map]; simp)
  have hDc := hD.sub isC hnd hC
  have hKc := hK
  have hFc := va_free (wc := wc) hD hS hA isC hC
  have hpre : ∀ U : State, U.heap = H → s.WarmedH U.vm → PCW D cs As H.size wc (As).toArray U := fun U hU hW => ⟨rfl, by rw [hU], by rw [hU]; exact hPc, va_K.moved hW.alike hK, hDc.weaken (fun _ _ _ _ => trivial), NWs.warm hW hNW⟩
  refine va_calli (va_runS (As := As) (rest := rest) ⟨hx, hb, hml, hown, ht⟩ (hM H.size) (va_cwS n ht (tb_wsS w1 w2 w4 w5) rfl hrm.1 hrm.2.1 hnm hrm.2.2.1) ⟨PCW.blind, hpre⟩ rfl hnA hl.1 hst (lv_room hrest) d ⟨hrm.2.2.2.1, hrm.2.2.2.2⟩) hS (fun q _ h => hFc q h) hFc (fun r_ u t H1 locs1 ht9 hvm hw hB hz1 hk1 hS1 => ?_)
  subst hw
  rw [ht9] at hB
  obtain ⟨hP9, hD9⟩ := w_upd isC hP hD hC hadr hk1 hB
  rw [hws] at hP9 hD9
  exact g H1 locs1 ls hP9 hD9 hS1 hl
theorem g_callSl (C : CX p s m args c cc nL own D cs A) {y : MethodName} {bytes : ByteArray} {maxL n index : Nat} {ret : Option FieldType} {rm : Room} {wc wc' : va_W} {As rest st0 : List Value}  {r : Int64} (hM : MG l y (.code y bytes maxL ret) rm D cs As wc (QL D r wc')) (w1 : Cond.methodLink own index y ∈ TB) (w2 : Cond.static y ∈ TB) (w4 : Cond.initialized y.cls ∈ TB) (w5 : Cond.code y bytes maxL ret ∈ TB)
    (hnm : y.cls ≠ "java/lang/invoke/MethodHandle" ∧ y.cls ≠ "java/lang/invoke/VarHandle" ∧ (parseMethodDescriptor y.desc).map (fun d => d.parameters.length) = some n) (hnA : As.length = n)
    (hrm : rm.cells = 0 ∧ rm.slots = 0 ∧ (rm.frames + 1 ≤ R.frames ∧ 8 + (maxL + 11) + rm.locals ≤ R.locals) ∧ cells + 0 ≤ R.cells ∧ slots + 0 ≤ R.slots)
    (hst : st0 = As.reverse ++ rest) (isC : List Nat) (hC : isC.map (fun i => ws[i]?) = wc.map some) (hadr : wc'.map (·.1) = wc.map (·.1)) (hnd : va_nd isC = true) (hrest : (rest.map fun v => v.category).sum ≤ 8) (hws : wUpd ws isC wc' = ws')
    (d : decode cc pc = .ok (.invokestatic index, 3)) (g : GO p l e R s m args below meth c cells slots Q A D nL (pc + 3) lv (.long r :: rest) ws') : GO p l e R s m args below meth c cells slots Q A D nL pc lv st0 ws := by
  obtain ⟨⟨hx, hb, hml, hown, ht⟩, hK, hA, hNW⟩ := C
  intro H locs ls hP hD hS hl
  have hPc : va_P D CLS wc H := hP.sub isC (by
    have e9 : isC.filterMap (fun i => ws[i]?) = (isC.map (fun i => ws[i]?)).filterMap id := by rw [List.filterMap_map]; rfl
    rw [e9, hC, List.filterMap_map]; simp)
  have hDc := hD.sub isC hnd hC
  have hKc := hK
  have hFc := va_free (wc := wc) hD hS hA isC hC
  have hpre : ∀ U : State, U.heap = H → s.WarmedH U.vm → PCW D cs As H.size wc (As).toArray U := fun U hU hW => ⟨rfl, by rw [hU], by rw [hU]; exact hPc, va_K.moved hW.alike hK, hDc.weaken (fun _ _ _ _ => trivial), NWs.warm hW hNW⟩
  refine va_calll (va_runS (As := As) (rest := rest) ⟨hx, hb, hml, hown, ht⟩ (hM H.size) (va_cwS n ht (tb_wsS w1 w2 w4 w5) rfl hrm.1 hrm.2.1 hnm hrm.2.2.1) ⟨PCW.blind, hpre⟩ rfl hnA hl.1 hst (lv_room hrest) d ⟨hrm.2.2.2.1, hrm.2.2.2.2⟩) hS (fun q _ h => hFc q h) hFc (fun r_ u t H1 locs1 ht9 hvm hw hB hz1 hk1 hS1 => ?_)
  subst hw
  rw [ht9] at hB
  obtain ⟨hP9, hD9⟩ := w_upd isC hP hD hC hadr hk1 hB
  rw [hws] at hP9 hD9
  exact g H1 locs1 ls hP9 hD9 hS1 hl
theorem g_callSv (C : CX p s m args c cc nL own D cs A) {y : MethodName} {bytes : ByteArray} {maxL n index : Nat} {ret : Option FieldType} {rm : Room} {wc wc' : va_W} {As rest st0 : List Value}   (hM : MG l y (.code y bytes maxL ret) rm D cs As wc (QV D wc')) (w1 : Cond.methodLink own index y ∈ TB) (w2 : Cond.static y ∈ TB) (w4 : Cond.initialized y.cls ∈ TB) (w5 : Cond.code y bytes maxL ret ∈ TB)
    (hnm : y.cls ≠ "java/lang/invoke/MethodHandle" ∧ y.cls ≠ "java/lang/invoke/VarHandle" ∧ (parseMethodDescriptor y.desc).map (fun d => d.parameters.length) = some n) (hnA : As.length = n)
    (hrm : rm.cells = 0 ∧ rm.slots = 0 ∧ (rm.frames + 1 ≤ R.frames ∧ 8 + (maxL + 11) + rm.locals ≤ R.locals) ∧ cells + 0 ≤ R.cells ∧ slots + 0 ≤ R.slots)
    (hst : st0 = As.reverse ++ rest) (isC : List Nat) (hC : isC.map (fun i => ws[i]?) = wc.map some) (hadr : wc'.map (·.1) = wc.map (·.1)) (hnd : va_nd isC = true) (hrest : (rest.map fun v => v.category).sum ≤ 8) (hws : wUpd ws isC wc' = ws')
    (d : decode cc pc = .ok (.invokestatic index, 3)) (g : GO p l e R s m args below meth c cells slots Q A D nL (pc + 3) lv rest ws') : GO p l e R s m args below meth c cells slots Q A D nL pc lv st0 ws := by
  obtain ⟨⟨hx, hb, hml, hown, ht⟩, hK, hA, hNW⟩ := C
  intro H locs ls hP hD hS hl
  have hPc : va_P D CLS wc H := hP.sub isC (by
    have e9 : isC.filterMap (fun i => ws[i]?) = (isC.map (fun i => ws[i]?)).filterMap id := by rw [List.filterMap_map]; rfl
    rw [e9, hC, List.filterMap_map]; simp)
  have hDc := hD.sub isC hnd hC
  have hKc := hK
  have hFc := va_free (wc := wc) hD hS hA isC hC
  have hpre : ∀ U : State, U.heap = H → s.WarmedH U.vm → PCW D cs As H.size wc (As).toArray U := fun U hU hW => ⟨rfl, by rw [hU], by rw [hU]; exact hPc, va_K.moved hW.alike hK, hDc.weaken (fun _ _ _ _ => trivial), NWs.warm hW hNW⟩
  refine va_callv (va_runS (As := As) (rest := rest) ⟨hx, hb, hml, hown, ht⟩ (hM H.size) (va_cwS n ht (tb_wsS w1 w2 w4 w5) rfl hrm.1 hrm.2.1 hnm hrm.2.2.1) ⟨PCW.blind, hpre⟩ rfl hnA hl.1 hst (lv_room hrest) d ⟨hrm.2.2.2.1, hrm.2.2.2.2⟩) hS (fun q _ h => hFc q h) hFc (fun u t H1 locs1 ht9 hvm hw hB hz1 hk1 hS1 => ?_)
  rw [ht9] at hB
  obtain ⟨hP9, hD9⟩ := w_upd isC hP hD hC hadr hk1 hB
  rw [hws] at hP9 hD9
  exact g H1 locs1 ls hP9 hD9 hS1 hl
end GR3
