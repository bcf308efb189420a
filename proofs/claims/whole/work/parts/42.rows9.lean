theorem tb_wsSW {own : String} {index maxL : Nat} {y : MethodName} {bytes : ByteArray} {ret : Option FieldType} {hh : List (Nat × Nat × Nat × Nat)} (w1 : Cond.methodLink own index y ∈ TB) (w2 : Cond.static y ∈ TB) (w4 : Cond.initialized y.cls ∈ TB) (w5 : Cond.codeWith y bytes maxL ret hh ∈ TB) : GoodIn TB (va_wsS own index y (.codeWith y bytes maxL ret hh :: TB)) := by
  intro w hw
  unfold va_wsS at hw
  simp only [List.mem_append, List.mem_cons, List.not_mem_nil, or_false] at hw
  rcases hw with (rfl | rfl | rfl) | rfl | h
  all_goals first | exact ⟨w1, tb_good w1⟩ | exact ⟨w2, tb_good w2⟩ | exact ⟨w4, tb_good w4⟩ | exact ⟨w5, tb_good w5⟩ | exact ⟨h, tb_good h⟩
theorem wUpd_left : ∀ (isX : List Nat) (X Xc T : va_W), (∀ i ∈ isX, i < X.length) → wUpd (X ++ T) isX Xc = wUpd X isX Xc ++ T
  | [], X, Xc, T, _ => by cases Xc <;> rfl
  | i :: is, X, [], T, _ => rfl
  | i :: is, X, c :: cs, T, h => by
    show wUpd ((X ++ T).set i c) is cs = wUpd (X.set i c) is cs ++ T
    rw [List.set_append_left i c (h i List.mem_cons_self)]
    exact wUpd_left is (X.set i c) cs T (fun j hj => by rw [List.length_set]; exact h j (List.mem_cons_of_mem _ hj))
theorem wUpd_app : ∀ (a b : List Nat) (ws ca cb : va_W), a.length = ca.length → wUpd ws (a ++ b) (ca ++ cb) = wUpd (wUpd ws a ca) b cb
  | [], b, ws, [], cb, _ => by cases b <;> cases cb <;> rfl
  | [], b, ws, c :: ca, cb, h => by simp at h
  | i :: a, b, ws, [], cb, h => by simp at h
  | i :: a, b, ws, c :: ca, cb, h => by
    show wUpd (ws.set i c) (a ++ b) (ca ++ cb) = wUpd (wUpd (ws.set i c) a ca) b cb
    exact wUpd_app a b (ws.set i c) ca cb (by simpa using h)
theorem wUpd_right : ∀ (T' : va_W) (Y T : va_W) (n : Nat), T.length = n + T'.length → wUpd (Y ++ T) ((List.range T'.length).map (fun i => Y.length + n + i)) T' = Y ++ T.take n ++ T'
  | [], Y, T, n, h => by
    have : T.length = n := by simpa using h
    show Y ++ T = Y ++ T.take n ++ []
    rw [List.append_nil, ← this, List.take_length]
  | c :: T', Y, T, n, h => by
    have h1 : n < T.length := by simp at h; omega
    rw [List.length_cons, List.range_succ_eq_map, List.map_cons, List.map_map]
    show wUpd ((Y ++ T).set (Y.length + n + 0) c) _ T' = _
    rw [List.set_append_right _ _ (by omega), show Y.length + n + 0 - Y.length = n by omega]
    have ih := wUpd_right T' Y (T.set n c) (n + 1) (by rw [List.length_set]; simp at h; omega)
    have e : (List.map ((fun i => Y.length + n + i) ∘ Nat.succ) (List.range T'.length)) = (List.range T'.length).map (fun i => Y.length + (n + 1) + i) := by
      apply List.map_congr_left; intro i _; show Y.length + n + (i + 1) = _; omega
    rw [e, ih]
    rw [List.take_succ, List.getElem?_set_self h1, List.take_set_of_le (Nat.le_refl n)]
    simp
theorem wUpd_tail {X X' Xc Xc' T T' : va_W} {isX J : List Nat} (hC : isX.map (fun i => X[i]?) = Xc.map some) (hJ : J = (List.range T.length).map (fun i => X.length + i)) (hadr : Xc'.map (·.1) = Xc.map (·.1)) (hT : T'.length = T.length) (hws : wUpd X isX Xc' = X') (hX' : X'.length = X.length) : wUpd (X ++ T) (isX ++ J) (Xc' ++ T') = X' ++ T' := by
  have hlen : isX.length = Xc.length := by simpa using congrArg List.length hC
  have hlen' : Xc'.length = Xc.length := by simpa using congrArg List.length hadr
  have hlt : ∀ i ∈ isX, i < X.length := fun i hi => by
    have h1 : X[i]? ∈ isX.map (fun i => X[i]?) := List.mem_map.mpr ⟨i, hi, rfl⟩
    rw [hC] at h1
    obtain ⟨c, -, hc⟩ := List.mem_map.mp h1
    exact (List.getElem?_eq_some_iff.mp hc.symm).1
  rw [wUpd_app _ _ _ _ _ (hlen.trans hlen'.symm), wUpd_left isX X Xc' T hlt, hws]
  have h := wUpd_right T' X' T 0 (by omega)
  rw [List.take_zero, List.append_nil, hT, hX'] at h
  rw [hJ]
  exact h
/-- a static method with handlers of its own: it returns, having made one thing of six places at most -/
def MGW (l : Launch) (y : MethodName) (k : Cond) (rm : Room) (D : va_G) (cs : ClassId × ClassId × ClassId × ClassId) (av : List Value) (ws : va_W) (Qf : (Nat → Prop) → Array Value → State → Outcome → State → Prop) : Prop :=
  ∀ sz, Met l y (k :: TB) rm (PCX D cs av sz ws) (Qf (va_A ws sz)) 1 6 (va_A ws sz)
theorem MGW.mk {l : Launch} {y : MethodName} {cc : ByteArray} {maxL : Nat} {ret : Option FieldType} {hh : List (Nat × Nat × Nat × Nat)} {rm : Room} {D : va_G} {cs : ClassId × ClassId × ClassId × ClassId} {av : List Value} {ws : va_W} {Qf : (Nat → Prop) → Array Value → State → Outcome → State → Prop} {own : String}
    (hy : plainName y.cls = true) (ho : y.cls = own) (hn : (lg_sl av).length ≤ maxL)
    (body : ∀ (p : Program) (e : Env) (s : State) (m : MethodId) (below : List Frame) (meth : Method) (c : Code) (A : Nat → Prop), CX p s m av.toArray c cc maxL own D cs A → XF s → XS A s s.heap → c.exceptionTable.toList = tableOf hh → meth.sig.returnType = ret → meth.locks = false →
      GO p l e rm s m av.toArray below meth c 0 0 (MQ below (Qf A) av.toArray s 1 6 A) A D maxL 0 (lv_args 0 av) [] ws) : MGW l y (.codeWith y cc maxL ret hh) rm D cs av ws Qf := by
  intro sz
  refine va_MetW (cc := cc) (maxL := maxL) (ret := ret) (hh := hh) hy rfl ?_
  intro p e s m args below meth c s₁ B hml hv
  obtain ⟨rfl, hsz, hP, hK, hD0, hNW, hXF, hXS⟩ := hv
  have hts := atoms_spec (ws := .codeWith y cc maxL ret hh :: TB) B.pre
  have hown : s.vm.findClass own = some m.cls := by rw [← ho]; exact findClass_of_methodNamed B.named
  have htab := vx_table (x := y) B (hts _ List.mem_cons_self)
  subst hsz
  have hD := hD0.self (sz := s.heap.size)
  have hl := lv_entry av hn
  rw [lg_entry_eq]
  exact body p e s m below meth c (va_A ws s.heap.size) ⟨⟨B.exec, B.bytes, hml, hown, fun w h => hts w (List.mem_cons_of_mem _ h)⟩, hK, fun q h => Or.inr h, hNW⟩ hXF hXS htab B.returns B.notSynchronized s.heap [] _ hP hD va_S.rf hl
section GR9
variable {p : Program} {l : Launch} {e : Env} {R : Room} {s : State} {m : MethodId} {args : Array Value} {below : List Frame} {meth : Method} {c : Code} {cells slots : Nat} {Q : State → Prop} {A : Nat → Prop} {D : va_G} {nL : Nat} {cc : ByteArray} {own : String} {cs : ClassId × ClassId × ClassId × ClassId}
variable {pc : Nat} {lv lv' : List (Nat × Value)} {st : List Value} {ws ws' : va_W}

theorem g_wid {c1 s1 : Nat} (h1 : cells ≤ c1) (h2 : slots ≤ s1) (g : GO p l e R s m args below meth c c1 s1 Q A D nL pc lv st ws) : GO p l e R s m args below meth c cells slots Q A D nL pc lv st ws := fun H locs ls hP hD hS hl => W.widen h1 h2 (g H locs ls hP hD hS hl)
theorem g_callSw (C : CX p s m args c cc nL own D cs A) {y : MethodName} {bytes : ByteArray} {maxL n index : Nat} {ret : Option FieldType} {hh : List (Nat × Nat × Nat × Nat)} {rm : Room} {wc wc' : va_W} {As rest st0 : List Value} {r : Int32} (hM : MGW l y (.codeWith y bytes maxL ret hh) rm D cs As wc (QI D r wc')) (w1 : Cond.methodLink own index y ∈ TB) (w2 : Cond.static y ∈ TB) (w4 : Cond.initialized y.cls ∈ TB) (w5 : Cond.codeWith y bytes maxL ret hh ∈ TB)
    (xf : XF s) (xs : XS A s s.heap)
    (hnm : y.cls ≠ "java/lang/invoke/MethodHandle" ∧ y.cls ≠ "java/lang/invoke/VarHandle" ∧ (parseMethodDescriptor y.desc).map (fun d => d.parameters.length) = some n) (hnA : As.length = n)
    (hrm : rm.cells = 1 ∧ rm.slots = 6 ∧ (rm.frames + 1 ≤ R.frames ∧ 8 + (maxL + 11) + rm.locals ≤ R.locals) ∧ cells + 1 ≤ R.cells ∧ slots + 6 ≤ R.slots)
    (hst : st0 = As.reverse ++ rest) (isC : List Nat) (hC : isC.map (fun i => ws[i]?) = wc.map some) (hadr : wc'.map (·.1) = wc.map (·.1)) (hnd : va_nd isC = true) (hrest : (rest.map fun v => v.category).sum ≤ 8) (hws : wUpd ws isC wc' = ws')
    (d : decode cc pc = .ok (.invokestatic index, 3)) (g : GO p l e R s m args below meth c (cells + 1) (slots + 6) Q A D nL (pc + 3) lv (.int r :: rest) ws') : GO p l e R s m args below meth c cells slots Q A D nL pc lv st0 ws := by
  obtain ⟨⟨hx, hb, hml, hown, ht⟩, hK, hA, hNW⟩ := C
  intro H locs ls hP hD hS hl
  have hPc : va_P D CLS wc H := hP.sub isC (by
    have e9 : isC.filterMap (fun i => ws[i]?) = (isC.map (fun i => ws[i]?)).filterMap id := by rw [List.filterMap_map]; rfl
    rw [e9, hC, List.filterMap_map]; simp)
  have hDc := hD.sub isC hnd hC
  have hFc := va_free (wc := wc) hD hS hA isC hC
  have hpre : ∀ U : State, U.heap = H → s.WarmedH U.vm → PCX D cs As H.size wc (As).toArray U := fun U hU hW => ⟨rfl, by rw [hU], by rw [hU]; exact hPc, va_K.moved hW.alike hK, hDc.weaken (fun _ _ _ _ => trivial), NWs.warm hW hNW, XF.warm hW xf, by
    rw [hU]; exact XS.moved hW.alike ((xs.kept hS.2.1).narrow hFc)⟩
  refine va_calli (vx_runSW (As := As) (rest := rest) ⟨hx, hb, hml, hown, ht⟩ (hM H.size) (vx_cwSW n ht (tb_wsSW w1 w2 w4 w5) rfl hrm.1 hrm.2.1 hnm hrm.2.2.1) ⟨PCX.blind, hpre⟩ rfl hnA hl.1 hst (lv_room hrest) d ⟨hrm.2.2.2.1, hrm.2.2.2.2⟩) hS (fun q _ h => hFc q h) hFc (fun r_ u t H1 locs1 ht9 hvm hw hB hz1 hk1 hS1 => ?_)
  subst hw
  rw [ht9] at hB
  obtain ⟨hP9, hD9⟩ := w_upd isC hP hD hC hadr hk1 hB
  rw [hws] at hP9 hD9
  exact g H1 locs1 ls hP9 hD9 hS1 hl
theorem g_xald (C : CX p s m args c cc nL own D cs A) {b L : Nat} {xs : Nat → Int32} (hX : va_X b L xs s s.heap) (hbl : b < s.heap.size) (hbA : ¬ A b) {i : Nat} {v : Int32} (hi : i < L) (hL : L < 2 ^ 31) (hv : xs i = v) (d : decode cc pc = .ok (.iaload, 1)) (g : GO p l e R s m args below meth c cells slots Q A D nL (pc + 1) lv (.int v :: st) ws) : GO p l e R s m args below meth c cells slots Q A D nL pc lv (.int (nI i) :: .ref b :: st) ws := by
  obtain ⟨⟨hx, hb, hml, hown, ht⟩, hK, hA⟩ := C
  intro H locs ls hP hD hS hl
  refine va_sld hx hb hX hbl hbA hS (vp_in_nI hi hL) d ?_
  rw [nI_clamp (by omega), hv]
  exact g H locs ls hP hD hS hl
theorem g_xlen (C : CX p s m args c cc nL own D cs A) {b L : Nat} {xs : Nat → Int32} (hX : va_X b L xs s s.heap) (hbl : b < s.heap.size) (hbA : ¬ A b) (d : decode cc pc = .ok (.arraylength, 1)) (g : GO p l e R s m args below meth c cells slots Q A D nL (pc + 1) lv (.int (nI L) :: st) ws) : GO p l e R s m args below meth c cells slots Q A D nL pc lv (.ref b :: st) ws := by
  obtain ⟨⟨hx, hb, hml, hown, ht⟩, hK, hA⟩ := C
  intro H locs ls hP hD hS hl
  exact va_slen hx hb hX hbl hbA hS d (g H locs ls hP hD hS hl)
theorem g_tsin (C : CX p s m args c cc nL own D cs A) {dflt lo hi off : Int} {offs : Array Int} {len : Nat} {x : Int32} (tgt : Nat) (d : decode cc pc = .ok (.tableswitch dflt lo hi offs, len)) (h1 : ¬ x.toInt < lo) (h2 : ¬ hi < x.toInt) (ho : offs[(x.toInt - lo).toNat]? = some off) (ht9 : (pc : Int) + off = (tgt : Int)) (g : GO p l e R s m args below meth c cells slots Q A D nL tgt lv st ws) : GO p l e R s m args below meth c cells slots Q A D nL pc lv (.int x :: st) ws := by
  obtain ⟨⟨hx, hb, hml, hown, ht⟩, hK, hA⟩ := C
  intro H locs ls hP hD hS hl
  exact lv_tableIn hx hb d h1 h2 ho ht9 (g H locs ls hP hD hS hl)
theorem g_tsout (C : CX p s m args c cc nL own D cs A) {dflt lo hi : Int} {offs : Array Int} {len : Nat} {x : Int32} (tgt : Nat) (d : decode cc pc = .ok (.tableswitch dflt lo hi offs, len)) (h : x.toInt < lo ∨ hi < x.toInt) (ht9 : (pc : Int) + dflt = (tgt : Int)) (g : GO p l e R s m args below meth c cells slots Q A D nL tgt lv st ws) : GO p l e R s m args below meth c cells slots Q A D nL pc lv (.int x :: st) ws := by
  obtain ⟨⟨hx, hb, hml, hown, ht⟩, hK, hA⟩ := C
  intro H locs ls hP hD hS hl
  exact lv_tableOut hx hb d h ht9 (g H locs ls hP hD hS hl)
end GR9
