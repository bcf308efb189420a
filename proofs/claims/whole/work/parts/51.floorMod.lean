def RJ : String := "java/lang/Math"
abbrev c_J_floorMod : ByteArray := prog_11_method_50_code
def y_J_floorMod : MethodName := ⟨RJ, "floorMod", "(II)I"⟩
abbrev k_J_floorMod : Cond := .code y_J_floorMod c_J_floorMod 3 (some .int)
theorem d_J_floorMod_0 : decode c_J_floorMod 0 = .ok (.iload_n 0, 1) := by decide +kernel
theorem d_J_floorMod_1 : decode c_J_floorMod 1 = .ok (.iload_n 1, 1) := by decide +kernel
theorem d_J_floorMod_2 : decode c_J_floorMod 2 = .ok (.irem, 1) := by decide +kernel
theorem d_J_floorMod_3 : decode c_J_floorMod 3 = .ok (.istore_n 2, 1) := by decide +kernel
theorem d_J_floorMod_4 : decode c_J_floorMod 4 = .ok (.iload_n 0, 1) := by decide +kernel
theorem d_J_floorMod_5 : decode c_J_floorMod 5 = .ok (.iload_n 1, 1) := by decide +kernel
theorem d_J_floorMod_6 : decode c_J_floorMod 6 = .ok (.ixor, 1) := by decide +kernel
theorem d_J_floorMod_7 : decode c_J_floorMod 7 = .ok (.ifCond .ge 11, 3) := by decide +kernel
theorem d_J_floorMod_10 : decode c_J_floorMod 10 = .ok (.iload_n 2, 1) := by decide +kernel
theorem d_J_floorMod_11 : decode c_J_floorMod 11 = .ok (.ifCond .eq 7, 3) := by decide +kernel
theorem d_J_floorMod_14 : decode c_J_floorMod 14 = .ok (.iload_n 2, 1) := by decide +kernel
theorem d_J_floorMod_15 : decode c_J_floorMod 15 = .ok (.iload_n 1, 1) := by decide +kernel
theorem d_J_floorMod_16 : decode c_J_floorMod 16 = .ok (.iadd, 1) := by decide +kernel
theorem d_J_floorMod_17 : decode c_J_floorMod 17 = .ok (.ireturn, 1) := by decide +kernel
theorem d_J_floorMod_18 : decode c_J_floorMod 18 = .ok (.iload_n 2, 1) := by decide +kernel
theorem d_J_floorMod_19 : decode c_J_floorMod 19 = .ok (.ireturn, 1) := by decide +kernel
theorem Met.ofWF {l : Launch} {y : MethodName} {ws ws' : List Cond} {rm : Room} {Pc : Array Value → State → Prop} {Qc : Array Value → State → Outcome → State → Prop} {mc ms : Nat} {free : Addr → Prop} {cc : ByteArray} {maxL : Nat} {ret : Option FieldType}
    (hy : plainFor y = true) (hw : ws = Cond.code y cc maxL ret :: ws')
    (body : ∀ p e s m args below meth c s₁, BodyLoose p l y (headSpec ws rm) cc maxL ret e s m args below meth c s₁ → c.maxLocals = maxL → Pc args s →
      W p l e (headSpec ws rm).room s m args below meth c s.heap [] 0 0 (MQ below Qc args s mc ms free) (entryFrame m args maxL)) : Met l y ws rm Pc Qc mc ms free := by
  refine MetFree.of_bodySF (code := cc) (maxLocals := maxL) (ret := ret) hy ?_ ?_
  · intro args s m h hn
    obtain ⟨meth, c, h1, h2, h3, h4, h5, h6, -, -⟩ := Cond.code_spec hn (atoms_spec (ws := ws) h _ (by rw [hw]; exact List.mem_cons_self))
    exact ⟨meth, c, h1, h2, h3, h4, h5, h6⟩
  · intro p e s m args below meth c s₁ B hml hP _
    have hh0 : s₁.heap = s.heap := by rw [B.state]; rfl
    obtain ⟨t, a1, o, b1, b2, b3⟩ := body p e s m args below meth c s₁ B hml hP s₁ hh0 (Stand.of_body B)
    exact ⟨t, o, a1, b1, b2, ⟨b3.1, b3.2⟩⟩
theorem MG.mkF {l : Launch} {y : MethodName} {cc : ByteArray} {maxL : Nat} {ret : Option FieldType} {rm : Room} {D : va_G} {cs : ClassId × ClassId × ClassId × ClassId} {av : List Value} {ws : va_W} {Qf : (Nat → Prop) → Array Value → State → Outcome → State → Prop} {own : String}
    (hy : plainFor y = true) (ho : y.cls = own) (hn : (lg_sl av).length ≤ maxL)
    (body : ∀ (p : Program) (e : Env) (s : State) (m : MethodId) (below : List Frame) (meth : Method) (c : Code) (A : Nat → Prop), CX p s m av.toArray c cc maxL own D cs A → meth.sig.returnType = ret → meth.locks = false →
      GO p l e rm s m av.toArray below meth c 0 0 (MQ below (Qf A) av.toArray s 0 0 A) A D maxL 0 (lv_args 0 av) [] ws) : MG l y (.code y cc maxL ret) rm D cs av ws Qf := by
  intro sz
  refine Met.ofWF (cc := cc) (maxL := maxL) (ret := ret) hy rfl ?_
  intro p e s m args below meth c s₁ B hml hv
  obtain ⟨rfl, hsz, hP, hK, hD0, hNW⟩ := hv
  have hts := atoms_spec (ws := .code y cc maxL ret :: TB) B.pre
  have hown : s.vm.findClass own = some m.cls := by rw [← ho]; exact findClass_of_methodNamed B.named
  subst hsz
  have hD := hD0.self (sz := s.heap.size)
  have hl := lv_entry av hn
  rw [lg_entry_eq]
  exact body p e s m below meth c (va_A ws s.heap.size) ⟨⟨B.exec, B.bytes, hml, hown, fun w h => hts w (List.mem_cons_of_mem _ h)⟩, hK, fun q h => Or.inr h, hNW⟩ B.returns B.notSynchronized s.heap [] _ hP hD va_S.rf hl
set_option maxHeartbeats 4000000 in
set_option maxRecDepth 100000 in
theorem m_J_floorMod (l : Launch) (D : va_G) (cs : ClassId × ClassId × ClassId × ClassId) (x : Int32) : MG l y_J_floorMod k_J_floorMod { frames := 0, cells := 0, slots := 0, locals := 0 } D cs [.int (x), .int (nI (3))] [] (QI D (nI (fm x)) []) := by
  refine MG.mkF (own := RJ) (by decide +kernel) rfl (Nat.le_of_ble_eq_true rfl) ?_
  intro p e s m below meth c A C hr hlk
  refine g_lv (lv' := [(0, .int (x)), (1, .int (nI (3)))]) [0, 1] rfl ?_
  rcases rem3 x with ⟨h, k, k2⟩ | ⟨h, k, k2⟩ | ⟨h, k, k2⟩ | ⟨h, k, k2⟩ | ⟨h, k, k2⟩
  · refine g_iload_n C d_J_floorMod_0 0 rfl rfl ?_
    refine g_iload_n C d_J_floorMod_1 1 rfl rfl ?_
    refine g_irem C (v := (-2)) d_J_floorMod_2 (nI_ne0 (by omega) (by omega)) h ?_
    refine g_istore_n C (lv' := [(2, .int ((-2))), (0, .int (x)), (1, .int (nI (3)))]) d_J_floorMod_3 rfl (by decide) rfl ?_
    refine g_iload_n C d_J_floorMod_4 1 rfl rfl ?_
    refine g_iload_n C d_J_floorMod_5 2 rfl rfl ?_
    refine g_ixor C (v := x ^^^ nI 3) d_J_floorMod_6 rfl ?_
    refine g_if_ge C 18 d_J_floorMod_7 (by decide) (fun h => absurd h (xor3n k2)) (fun _ => ?_)
    refine g_iload_n C d_J_floorMod_10 0 rfl rfl ?_
    refine g_if_eq C 18 d_J_floorMod_11 (by decide) (fun h => absurd h (by decide +kernel)) (fun _ => ?_)
    refine g_iload_n C d_J_floorMod_14 0 rfl rfl ?_
    refine g_iload_n C d_J_floorMod_15 2 rfl rfl ?_
    refine g_iadd C (v := nI (1)) d_J_floorMod_16 (by decide +kernel) ?_
    exact g_iret C hr hlk (by rw [k]) rfl d_J_floorMod_17
  · refine g_iload_n C d_J_floorMod_0 0 rfl rfl ?_
    refine g_iload_n C d_J_floorMod_1 1 rfl rfl ?_
    refine g_irem C (v := (-1)) d_J_floorMod_2 (nI_ne0 (by omega) (by omega)) h ?_
    refine g_istore_n C (lv' := [(2, .int ((-1))), (0, .int (x)), (1, .int (nI (3)))]) d_J_floorMod_3 rfl (by decide) rfl ?_
    refine g_iload_n C d_J_floorMod_4 1 rfl rfl ?_
    refine g_iload_n C d_J_floorMod_5 2 rfl rfl ?_
    refine g_ixor C (v := x ^^^ nI 3) d_J_floorMod_6 rfl ?_
    refine g_if_ge C 18 d_J_floorMod_7 (by decide) (fun h => absurd h (xor3n k2)) (fun _ => ?_)
    refine g_iload_n C d_J_floorMod_10 0 rfl rfl ?_
    refine g_if_eq C 18 d_J_floorMod_11 (by decide) (fun h => absurd h (by decide +kernel)) (fun _ => ?_)
    refine g_iload_n C d_J_floorMod_14 0 rfl rfl ?_
    refine g_iload_n C d_J_floorMod_15 2 rfl rfl ?_
    refine g_iadd C (v := nI (2)) d_J_floorMod_16 (by decide +kernel) ?_
    exact g_iret C hr hlk (by rw [k]) rfl d_J_floorMod_17
  · refine g_iload_n C d_J_floorMod_0 0 rfl rfl ?_
    refine g_iload_n C d_J_floorMod_1 1 rfl rfl ?_
    refine g_irem C (v := nI (0)) d_J_floorMod_2 (nI_ne0 (by omega) (by omega)) h ?_
    refine g_istore_n C (lv' := [(2, .int (nI (0))), (0, .int (x)), (1, .int (nI (3)))]) d_J_floorMod_3 rfl (by decide) rfl ?_
    refine g_iload_n C d_J_floorMod_4 1 rfl rfl ?_
    refine g_iload_n C d_J_floorMod_5 2 rfl rfl ?_
    refine g_ixor C (v := x ^^^ nI 3) d_J_floorMod_6 rfl ?_
    refine g_if_ge C 18 d_J_floorMod_7 (by decide) (fun h7 => ?_) (fun h7 => ?_)
    · refine g_iload_n C d_J_floorMod_18 0 rfl rfl ?_
      exact g_iret C hr hlk (by rw [k]) rfl d_J_floorMod_19
    · refine g_iload_n C d_J_floorMod_10 0 rfl rfl ?_
      refine n_if_eq C 18 d_J_floorMod_11 (by decide) (by omega) (fun _ => ?_) (fun h => absurd h (by omega))
      refine g_iload_n C d_J_floorMod_18 0 rfl rfl ?_
      exact g_iret C hr hlk (by rw [k]) rfl d_J_floorMod_19
  · refine g_iload_n C d_J_floorMod_0 0 rfl rfl ?_
    refine g_iload_n C d_J_floorMod_1 1 rfl rfl ?_
    refine g_irem C (v := nI (1)) d_J_floorMod_2 (nI_ne0 (by omega) (by omega)) h ?_
    refine g_istore_n C (lv' := [(2, .int (nI (1))), (0, .int (x)), (1, .int (nI (3)))]) d_J_floorMod_3 rfl (by decide) rfl ?_
    refine g_iload_n C d_J_floorMod_4 1 rfl rfl ?_
    refine g_iload_n C d_J_floorMod_5 2 rfl rfl ?_
    refine g_ixor C (v := x ^^^ nI 3) d_J_floorMod_6 rfl ?_
    refine g_if_ge C 18 d_J_floorMod_7 (by decide) (fun _ => ?_) (fun h => absurd (xor3p k2) h)
    refine g_iload_n C d_J_floorMod_18 0 rfl rfl ?_
    exact g_iret C hr hlk (by rw [k]) rfl d_J_floorMod_19
  · refine g_iload_n C d_J_floorMod_0 0 rfl rfl ?_
    refine g_iload_n C d_J_floorMod_1 1 rfl rfl ?_
    refine g_irem C (v := nI (2)) d_J_floorMod_2 (nI_ne0 (by omega) (by omega)) h ?_
    refine g_istore_n C (lv' := [(2, .int (nI (2))), (0, .int (x)), (1, .int (nI (3)))]) d_J_floorMod_3 rfl (by decide) rfl ?_
    refine g_iload_n C d_J_floorMod_4 1 rfl rfl ?_
    refine g_iload_n C d_J_floorMod_5 2 rfl rfl ?_
    refine g_ixor C (v := x ^^^ nI 3) d_J_floorMod_6 rfl ?_
    refine g_if_ge C 18 d_J_floorMod_7 (by decide) (fun _ => ?_) (fun h => absurd (xor3p k2) h)
    refine g_iload_n C d_J_floorMod_18 0 rfl rfl ?_
    exact g_iret C hr hlk (by rw [k]) rfl d_J_floorMod_19
