theorem hC_tail {X Xc T : va_W} {isX J : List Nat} (hX : isX.map (fun i => X[i]?) = Xc.map some) (hJ : J = (List.range T.length).map (fun i => X.length + i)) : (isX ++ J).map (fun i => (X ++ T)[i]?) = (Xc ++ T).map some := by
  rw [List.map_append, List.map_append]
  congr 1
  · rw [← hX]
    apply List.map_congr_left
    intro i hi
    have h1 : X[i]? ∈ isX.map (fun i => X[i]?) := List.mem_map.mpr ⟨i, hi, rfl⟩
    rw [hX] at h1
    obtain ⟨c, -, hc⟩ := List.mem_map.mp h1
    exact List.getElem?_append_left (List.getElem?_eq_some_iff.mp hc.symm).1
  · subst hJ
    apply List.ext_getElem?
    intro k
    by_cases hk : k < T.length
    · simp [hk, List.getElem?_append_right]
    · simp [hk]
theorem w_updT {D : va_G} {A : Nat → Prop} {X Xc Xc' T T' : va_W} {H H1 : Heap} (isX : List Nat) (hP : va_P D CLS (X ++ T) H) (hD : va_D A (X ++ T)) (hC : isX.map (fun i => X[i]?) = Xc.map some) (hadr : Xc'.map (·.1) = Xc.map (·.1)) (hadT : T'.map (·.1) = T.map (·.1))
    (hk : ∀ q : Nat, q < H.size → ¬ va_A (Xc ++ T) H.size q → H1[q]? = H[q]?) (hP1 : va_P D CLS (Xc' ++ T') H1) : va_P D CLS (wUpd X isX Xc' ++ T') H1 ∧ va_D A (wUpd X isX Xc' ++ T') := by
  have hlen : isX.length = Xc.length := by simpa using congrArg List.length hC
  have hlen' : Xc'.length = Xc.length := by simpa using congrArg List.length hadr
  have hat : ∀ (j i : Nat) (c : Nat × va_E), isX[j]? = some i → Xc[j]? = some c → X[i]? = some c := by
    intro j i c h1 h2
    have h3 : (isX.map (fun i => X[i]?))[j]? = (Xc.map some)[j]? := by rw [hC]
    rw [List.getElem?_map, List.getElem?_map, h1, h2] at h3
    simpa using h3
  have hadr2 : ∀ (j : Nat) (c : Nat × va_E), Xc'[j]? = some c → ∃ c0, Xc[j]? = some c0 ∧ c0.1 = c.1 := by
    intro j c h1
    have h3 : (Xc'.map (·.1))[j]? = (Xc.map (·.1))[j]? := by rw [hadr]
    rw [List.getElem?_map, List.getElem?_map, h1] at h3
    cases h2 : Xc[j]? with
    | none => rw [h2] at h3; cases h3
    | some x => rw [h2] at h3; exact ⟨x, rfl, by simpa using h3.symm⟩
  obtain ⟨u1, u2⟩ := wUpd_at isX X Xc' (fun j i c h1 h2 => by
    obtain ⟨c0, h3, h4⟩ := hadr2 j c h2
    exact ⟨c0.2, by rw [← h4]; exact hat j i c0 h1 h3⟩) (hlen.trans hlen'.symm)
  have hXl : (wUpd X isX Xc').length = X.length := by
    have h1 : ∀ k : Nat, (wUpd X isX Xc')[k]? = none ↔ X[k]? = none := by
      intro k
      have := u2 k
      cases h1 : (wUpd X isX Xc')[k]? <;> cases h2 : X[k]? <;> simp [h1, h2] at this ⊢
    have h2 := (h1 X.length).mpr (by simp)
    have h3 := (h1 (wUpd X isX Xc').length).mp (by simp)
    rw [List.getElem?_eq_none_iff] at h2 h3
    omega
  have hT : T'.length = T.length := by simpa using congrArg List.length hadT
  refine ⟨va_P.app (fun k q hq => ?_) (fun k q hq => ?_), hD.addr (fun k => ?_)⟩
  · rcases u1 k q hq with h1 | ⟨h1, h2⟩
    · obtain ⟨j, hj⟩ := List.getElem?_of_mem (List.mem_append_left T' h1)
      exact hP1 j q hj
    · have hkX := (List.getElem?_eq_some_iff.mp h2).1
      have hq2 : (X ++ T)[k]? = some q := by rw [List.getElem?_append_left hkX]; exact h2
      have hlt := (hP k q hq2).lt
      refine (hP k q hq2).kept (hk q.1 hlt ?_)
      rintro (⟨j, e9, hj⟩ | h9)
      · by_cases hjX : j < Xc.length
        · rw [List.getElem?_append_left hjX] at hj
          have hj2 : j < isX.length := by omega
          have hij : isX[j]? = some isX[j] := List.getElem?_eq_getElem hj2
          have h3 := hat j _ _ hij hj
          have h4 := (List.getElem?_eq_some_iff.mp h3).1
          have := hD.1 k isX[j] q (q.1, e9) hq2 (by rw [List.getElem?_append_left h4]; exact h3) rfl
          exact h1 (by rw [this]; exact List.getElem_mem hj2)
        · rw [List.getElem?_append_right (by omega)] at hj
          have := hD.1 k (X.length + (j - Xc.length)) q (q.1, e9) hq2 (by rw [List.getElem?_append_right (by omega), show X.length + (j - Xc.length) - X.length = j - Xc.length by omega]; exact hj) rfl
          omega
      · omega
  · obtain ⟨j, hj⟩ := List.getElem?_of_mem (List.mem_append_right Xc' (List.mem_of_getElem? hq))
    exact hP1 j q hj
  · by_cases hkl : k < X.length
    · rw [List.getElem?_append_left (by omega), List.getElem?_append_left hkl]
      exact u2 k
    · rw [List.getElem?_append_right (by omega), List.getElem?_append_right (by omega), hXl]
      have h3 : (T'.map (·.1))[k - X.length]? = (T.map (·.1))[k - X.length]? := by rw [hadT]
      rw [List.getElem?_map, List.getElem?_map] at h3
      exact h3
section GR8
variable {p : Program} {l : Launch} {e : Env} {R : Room} {s : State} {m : MethodId} {args : Array Value} {below : List Frame} {meth : Method} {c : Code} {cells slots : Nat} {Q : State → Prop} {A : Nat → Prop} {D : va_G} {nL : Nat} {cc : ByteArray} {own : String} {cs : ClassId × ClassId × ClassId × ClassId}
variable {pc : Nat} {lv lv' : List (Nat × Value)} {st : List Value} {ws ws' : va_W}

/-- a call whose world ends as the caller's does -/
theorem g_callVvT (C : CX p s m args c cc nL own D cs A) {y : MethodName} {bytes : ByteArray} {maxL n index : Nat} {ret : Option FieldType} {rm : Room} {X Xc Xc' X' T T' : va_W} {As rest st0 : List Value} {b ci N : Nat} {C9 : String} {T9 : u_T} {fs : List Value} (hM : MG l y (.code y bytes maxL ret) rm D cs (.ref b :: As) (Xc ++ T) (QV D (Xc' ++ T'))) (w1 : Cond.methodLink own index y ∈ TB) (w2 : Cond.instanceMethod y ∈ TB) (w3 : Cond.selects C9 y y ∈ TB) (w4 : Cond.initialized C9 ∈ TB) (w5 : Cond.code y bytes maxL ret ∈ TB) (hcl : y.cls = C9) (q0 : Nat) (hrecv : Xc[q0]? = some (b, .inr (ci, fs))) (hc9 : CLS[ci]? = some (C9, T9, N))
    (hnm : y.cls ≠ "java/lang/invoke/MethodHandle" ∧ y.cls ≠ "java/lang/invoke/VarHandle" ∧ (parseMethodDescriptor y.desc).map (fun d => d.parameters.length) = some n) (hnA : As.length = n)
    (hrm : rm.cells = 0 ∧ rm.slots = 0 ∧ (rm.frames + 1 ≤ R.frames ∧ 8 + (maxL + 11) + rm.locals ≤ R.locals) ∧ cells + 0 ≤ R.cells ∧ slots + 0 ≤ R.slots)
    (hst : st0 = As.reverse ++ .ref b :: rest) (isX J : List Nat) (hC : isX.map (fun i => X[i]?) = Xc.map some) (hJ : J = (List.range T.length).map (fun i => X.length + i)) (hadr : Xc'.map (·.1) = Xc.map (·.1)) (hadT : T'.map (·.1) = T.map (·.1)) (hnd : va_nd (isX ++ J) = true) (hrest : (rest.map fun v => v.category).sum ≤ 8) (hws : wUpd X isX Xc' = X')
    (d : decode cc pc = .ok (.invokevirtual index, 3)) (g : GO p l e R s m args below meth c cells slots Q A D nL (pc + 3) lv rest (X' ++ T')) : GO p l e R s m args below meth c cells slots Q A D nL pc lv st0 (X ++ T) := by
  obtain ⟨⟨hx, hb, hml, hown, ht⟩, hK, hA, hNW⟩ := C
  intro H locs ls hP hD hS hl
  have hCC := hC_tail (T := T) hC hJ
  have hPc : va_P D CLS (Xc ++ T) H := hP.sub (isX ++ J) (by
    have e9 : (isX ++ J).filterMap (fun i => (X ++ T)[i]?) = ((isX ++ J).map (fun i => (X ++ T)[i]?)).filterMap id := by rw [List.filterMap_map]; rfl
    rw [e9, hCC, List.filterMap_map]; simp)
  have hDc := hD.sub (isX ++ J) hnd hCC
  have hKc := hK
  have hFc := va_free (wc := Xc ++ T) hD hS hA (isX ++ J) hCC
  have hrecv2 : (Xc ++ T)[q0]? = some (b, .inr (ci, fs)) := by rw [List.getElem?_append_left (List.getElem?_eq_some_iff.mp hrecv).1]; exact hrecv
  have hpre : ∀ U : State, U.heap = H → s.WarmedH U.vm → PCW D cs (.ref b :: As) H.size (Xc ++ T) (Value.ref b :: As).toArray U := fun U hU hW => ⟨rfl, by rw [hU], by rw [hU]; exact hPc, va_K.moved hW.alike hK, hDc.weaken (fun _ _ _ _ => trivial), NWs.warm hW hNW⟩
  refine va_callv (va_runV (As := As) (rest := rest) ⟨hx, hb, hml, hown, ht⟩ (hM H.size) (cwV n ht (tb_wsV w1 w2 w3 w4 w5) rfl hrm.1 hrm.2.1 ⟨hcl, hnm.1, hnm.2.1, hnm.2.2⟩ hrm.2.2.1) ⟨PCW.blind, va_recv hKc hPc (q0 := q0) hc9 hrecv2, hpre⟩ rfl hnA hl.1 hst (lv_room hrest) d ⟨hrm.2.2.2.1, hrm.2.2.2.2⟩) hS (fun q _ h => hFc q h) hFc (fun u t H1 locs1 ht9 hvm hw hB hz1 hk1 hS1 => ?_)
  rw [ht9] at hB
  obtain ⟨hP9, hD9⟩ := w_updT isX hP hD hC hadr hadT hk1 hB
  rw [hws] at hP9 hD9
  exact g H1 locs1 ls hP9 hD9 hS1 hl
theorem rowsW_len (cI : ClassId) (ra : Nat → Nat) (pl : Nat → Nat → Nat) : (rowsW cI ra pl).length = 16 := by simp [rowsW]
theorem rowsW_adr (cI : ClassId) (ra : Nat → Nat) (p1 p2 : Nat → Nat → Nat) : (rowsW cI ra p1).map (·.1) = (rowsW cI ra p2).map (·.1) := by simp [rowsW]
end GR8
