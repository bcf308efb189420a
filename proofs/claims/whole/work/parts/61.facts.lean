/-- what the start gives: array classes -/
theorem st_arr {args : Array Value} {s : State} {ty : FieldType} (h : (Cond.arrayClass ty).before args s = true) : ∃ cA : ClassId, ArrOfT s cA ty ∧ s.vm.findClass ("[" ++ ty.toString) = some cA := by
  obtain ⟨c, k, comp, h1, h2, h3⟩ := Cond.arrayClass_spec h
  exact ⟨c, fun n z => ⟨fun k h => (by cases h), k, h2, comp, h3⟩, h1⟩
theorem st_over {args : Array Value} {s : State} {t : FieldType} (h : (Cond.arrayOver (.array t)).before args s = true) : ∃ cA : ClassId, ArrOfT s cA (.array t) ∧ s.vm.findClass ("[" ++ (FieldType.array t).toString) = some cA := by
  have h : (Cond.arrayOver (.array t)).holds args s none s [] = true := h
  simp only [Cond.holds, Cond.value, beq_iff_eq] at h
  cases hc : s.vm.findClass (FieldType.array t).toString with
  | none => simp [hc] at h
  | some comp =>
    simp only [hc, Option.bind_some, Option.bind_eq_some_iff, Option.map_eq_some_iff] at h
    obtain ⟨c, hi, k, hk, hb⟩ := h
    cases hkk : k.kind with
    | array co ty =>
      rw [hkk] at hb
      simp only [Bool.and_eq_true, decide_eq_true_eq] at hb
      exact ⟨c, fun n z => ⟨fun k h => (by cases h), k, hk, co, by rw [hkk, hb.1]⟩, hb.2⟩
    | _ => rw [hkk] at hb; simp at hb
theorem st_K {args : Array Value} {s : State} (hts : ∀ w ∈ lw_tbl, w.before args s = true) : ∃ (D : va_G) (cs : ClassId × ClassId × ClassId × ClassId), va_K D CLS (tysG cs) s := by
  have htb : ∀ w ∈ TB, w.before args s = true := fun w h => hts w (tb_in h)
  obtain ⟨c0, i0, k0⟩ := u_known (C := RK) (T := FK) (N := 6) (n := 6) htb inK (htb _ tw_22)
  obtain ⟨c1, i1, k1⟩ := u_known (C := RT) (T := FT) (N := 6) (n := 6) htb inT (htb _ tw_68)
  obtain ⟨c2, i2, k2⟩ := u_known (C := RG) (T := FG) (N := 3) (n := 3) htb inG (htb _ tw_51)
  obtain ⟨c3, i3, k3⟩ := u_known (C := RB) (T := FB) (N := 8) (n := 8) htb inB (htb _ tw_14)
  obtain ⟨c4, i4, k4⟩ := u_known (C := RM) (T := FM) (N := 17) (n := 17) htb inM (htb _ tw_431)
  obtain ⟨a0, e0, f0⟩ := st_arr (htb _ tw_48)
  obtain ⟨a1, e1, f1⟩ := st_arr (htb _ tw_49)
  obtain ⟨a2, e2, f2⟩ := st_arr (htb _ tw_488)
  obtain ⟨a3, e3, f3⟩ := st_over (hts _ tn_28)
  refine ⟨(fun k => if k = 0 then c0 else if k = 1 then c1 else if k = 2 then c2 else if k = 3 then c3 else c4, fun k => if k = 0 then i0 else if k = 1 then i1 else if k = 2 then i2 else if k = 3 then i3 else i4), (a0, a1, a2, a3), ?_, ?_⟩
  · intro k q hq
    match k, hq with
    | 0, hq => cases hq; exact k0
    | 1, hq => cases hq; exact k1
    | 2, hq => cases hq; exact k2
    | 3, hq => cases hq; exact k3
    | 4, hq => cases hq; exact k4
    | k + 5, hq => simp at hq
  · intro k q hq
    match k, hq with
    | 0, hq => cases hq; exact ⟨e0, f0⟩
    | 1, hq => cases hq; exact ⟨e1, f1⟩
    | 2, hq => cases hq; exact ⟨e2, f2⟩
    | 3, hq => cases hq; exact ⟨e3, f3⟩
    | k + 4, hq => simp at hq
theorem st_N {args : Array Value} {s : State} (hts : ∀ w ∈ lw_tbl, w.before args s = true) : NWs s := ⟨va_Nw.of rfl (hts _ tn_59), va_Nw.of rfl (hts _ tn_78), va_Nw.of rfl (hts _ tn_80), va_Nw.of rfl (hts _ tn_23), va_Nw.of rfl (hts _ tn_52)⟩
theorem st_str {args : Array Value} {s : State} {own tx cl : String} {k : Nat} (h1 : (Cond.stringRef own k tx).before args s = true) (h2 : (Cond.exactly (.string own k) cl).before args s = true) : ∃ sa, vk_R own k tx sa s := by
  obtain ⟨a, c, cell, k9, h, -⟩ := Cond.exactly_spec h2
  exact ⟨a, vk_R.of h1 h⟩
theorem st_XF {args : Array Value} {s : State} (hts : ∀ w ∈ lw_tbl, w.before args s = true) (hg : ∀ c ∈ flatC (Jvm.Cond.and given_1 narrow_1), c.before args s = true) : XF s := ⟨va_tabs rfl rfl (hts _ tn_218), va_tabs rfl rfl (hts _ tn_287), va_tabs rfl rfl (hts _ tn_351), va_Nc.of (hg _ (by decide +kernel : Cond.not (.castable "java/lang/IllegalArgumentException" "java/lang/IndexOutOfBoundsException") ∈ flatC (Jvm.Cond.and given_1 narrow_1))), va_Nc.of (hg _ (by decide +kernel : Cond.not (.castable "java/lang/IllegalStateException" "java/lang/IndexOutOfBoundsException") ∈ flatC (Jvm.Cond.and given_1 narrow_1))), va_tabs rfl rfl (hts (.declares ⟨"java/lang/RuntimeException", "<init>", "(Ljava/lang/String;)V"⟩) (List.mem_append_right _ (List.mem_of_getElem? (i := 220) rfl))), va_tabs rfl rfl (hts (.declares ⟨"java/lang/Exception", "<init>", "(Ljava/lang/String;)V"⟩) (List.mem_append_right _ (List.mem_of_getElem? (i := 222) rfl))), va_tabs rfl rfl (hts (.declares ⟨"java/lang/Throwable", "<init>", "(Ljava/lang/String;)V"⟩) (List.mem_append_right _ (List.mem_of_getElem? (i := 224) rfl))), st_str (hts _ tn_257) (hg _ (by decide +kernel : Cond.exactly (.string "BoundedCodes" 150) "java/lang/String" ∈ flatC (Jvm.Cond.and given_1 narrow_1))), st_str (hts _ tn_294) (hg _ (by decide +kernel : Cond.exactly (.string "BoundedCodes" 67) "java/lang/String" ∈ flatC (Jvm.Cond.and given_1 narrow_1))), st_str (hts _ tn_308) (hg _ (by decide +kernel : Cond.exactly (.string "BoundedCodes" 72) "java/lang/String" ∈ flatC (Jvm.Cond.and given_1 narrow_1))), st_str (hts _ tn_358) (hg _ (by decide +kernel : Cond.exactly (.string "BoundedCodes" 155) "java/lang/String" ∈ flatC (Jvm.Cond.and given_1 narrow_1))), st_str (hts _ tn_373) (hg _ (by decide +kernel : Cond.exactly (.string "BoundedCodes" 96) "java/lang/String" ∈ flatC (Jvm.Cond.and given_1 narrow_1))), st_str (hts _ tn_385) (hg _ (by decide +kernel : Cond.exactly (.string "BoundedCodes" 105) "java/lang/String" ∈ flatC (Jvm.Cond.and given_1 narrow_1))), st_str (hts _ tn_386) (hg _ (by decide +kernel : Cond.exactly (.string "BoundedCodes" 107) "java/lang/String" ∈ flatC (Jvm.Cond.and given_1 narrow_1))), st_str (hts _ tn_394) (hg _ (by decide +kernel : Cond.exactly (.string "BoundedCodes" 113) "java/lang/String" ∈ flatC (Jvm.Cond.and given_1 narrow_1))), st_str (hts _ tn_429) (hg _ (by decide +kernel : Cond.exactly (.string "BoundedCodes" 137) "java/lang/String" ∈ flatC (Jvm.Cond.and given_1 narrow_1)))⟩
theorem st_XS {args : Array Value} {s : State} (hts : ∀ w ∈ lw_tbl, w.before args s = true) (hg : ∀ c ∈ flatC (Jvm.Cond.and given_1 narrow_1), c.before args s = true) : XS (fun q : Nat => s.heap.size ≤ q) s s.heap := ⟨vx_Zqof (hts _ tn_243) (hts _ (tb_in tw_7)) (hg _ (by decide +kernel : Cond.isRef (.static "java/lang/Throwable" "UNASSIGNED_STACK" "[Ljava/lang/StackTraceElement;") ∈ flatC (Jvm.Cond.and given_1 narrow_1))) (fun a h => Nat.not_le.mpr h), vx_Zqof (hts _ tn_245) (hts _ (tb_in tw_7)) (hg _ (by decide +kernel : Cond.isRef (.static "java/lang/Throwable" "SUPPRESSED_SENTINEL" "Ljava/util/List;") ∈ flatC (Jvm.Cond.and given_1 narrow_1))) (fun a h => Nat.not_le.mpr h)⟩
