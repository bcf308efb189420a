/-- the first int of a script, or 0 -/
def cellv (L : Nat) (xs : Nat → Int32) : Int32 := if 0 < L then xs 0 else nI 0
def PCC (D : va_G) (cs : ClassId × ClassId × ClassId × ClassId) (zz L : Nat) (xs : Nat → Int32) (sz : Nat) : Array Value → State → Prop :=
  va_Pc [.ref zz, .int (nI 0)] (fun U => U.heap.size = sz ∧ va_X zz L xs U U.heap ∧ zz < U.heap.size ∧ va_K D CLS (tysG cs) U ∧ NWs U)
theorem PCC.blind {D : va_G} {cs : ClassId × ClassId × ClassId × ClassId} {zz L : Nat} {xs : Nat → Int32} {sz : Nat} : FrameBlind (PCC D cs zz L xs sz) := fun a U g mk q => by
  obtain ⟨q0, q1, qX, qZ, qK, qN⟩ := q
  exact ⟨q0, q1, va_X.moved (u := U) (U := U.calling g mk a) (Vm.Alike.refl U.vm) qX, qZ, va_K.moved (u := U) (U := U.calling g mk a) (Vm.Alike.refl U.vm) qK, NWs.same (s := U) (U := U.calling g mk a) rfl qN⟩
set_option maxHeartbeats 4000000 in
set_option maxRecDepth 100000 in
theorem m_L_cell (l : Launch) (D : va_G) (cs : ClassId × ClassId × ClassId × ClassId) (zz L : Nat) (xs : Nat → Int32) (hL : L ≤ 2561) : ∀ sz, Met l y_L_cell (k_L_cell :: TB) { frames := 0, cells := 0, slots := 0, locals := 0 } (PCC D cs zz L xs sz) (QI D (cellv L xs) [] (va_A [] sz)) 0 0 (va_A [] sz) := by
  intro sz
  refine Met.ofW (cc := c_L_cell) (maxL := 2) (ret := some .int) (by decide) rfl ?_
  intro p e s m args below meth c s₁ B hml hv
  obtain ⟨rfl, hsz, hX, hbl, hK, hNW⟩ := hv
  have hts := atoms_spec (ws := k_L_cell :: TB) B.pre
  have hown : s.vm.findClass RL = some m.cls := findClass_of_methodNamed B.named
  have hr := B.returns
  have hlk := B.notSynchronized
  subst hsz
  have hP : va_P D CLS [] s.heap := fun k q h => by simp at h
  have hD : va_D (va_A [] s.heap.size) [] := ⟨fun i j p q h => by simp at h, fun k q h => by simp at h⟩
  have hl := lv_entry [.ref zz, .int (nI 0)] (n := 2) (Nat.le_of_ble_eq_true rfl)
  rw [lg_entry_eq]
  have C : CX p s m ([.ref zz, .int (nI 0)] : List Value).toArray c c_L_cell 2 RL D cs (va_A [] s.heap.size) := ⟨⟨B.exec, B.bytes, hml, hown, fun w h => hts w (List.mem_cons_of_mem _ h)⟩, hK, fun q h => Or.inr h, hNW⟩
  have hbA : ¬ va_A [] s.heap.size zz := by
    rintro (⟨k, e9, h⟩ | h)
    · simp at h
    · omega
  refine (?_ : GO p l e _ s m _ below meth c 0 0 _ (va_A [] s.heap.size) D 2 0 [(0, .ref zz), (1, .int (nI (0)))] [] []) s.heap [] _ hP hD va_S.rf hl
  refine g_iload_n C d_L_cell_0 1 rfl rfl ?_
  refine g_aload_n C d_L_cell_1 0 rfl rfl ?_
  refine g_xlen C hX hbl hbA d_L_cell_2 ?_
  refine n_icmp_ge C 12 d_L_cell_3 (by decide) (by omega) (by omega) (fun h3 => ?_) (fun h3 => ?_)
  · refine g_iconst C (v := nI 0) d_L_cell_12 rfl ?_
    exact g_iret C hr hlk (by unfold cellv; rw [if_neg (by omega)]) rfl d_L_cell_13
  · refine g_aload_n C d_L_cell_6 0 rfl rfl ?_
    refine g_iload_n C d_L_cell_7 1 rfl rfl ?_
    refine g_xald C hX hbl hbA (i := 0) (v := xs 0) (by omega) (by omega) rfl d_L_cell_8 ?_
    refine g_goto C 13 d_L_cell_9 (by decide) ?_
    exact g_iret C hr hlk (by unfold cellv; rw [if_pos (by omega)]) rfl d_L_cell_13
section GCELL
variable {p : Program} {l : Launch} {e : Env} {R : Room} {s : State} {m : MethodId} {args : Array Value} {below : List Frame} {meth : Method} {c : Code} {cells slots : Nat} {Q : State → Prop} {A : Nat → Prop} {D : va_G} {nL : Nat} {cc : ByteArray} {own : String} {cs : ClassId × ClassId × ClassId × ClassId}
variable {pc : Nat} {lv lv' : List (Nat × Value)} {st : List Value} {ws ws' : va_W}
theorem g_cell (C : CX p s m args c cc nL own D cs A) {zz L : Nat} {xs : Nat → Int32} {index : Nat} {rest : List Value} (hX : va_X zz L xs s s.heap) (hbl : zz < s.heap.size) (hbA : ¬ A zz) (hL : L ≤ 2561) (w1 : Cond.methodLink own index y_L_cell ∈ TB) (w2 : Cond.static y_L_cell ∈ TB) (w4 : Cond.initialized y_L_cell.cls ∈ TB) (w5 : k_L_cell ∈ TB)
    (hrm : (0 + 1 ≤ R.frames ∧ 8 + (2 + 11) + 0 ≤ R.locals) ∧ cells + 0 ≤ R.cells ∧ slots + 0 ≤ R.slots) (hrest : (rest.map fun v => v.category).sum ≤ 8) (d : decode cc pc = .ok (.invokestatic index, 3))
    (g : GO p l e R s m args below meth c cells slots Q A D nL (pc + 3) lv (.int (cellv L xs) :: rest) ws) : GO p l e R s m args below meth c cells slots Q A D nL pc lv (.int (nI 0) :: .ref zz :: rest) ws := by
  obtain ⟨⟨hx, hb, hml, hown, ht⟩, hK, hA, hNW⟩ := C
  intro H locs ls hP hD hS hl
  have hFc := va_free (wc := []) hD hS hA [] rfl
  have hX2 : va_X zz L xs s H := hX.kept (hS.2.1 zz hbl hbA)
  have hpre : ∀ U : State, U.heap = H → s.WarmedH U.vm → PCC D cs zz L xs H.size ([.ref zz, .int (nI 0)] : List Value).toArray U := fun U hU hW => ⟨rfl, by rw [hU], by rw [hU]; exact va_X.moved hW.alike hX2, by rw [hU]; exact Nat.lt_of_lt_of_le hbl hS.1, va_K.moved hW.alike hK, NWs.warm hW hNW⟩
  refine va_calli (va_runS (As := [.ref zz, .int (nI 0)]) (rest := rest) ⟨hx, hb, hml, hown, ht⟩ (m_L_cell l D cs zz L xs hL H.size) (va_cwS 2 ht (tb_wsS w1 w2 w4 w5) rfl rfl rfl (by decide +kernel) hrm.1) ⟨PCC.blind, hpre⟩ rfl rfl hl.1 rfl (lv_room hrest) d ⟨hrm.2.1, hrm.2.2⟩) hS (fun q _ h => hFc q h) hFc (fun r_ u t H1 locs1 ht9 hvm hw hB hz1 hk1 hS1 => ?_)
  subst hw
  rw [ht9] at hB
  obtain ⟨hP9, hD9⟩ := w_upd (wc := []) (wc' := []) [] hP hD rfl rfl hk1 hB
  exact g H1 locs1 ls hP9 hD9 hS1 hl
end GCELL
