section GR5
variable {p : Program} {l : Launch} {e : Env} {R : Room} {s : State} {m : MethodId} {args : Array Value} {below : List Frame} {meth : Method} {c : Code} {cells slots : Nat} {Q : State → Prop} {A : Nat → Prop} {D : va_G} {nL : Nat} {cc : ByteArray} {own : String} {cs : ClassId × ClassId × ClassId × ClassId}
variable {pc : Nat} {lv lv' : List (Nat × Value)} {st : List Value} {ws ws' : va_W}

theorem g_mmin (C : CX p s m args c cc nL own D cs A) {a b idx : Nat} (w1 : Cond.methodLink own idx Lib.Math.min.name ∈ TB) (hR : 1 ≤ R.frames ∧ (st.map fun v => v.category).sum + 13 ≤ R.locals ∧ cells ≤ R.cells ∧ slots ≤ R.slots) (ha : a < 2 ^ 31) (hb9 : b < 2 ^ 31) (d : decode cc pc = .ok (.invokestatic idx, 3)) (g : GO p l e R s m args below meth c cells slots Q A D nL (pc + 3) lv (.int (nI (min a b)) :: st) ws) : GO p l e R s m args below meth c cells slots Q A D nL pc lv (.int (nI b) :: .int (nI a) :: st) ws := by
  obtain ⟨⟨hx, hb, hml, hown, ht⟩, hK, hA⟩ := C
  intro H locs ls hP hD hS hl
  refine va_mmin hx hb (hml.trans hl.1.symm) hown (ht _ w1) (ht _ tw_164) (ht _ tw_5) (ht _ tw_165) hR.1 hR.2.1 hR.2.2.1 hR.2.2.2 d ?_
  have e9 : (if nI b < nI a then nI b else nI a) = nI (min a b) := by
    by_cases h : b < a
    · rw [if_pos ((nI_ltI hb9 ha).mpr h), Nat.min_eq_right (by omega)]
    · rw [if_neg (fun q => h ((nI_ltI hb9 ha).mp q)), Nat.min_eq_left (by omega)]
  rw [e9]
  exact g H locs ls hP hD hS hl
theorem abs_nI {x : Int32} (h1 : -1000 ≤ x.toInt) (h2 : x.toInt ≤ 1000) : (if 0 ≤ x then x else 0 - x) = nI x.toInt.natAbs := by
  by_cases h : 0 ≤ x
  · rw [if_pos h]
    have h3 : 0 ≤ x.toInt := by have := Int32.le_iff_toInt_le.mp h; simpa using this
    apply Int32.toInt_inj.mp
    rw [nI_toInt (by omega)]; omega
  · rw [if_neg h]
    have h3 : x.toInt < 0 := by
      have := Int32.not_le.mp h
      have := Int32.lt_iff_toInt_lt.mp this; simpa using this
    apply Int32.toInt_inj.mp
    rw [nI_toInt (by omega), Int32.toInt_sub]
    rw [Int32.toInt_zero, Int.bmod_eq_of_le (by omega) (by omega)]
    omega
theorem g_mabs (C : CX p s m args c cc nL own D cs A) {x : Int32} {idx : Nat} (w1 : Cond.methodLink own idx Lib.Math.abs.name ∈ TB) (hR : 1 ≤ R.frames ∧ (st.map fun v => v.category).sum + 13 ≤ R.locals ∧ cells ≤ R.cells ∧ slots ≤ R.slots) (h1 : -1000 ≤ x.toInt) (h2 : x.toInt ≤ 1000) (d : decode cc pc = .ok (.invokestatic idx, 3)) (g : GO p l e R s m args below meth c cells slots Q A D nL (pc + 3) lv (.int (nI x.toInt.natAbs) :: st) ws) : GO p l e R s m args below meth c cells slots Q A D nL pc lv (.int x :: st) ws := by
  obtain ⟨⟨hx, hb, hml, hown, ht⟩, hK, hA⟩ := C
  intro H locs ls hP hD hS hl
  refine va_mabs hx hb (hml.trans hl.1.symm) hown (ht _ w1) (ht _ tw_420) (ht _ tw_5) (ht _ tw_421) hR.1 hR.2.1 hR.2.2.1 hR.2.2.2 d ?_
  rw [abs_nI h1 h2]
  exact g H locs ls hP hD hS hl
end GR5
