/-- the rows of a grid of 16 rows of 48 numbers -/
def rowsW (cI : ClassId) (ra : Nat → Nat) (pl : Nat → Nat → Nat) : va_W := (List.range 16).map (fun i => (ra i, .inl (cI, 48, .inl (fun j => nI (pl i j)))))
def updG (pl : Nat → Nat → Nat) (i j v : Nat) : Nat → Nat → Nat := fun r => if r = i then updN (pl i) j v else pl r
theorem rows_at {cI : ClassId} {ra : Nat → Nat} {pl : Nat → Nat → Nat} {X : va_W} {i : Nat} (h : i < 16) : (X ++ rowsW cI ra pl)[X.length + i]? = some (ra i, .inl (cI, 48, .inl (fun j => nI (pl i j)))) := by
  rw [List.getElem?_append_right (by omega)]
  simp [rowsW, h]
theorem rows_set {cI : ClassId} {ra : Nat → Nat} {pl : Nat → Nat → Nat} {X : va_W} {i j v : Nat} (h : i < 16) : (X ++ rowsW cI ra pl).set (X.length + i) (ra i, .inl (cI, 48, .inl (fun q => nI (updN (pl i) j v q)))) = X ++ rowsW cI ra (updG pl i j v) := by
  apply List.ext_getElem?
  intro k
  by_cases hk : k = X.length + i
  · subst hk
    rw [List.getElem?_set_self (by simp [rowsW]; omega), rows_at h]
    simp [updG]
  · rw [List.getElem?_set_ne (Ne.symm hk)]
    by_cases hl : k < X.length
    · rw [List.getElem?_append_left hl, List.getElem?_append_left hl]
    · obtain ⟨q, rfl⟩ : ∃ q, k = X.length + q := ⟨k - X.length, by omega⟩
      have hq : q ≠ i := fun e => hk (by rw [e])
      by_cases h16 : q < 16
      · rw [rows_at h16, rows_at h16]
        simp [updG, hq]
      · rw [List.getElem?_append_right (by omega), List.getElem?_append_right (by omega)]
        have e9 : (List.range 16)[q]? = none := List.getElem?_eq_none (by simp; omega)
        simp [rowsW, e9]
section GR7
variable {p : Program} {l : Launch} {e : Env} {R : Room} {s : State} {m : MethodId} {args : Array Value} {below : List Frame} {meth : Method} {c : Code} {cells slots : Nat} {Q : State → Prop} {A : Nat → Prop} {D : va_G} {nL : Nat} {cc : ByteArray} {own : String} {cs : ClassId × ClassId × ClassId × ClassId}
variable {pc : Nat} {lv lv' : List (Nat × Value)} {st : List Value} {ws ws' : va_W}

theorem g_aald (C : CX p s m args c cc nL own D cs A) {a i : Nat} {ra : Nat → Nat} (q0 : Nat) (ha : ws[q0]? = some (a, .inl (cs.2.2.2, 16, .inr (.inr (.inr (.inr (fun i => some (ra i)))))))) (hi : i < 16) (d : decode cc pc = .ok (.aaload, 1)) (g : GO p l e R s m args below meth c cells slots Q A D nL (pc + 1) lv (.ref (ra i) :: st) ws) : GO p l e R s m args below meth c cells slots Q A D nL pc lv (.int (nI i) :: .ref a :: st) ws := by
  obtain ⟨⟨hx, hb, hml, hown, ht⟩, hK, hA⟩ := C
  intro H locs ls hP hD hS hl
  have hin : vp_in (nI i) 16 := vp_in_nI hi (by omega)
  have hlt : (nI i).toNatClampNeg < 16 := Nat.not_le.mp fun q => hin (Or.inr q)
  have hg := g H locs ls hP hD hS hl
  refine W.aald (v := .ref (ra i)) (ty := .array .int) hx hb (hP q0 _ ha) ((hK.2 3 _ rfl).1 16 (fun j => va_rf (some (ra j)))) rfl (fun q => by cases q) (by show ¬ (nI i < 0 ∨ (arrV _ _ _).slots.size ≤ _); rw [arrV_size]; exact hin) (by show (arrV _ _ _).slots[_]? = _; rw [arrV_read _ _ hlt, nI_clamp (by omega)]; rfl) rfl rfl d hg
theorem g_rald (C : CX p s m args c cc nL own D cs A) {X : va_W} {i j : Nat} {ra : Nat → Nat} {pl : Nat → Nat → Nat} (hX : ws = X ++ rowsW cs.1 ra pl) (hi : i < 16) (hj : j < 48) (d : decode cc pc = .ok (.iaload, 1)) (g : GO p l e R s m args below meth c cells slots Q A D nL (pc + 1) lv (.int (nI (pl i j)) :: st) ws) : GO p l e R s m args below meth c cells slots Q A D nL pc lv (.int (nI j) :: .ref (ra i) :: st) ws := by
  subst hX
  exact g_iald C (f := fun j => nI (pl i j)) (X.length + i) (rows_at hi) hj (by omega) d g
theorem g_rast (C : CX p s m args c cc nL own D cs A) {X : va_W} {i j v : Nat} {ra : Nat → Nat} {pl : Nat → Nat → Nat} (hX : ws = X ++ rowsW cs.1 ra pl) (hi : i < 16) (hj : j < 48) (hws : X ++ rowsW cs.1 ra (updG pl i j v) = ws') (d : decode cc pc = .ok (.iastore, 1)) (g : GO p l e R s m args below meth c cells slots Q A D nL (pc + 1) lv st ws') : GO p l e R s m args below meth c cells slots Q A D nL pc lv (.int (nI v) :: .int (nI j) :: .ref (ra i) :: st) ws := by
  subst hX
  exact n_iast C (f := pl i) (X.length + i) (rows_at hi) hj (by omega) (by rw [rows_set hi]; exact hws) d g
end GR7
