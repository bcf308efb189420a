section GR2
variable {p : Program} {l : Launch} {e : Env} {R : Room} {s : State} {m : MethodId} {args : Array Value} {below : List Frame} {meth : Method} {c : Code} {cells slots : Nat} {Q : State → Prop} {A : Nat → Prop} {D : va_G} {nL : Nat} {cc : ByteArray} {own : String} {cs : ClassId × ClassId × ClassId × ClassId}
variable {pc : Nat} {lv lv' : List (Nat × Value)} {st : List Value} {ws ws' : va_W}

theorem n_icmp_eq (C : CX p s m args c cc nL own D cs A) {a b : Nat} {off : Int} (tgt : Nat) (d : decode cc pc = .ok (.if_icmp .eq off, 3)) (ht9 : (pc : Int) + off = (tgt : Int)) (ha : a < 2 ^ 31) (hb9 : b < 2 ^ 31) (gt : a = b → GO p l e R s m args below meth c cells slots Q A D nL tgt lv st ws) (gf : a ≠ b → GO p l e R s m args below meth c cells slots Q A D nL (pc + 3) lv st ws) : GO p l e R s m args below meth c cells slots Q A D nL pc lv (.int (nI b) :: .int (nI a) :: st) ws := by
  exact g_icmp_eq C tgt d ht9 (fun h => gt ((nI_eq ha hb9).mp h)) (fun h => gf (fun q => h (by rw [q])))
theorem n_icmp_ne (C : CX p s m args c cc nL own D cs A) {a b : Nat} {off : Int} (tgt : Nat) (d : decode cc pc = .ok (.if_icmp .ne off, 3)) (ht9 : (pc : Int) + off = (tgt : Int)) (ha : a < 2 ^ 31) (hb9 : b < 2 ^ 31) (gt : a ≠ b → GO p l e R s m args below meth c cells slots Q A D nL tgt lv st ws) (gf : a = b → GO p l e R s m args below meth c cells slots Q A D nL (pc + 3) lv st ws) : GO p l e R s m args below meth c cells slots Q A D nL pc lv (.int (nI b) :: .int (nI a) :: st) ws := by
  exact g_icmp_ne C tgt d ht9 (fun h => gt (fun q => h (by rw [q]))) (fun h => gf ((nI_eq ha hb9).mp (Classical.not_not.mp h)))
theorem n_icmp_lt (C : CX p s m args c cc nL own D cs A) {a b : Nat} {off : Int} (tgt : Nat) (d : decode cc pc = .ok (.if_icmp .lt off, 3)) (ht9 : (pc : Int) + off = (tgt : Int)) (ha : a < 2 ^ 31) (hb9 : b < 2 ^ 31) (gt : a < b → GO p l e R s m args below meth c cells slots Q A D nL tgt lv st ws) (gf : b ≤ a → GO p l e R s m args below meth c cells slots Q A D nL (pc + 3) lv st ws) : GO p l e R s m args below meth c cells slots Q A D nL pc lv (.int (nI b) :: .int (nI a) :: st) ws := by
  exact g_icmp_lt C tgt d ht9 (fun h => gt ((nI_ltI ha hb9).mp h)) (fun h => gf (Nat.not_lt.mp (fun q => h ((nI_ltI ha hb9).mpr q))))
theorem n_icmp_ge (C : CX p s m args c cc nL own D cs A) {a b : Nat} {off : Int} (tgt : Nat) (d : decode cc pc = .ok (.if_icmp .ge off, 3)) (ht9 : (pc : Int) + off = (tgt : Int)) (ha : a < 2 ^ 31) (hb9 : b < 2 ^ 31) (gt : b ≤ a → GO p l e R s m args below meth c cells slots Q A D nL tgt lv st ws) (gf : a < b → GO p l e R s m args below meth c cells slots Q A D nL (pc + 3) lv st ws) : GO p l e R s m args below meth c cells slots Q A D nL pc lv (.int (nI b) :: .int (nI a) :: st) ws := by
  exact g_icmp_ge C tgt d ht9 (fun h => gt ((nI_leI hb9 ha).mp h)) (fun h => gf (Nat.not_le.mp (fun q => h ((nI_leI hb9 ha).mpr q))))
theorem n_icmp_gt (C : CX p s m args c cc nL own D cs A) {a b : Nat} {off : Int} (tgt : Nat) (d : decode cc pc = .ok (.if_icmp .gt off, 3)) (ht9 : (pc : Int) + off = (tgt : Int)) (ha : a < 2 ^ 31) (hb9 : b < 2 ^ 31) (gt : b < a → GO p l e R s m args below meth c cells slots Q A D nL tgt lv st ws) (gf : a ≤ b → GO p l e R s m args below meth c cells slots Q A D nL (pc + 3) lv st ws) : GO p l e R s m args below meth c cells slots Q A D nL pc lv (.int (nI b) :: .int (nI a) :: st) ws := by
  exact g_icmp_gt C tgt d ht9 (fun h => gt ((nI_ltI hb9 ha).mp h)) (fun h => gf (Nat.not_lt.mp (fun q => h ((nI_ltI hb9 ha).mpr q))))
theorem n_icmp_le (C : CX p s m args c cc nL own D cs A) {a b : Nat} {off : Int} (tgt : Nat) (d : decode cc pc = .ok (.if_icmp .le off, 3)) (ht9 : (pc : Int) + off = (tgt : Int)) (ha : a < 2 ^ 31) (hb9 : b < 2 ^ 31) (gt : a ≤ b → GO p l e R s m args below meth c cells slots Q A D nL tgt lv st ws) (gf : b < a → GO p l e R s m args below meth c cells slots Q A D nL (pc + 3) lv st ws) : GO p l e R s m args below meth c cells slots Q A D nL pc lv (.int (nI b) :: .int (nI a) :: st) ws := by
  exact g_icmp_le C tgt d ht9 (fun h => gt ((nI_leI ha hb9).mp h)) (fun h => gf (Nat.not_le.mp (fun q => h ((nI_leI ha hb9).mpr q))))
theorem nI_z {a : Nat} (ha : a < 2 ^ 31) : nI a = 0 ↔ a = 0 := ⟨fun h => Classical.byContradiction fun q => nI_ne0 (Nat.pos_of_ne_zero q) ha h, fun h => by rw [h]; exact nI_0⟩
theorem nI_le0 {a : Nat} (ha : a < 2 ^ 31) : nI a ≤ 0 ↔ a = 0 := ⟨fun h => Classical.byContradiction fun q => nI_nle (Nat.pos_of_ne_zero q) ha h, fun h => by rw [h]; decide⟩
theorem nI_gt0 {a : Nat} (ha : a < 2 ^ 31) : 0 < nI a ↔ 0 < a := by
  rw [Int32.lt_iff_toInt_lt, nI_toInt ha]; simp
theorem n_if_eq (C : CX p s m args c cc nL own D cs A) {a : Nat} {off : Int} (tgt : Nat) (d : decode cc pc = .ok (.ifCond .eq off, 3)) (ht9 : (pc : Int) + off = (tgt : Int)) (ha : a < 2 ^ 31) (gt : a = 0 → GO p l e R s m args below meth c cells slots Q A D nL tgt lv st ws) (gf : 0 < a → GO p l e R s m args below meth c cells slots Q A D nL (pc + 3) lv st ws) : GO p l e R s m args below meth c cells slots Q A D nL pc lv (.int (nI a) :: st) ws := by
  exact g_if_eq C tgt d ht9 (fun h => gt ((nI_z ha).mp h)) (fun h => gf (Nat.pos_of_ne_zero fun q => h ((nI_z ha).mpr q)))
theorem n_if_ne (C : CX p s m args c cc nL own D cs A) {a : Nat} {off : Int} (tgt : Nat) (d : decode cc pc = .ok (.ifCond .ne off, 3)) (ht9 : (pc : Int) + off = (tgt : Int)) (ha : a < 2 ^ 31) (gt : 0 < a → GO p l e R s m args below meth c cells slots Q A D nL tgt lv st ws) (gf : a = 0 → GO p l e R s m args below meth c cells slots Q A D nL (pc + 3) lv st ws) : GO p l e R s m args below meth c cells slots Q A D nL pc lv (.int (nI a) :: st) ws := by
  exact g_if_ne C tgt d ht9 (fun h => gt (Nat.pos_of_ne_zero fun q => h ((nI_z ha).mpr q))) (fun h => gf ((nI_z ha).mp (Classical.not_not.mp h)))
theorem n_if_le (C : CX p s m args c cc nL own D cs A) {a : Nat} {off : Int} (tgt : Nat) (d : decode cc pc = .ok (.ifCond .le off, 3)) (ht9 : (pc : Int) + off = (tgt : Int)) (ha : a < 2 ^ 31) (gt : a = 0 → GO p l e R s m args below meth c cells slots Q A D nL tgt lv st ws) (gf : 0 < a → GO p l e R s m args below meth c cells slots Q A D nL (pc + 3) lv st ws) : GO p l e R s m args below meth c cells slots Q A D nL pc lv (.int (nI a) :: st) ws := by
  exact g_if_le C tgt d ht9 (fun h => gt ((nI_le0 ha).mp h)) (fun h => gf (Nat.pos_of_ne_zero fun q => h ((nI_le0 ha).mpr q)))
theorem n_if_gt (C : CX p s m args c cc nL own D cs A) {a : Nat} {off : Int} (tgt : Nat) (d : decode cc pc = .ok (.ifCond .gt off, 3)) (ht9 : (pc : Int) + off = (tgt : Int)) (ha : a < 2 ^ 31) (gt : 0 < a → GO p l e R s m args below meth c cells slots Q A D nL tgt lv st ws) (gf : a = 0 → GO p l e R s m args below meth c cells slots Q A D nL (pc + 3) lv st ws) : GO p l e R s m args below meth c cells slots Q A D nL pc lv (.int (nI a) :: st) ws := by
  exact g_if_gt C tgt d ht9 (fun h => gt ((nI_gt0 ha).mp h)) (fun h => gf (Nat.eq_zero_of_not_pos fun q => h ((nI_gt0 ha).mpr q)))
theorem n_if_lt (C : CX p s m args c cc nL own D cs A) {a : Nat} {off : Int} (tgt : Nat) (d : decode cc pc = .ok (.ifCond .lt off, 3)) (ht9 : (pc : Int) + off = (tgt : Int)) (ha : a < 2 ^ 31) (gf : GO p l e R s m args below meth c cells slots Q A D nL (pc + 3) lv st ws) : GO p l e R s m args below meth c cells slots Q A D nL pc lv (.int (nI a) :: st) ws :=
  g_if_lt C tgt d ht9 (fun h => absurd h (nI_pos ha)) (fun _ => gf)
theorem n_if_ge (C : CX p s m args c cc nL own D cs A) {a : Nat} {off : Int} (tgt : Nat) (d : decode cc pc = .ok (.ifCond .ge off, 3)) (ht9 : (pc : Int) + off = (tgt : Int)) (ha : a < 2 ^ 31) (gt : GO p l e R s m args below meth c cells slots Q A D nL tgt lv st ws) : GO p l e R s m args below meth c cells slots Q A D nL pc lv (.int (nI a) :: st) ws :=
  g_if_ge C tgt d ht9 (fun _ => gt) (fun h => absurd (nI_pos' ha) h)
theorem lgc_0 (x y : Int64) : lg_cmp x y = 0 ↔ x = y := by
  unfold lg_cmp
  by_cases h1 : y < x
  · have : x ≠ y := fun q => by rw [q] at h1; exact absurd h1 (Int64.lt_irrefl)
    simp [h1, this]
  · by_cases h2 : x = y <;> simp [h1, h2]
theorem lgc_le (x y : Int64) : lg_cmp x y ≤ 0 ↔ x ≤ y := by
  unfold lg_cmp
  by_cases h1 : y < x
  · simp [h1, Int64.not_le.mpr h1]
  · have := Int64.not_lt.mp h1
    by_cases h2 : x = y
    · subst h2; simp [h1]
    · simp [h1, h2, this]
theorem lgc_lt (x y : Int64) : lg_cmp x y < 0 ↔ x < y := by
  unfold lg_cmp
  by_cases h1 : y < x
  · simp [h1, Int64.not_lt.mpr (Int64.le_of_lt h1)]
  · by_cases h2 : x = y
    · subst h2; simp [h1]
    · have : x < y := Int64.lt_of_le_of_ne (Int64.not_lt.mp h1) h2
      simp [h1, h2, this]
theorem g_lcmp_eq (C : CX p s m args c cc nL own D cs A) {x y : Int64} {off : Int} (tgt : Nat) (d1 : decode cc pc = .ok (.lcmp, 1)) (d : decode cc (pc + 1) = .ok (.ifCond .eq off, 3)) (ht9 : ((pc + 1 : Nat) : Int) + off = (tgt : Int)) (gt : x = y → GO p l e R s m args below meth c cells slots Q A D nL tgt lv st ws) (gf : ¬ x = y → GO p l e R s m args below meth c cells slots Q A D nL (pc + 4) lv st ws) : GO p l e R s m args below meth c cells slots Q A D nL pc lv (.long y :: .long x :: st) ws := by
  have CC := C
  obtain ⟨⟨hx, hb, hml, hown, ht⟩, hK, hA⟩ := C
  intro H locs ls hP hD hS hl
  refine W.lcmp hx hb d1 ?_
  refine g_if_eq CC (pc := pc + 1) (st := st) (ws := ws) tgt d ht9 (fun h => ?_) (fun h => ?_) H locs ls hP hD hS hl
  · intro H locs ls hP hD hS hl
    exact gt ((lgc_0 x y).mp h) H locs ls hP hD hS hl
  · intro H locs ls hP hD hS hl
    exact gf (fun q => h ((lgc_0 x y).mpr q)) H locs ls hP hD hS hl
theorem g_lcmp_ne (C : CX p s m args c cc nL own D cs A) {x y : Int64} {off : Int} (tgt : Nat) (d1 : decode cc pc = .ok (.lcmp, 1)) (d : decode cc (pc + 1) = .ok (.ifCond .ne off, 3)) (ht9 : ((pc + 1 : Nat) : Int) + off = (tgt : Int)) (gt : ¬ x = y → GO p l e R s m args below meth c cells slots Q A D nL tgt lv st ws) (gf : x = y → GO p l e R s m args below meth c cells slots Q A D nL (pc + 4) lv st ws) : GO p l e R s m args below meth c cells slots Q A D nL pc lv (.long y :: .long x :: st) ws := by
  have CC := C
  obtain ⟨⟨hx, hb, hml, hown, ht⟩, hK, hA⟩ := C
  intro H locs ls hP hD hS hl
  refine W.lcmp hx hb d1 ?_
  refine g_if_ne CC (pc := pc + 1) (st := st) (ws := ws) tgt d ht9 (fun h => ?_) (fun h => ?_) H locs ls hP hD hS hl
  · intro H locs ls hP hD hS hl
    exact gt (fun q => h ((lgc_0 x y).mpr q)) H locs ls hP hD hS hl
  · intro H locs ls hP hD hS hl
    exact gf ((lgc_0 x y).mp (Classical.not_not.mp h)) H locs ls hP hD hS hl
theorem g_lcmp_le (C : CX p s m args c cc nL own D cs A) {x y : Int64} {off : Int} (tgt : Nat) (d1 : decode cc pc = .ok (.lcmp, 1)) (d : decode cc (pc + 1) = .ok (.ifCond .le off, 3)) (ht9 : ((pc + 1 : Nat) : Int) + off = (tgt : Int)) (gt : x ≤ y → GO p l e R s m args below meth c cells slots Q A D nL tgt lv st ws) (gf : y < x → GO p l e R s m args below meth c cells slots Q A D nL (pc + 4) lv st ws) : GO p l e R s m args below meth c cells slots Q A D nL pc lv (.long y :: .long x :: st) ws := by
  have CC := C
  obtain ⟨⟨hx, hb, hml, hown, ht⟩, hK, hA⟩ := C
  intro H locs ls hP hD hS hl
  refine W.lcmp hx hb d1 ?_
  refine g_if_le CC (pc := pc + 1) (st := st) (ws := ws) tgt d ht9 (fun h => ?_) (fun h => ?_) H locs ls hP hD hS hl
  · intro H locs ls hP hD hS hl
    exact gt ((lgc_le x y).mp h) H locs ls hP hD hS hl
  · intro H locs ls hP hD hS hl
    exact gf (Int64.not_le.mp fun q => h ((lgc_le x y).mpr q)) H locs ls hP hD hS hl
theorem g_lcmp_gt (C : CX p s m args c cc nL own D cs A) {x y : Int64} {off : Int} (tgt : Nat) (d1 : decode cc pc = .ok (.lcmp, 1)) (d : decode cc (pc + 1) = .ok (.ifCond .gt off, 3)) (ht9 : ((pc + 1 : Nat) : Int) + off = (tgt : Int)) (gt : y < x → GO p l e R s m args below meth c cells slots Q A D nL tgt lv st ws) (gf : x ≤ y → GO p l e R s m args below meth c cells slots Q A D nL (pc + 4) lv st ws) : GO p l e R s m args below meth c cells slots Q A D nL pc lv (.long y :: .long x :: st) ws := by
  have CC := C
  obtain ⟨⟨hx, hb, hml, hown, ht⟩, hK, hA⟩ := C
  intro H locs ls hP hD hS hl
  refine W.lcmp hx hb d1 ?_
  refine g_if_gt CC (pc := pc + 1) (st := st) (ws := ws) tgt d ht9 (fun h => ?_) (fun h => ?_) H locs ls hP hD hS hl
  · intro H locs ls hP hD hS hl
    exact gt (Int64.not_le.mp fun q => absurd ((lgc_le x y).mpr q) (Int32.not_le.mpr h)) H locs ls hP hD hS hl
  · intro H locs ls hP hD hS hl
    exact gf ((lgc_le x y).mp (Int32.not_lt.mp h)) H locs ls hP hD hS hl
theorem g_lcmp_lt (C : CX p s m args c cc nL own D cs A) {x y : Int64} {off : Int} (tgt : Nat) (d1 : decode cc pc = .ok (.lcmp, 1)) (d : decode cc (pc + 1) = .ok (.ifCond .lt off, 3)) (ht9 : ((pc + 1 : Nat) : Int) + off = (tgt : Int)) (gt : x < y → GO p l e R s m args below meth c cells slots Q A D nL tgt lv st ws) (gf : y ≤ x → GO p l e R s m args below meth c cells slots Q A D nL (pc + 4) lv st ws) : GO p l e R s m args below meth c cells slots Q A D nL pc lv (.long y :: .long x :: st) ws := by
  have CC := C
  obtain ⟨⟨hx, hb, hml, hown, ht⟩, hK, hA⟩ := C
  intro H locs ls hP hD hS hl
  refine W.lcmp hx hb d1 ?_
  refine g_if_lt CC (pc := pc + 1) (st := st) (ws := ws) tgt d ht9 (fun h => ?_) (fun h => ?_) H locs ls hP hD hS hl
  · intro H locs ls hP hD hS hl
    exact gt ((lgc_lt x y).mp h) H locs ls hP hD hS hl
  · intro H locs ls hP hD hS hl
    exact gf (Int64.not_lt.mp fun q => h ((lgc_lt x y).mpr q)) H locs ls hP hD hS hl
theorem g_lcmp_ge (C : CX p s m args c cc nL own D cs A) {x y : Int64} {off : Int} (tgt : Nat) (d1 : decode cc pc = .ok (.lcmp, 1)) (d : decode cc (pc + 1) = .ok (.ifCond .ge off, 3)) (ht9 : ((pc + 1 : Nat) : Int) + off = (tgt : Int)) (gt : y ≤ x → GO p l e R s m args below meth c cells slots Q A D nL tgt lv st ws) (gf : x < y → GO p l e R s m args below meth c cells slots Q A D nL (pc + 4) lv st ws) : GO p l e R s m args below meth c cells slots Q A D nL pc lv (.long y :: .long x :: st) ws := by
  have CC := C
  obtain ⟨⟨hx, hb, hml, hown, ht⟩, hK, hA⟩ := C
  intro H locs ls hP hD hS hl
  refine W.lcmp hx hb d1 ?_
  refine g_if_ge CC (pc := pc + 1) (st := st) (ws := ws) tgt d ht9 (fun h => ?_) (fun h => ?_) H locs ls hP hD hS hl
  · intro H locs ls hP hD hS hl
    exact gt (Int64.not_lt.mp fun q => absurd ((lgc_lt x y).mpr q) (Int32.not_lt.mpr h)) H locs ls hP hD hS hl
  · intro H locs ls hP hD hS hl
    exact gf ((lgc_lt x y).mp (Int32.not_le.mp h)) H locs ls hP hD hS hl
theorem g_get (C : CX p s m args c cc nL own D cs A) {C9 : String} {T : u_T} {N ci index a : Nat} {fs : List Value} {v : Value} (q0 k : Nat) (hin : ∀ w ∈ u_ws C9 T N, w ∈ TB) (he : ws[q0]? = some (a, .inr (ci, fs))) (hc : CLS[ci]? = some (C9, T, N)) (hk : k < N) (hw : Cond.fieldLink own index C9 (T k).2.1 (T k).2.2.1 ∈ TB) (h1 : (T k).1 = C9) (hv : fs[k]? = some v) (d : decode cc pc = .ok (.getfield index, 3)) (g : GO p l e R s m args below meth c cells slots Q A D nL (pc + 3) lv (v :: st) ws) : GO p l e R s m args below meth c cells slots Q A D nL pc lv (.ref a :: st) ws := by
  obtain ⟨⟨hx, hb, hml, hown, ht⟩, hK, hA⟩ := C
  intro H locs ls hP hD hS hl
  exact va_get (D := D) hx hb ht hin hown hK hP q0 he hc k hk (ht _ hw) (fun _ h9 => by rw [h1] at h9; exact h9) hv d (g H locs ls hP hD hS hl)
theorem g_getN (C : CX p s m args c cc nL own D cs A) {C9 host : String} {T : u_T} {N ci index a : Nat} {fs : List Value} {v : Value} {k : Nat} (hN : va_Nw (.fieldLinkNest own index C9 (T k).2.1 (T k).2.2.1 host) s) (q0 : Nat) (hin : ∀ w ∈ u_ws C9 T N, w ∈ TB) (he : ws[q0]? = some (a, .inr (ci, fs))) (hc : CLS[ci]? = some (C9, T, N)) (hk : k < N) (h1 : (T k).1 = C9) (hv : fs[k]? = some v) (d : decode cc pc = .ok (.getfield index, 3)) (g : GO p l e R s m args below meth c cells slots Q A D nL (pc + 3) lv (v :: st) ws) : GO p l e R s m args below meth c cells slots Q A D nL pc lv (.ref a :: st) ws := by
  obtain ⟨⟨hx, hb, hml, hown, ht⟩, hK, hA⟩ := C
  intro H locs ls hP hD hS hl
  exact va_getN (D := D) hx hb ht hin hown hK hP q0 he hc k hk (va_Nw.use rfl hN) (fun _ h9 => by rw [h1] at h9; exact h9) hv d (g H locs ls hP hD hS hl)
theorem g_put (C : CX p s m args c cc nL own D cs A) {C9 : String} {T : u_T} {N ci index a : Nat} {fs : List Value} {v : Value} {ty : FieldType} (q0 k : Nat) (hin : ∀ w ∈ u_ws C9 T N, w ∈ TB) (ty0 : Nat → FieldType) (hty : ∀ k, k < N → parseFieldDescriptor (T k).2.2.1 = some (ty0 k)) (hnm : ∀ a, a < N → ∀ b, b < N → a ≠ b → (T a).2.1 ≠ (T b).2.1) (he : ws[q0]? = some (a, .inr (ci, fs))) (hc : CLS[ci]? = some (C9, T, N)) (hk : k < N) (hw : Cond.fieldLink own index C9 (T k).2.1 (T k).2.2.1 ∈ TB) (h1 : (T k).1 = C9) (hfin : (T k).2.2.2 = false) (hd : ty0 k = ty) (hn : narrow ty v = v) (hfit : fits ty v = true) (hl9 : k < fs.length) (hws : ws.set q0 (a, .inr (ci, fs.set k v)) = ws') (d : decode cc pc = .ok (.putfield index, 3)) (g : GO p l e R s m args below meth c cells slots Q A D nL (pc + 3) lv st ws') : GO p l e R s m args below meth c cells slots Q A D nL pc lv (v :: .ref a :: st) ws := by
  obtain ⟨⟨hx, hb, hml, hown, ht⟩, hK, hA⟩ := C
  intro H locs ls hP hD hS hl
  subst hws; subst hd
  exact va_put (D := D) (ty := ty0 k) hx hb ht hin ty0 hty hnm hown hK hP hD hS q0 he hc k hk (ht _ hw) (fun _ h9 => by rw [h1] at h9; exact h9) hfin (hty k hk) hn hfit hl9 d (fun H1 locs1 hP1 hD1 hS1 => g H1 locs1 ls hP1 hD1 hS1 hl)
theorem g_putF (C : CX p s m args c cc nL own D cs A) {C9 : String} {T : u_T} {N ci index a : Nat} {fs : List Value} {v : Value} {ty : FieldType} (hin2 : meth.name = "<init>") (q0 k : Nat) (hin : ∀ w ∈ u_ws C9 T N, w ∈ TB) (ty0 : Nat → FieldType) (hty : ∀ k, k < N → parseFieldDescriptor (T k).2.2.1 = some (ty0 k)) (hnm : ∀ a, a < N → ∀ b, b < N → a ≠ b → (T a).2.1 ≠ (T b).2.1) (he : ws[q0]? = some (a, .inr (ci, fs))) (hc : CLS[ci]? = some (C9, T, N)) (hk : k < N) (hw : Cond.fieldLink own index C9 (T k).2.1 (T k).2.2.1 ∈ TB) (h1 : (T k).1 = C9) (ho : C9 = own) (hfin : (T k).2.2.2 = true) (hd : ty0 k = ty) (hn : narrow ty v = v) (hfit : fits ty v = true) (hl9 : k < fs.length) (hws : ws.set q0 (a, .inr (ci, fs.set k v)) = ws') (d : decode cc pc = .ok (.putfield index, 3)) (g : GO p l e R s m args below meth c cells slots Q A D nL (pc + 3) lv st ws') : GO p l e R s m args below meth c cells slots Q A D nL pc lv (v :: .ref a :: st) ws := by
  obtain ⟨⟨hx, hb, hml, hown, ht⟩, hK, hA⟩ := C
  intro H locs ls hP hD hS hl
  subst hws; subst hd
  exact va_putF (D := D) (ty := ty0 k) hx hb ht hin ty0 hty hnm hown hK hP hD hS q0 he hc k hk (ht _ hw) (fun _ h9 => by rw [h1] at h9; exact h9) hfin hin2 (h1.trans ho) (hty k hk) hn hfit hl9 d (fun H1 locs1 hP1 hD1 hS1 => g H1 locs1 ls hP1 hD1 hS1 hl)
theorem g_iald (C : CX p s m args c cc nL own D cs A) {n a i : Nat} {f : Nat → Int32} (q0 : Nat) (ha : ws[q0]? = some (a, .inl (cs.1, n, .inl f))) (hi : i < n) (hn : n < 2 ^ 31) (d : decode cc pc = .ok (.iaload, 1)) (g : GO p l e R s m args below meth c cells slots Q A D nL (pc + 1) lv (.int (f i) :: st) ws) : GO p l e R s m args below meth c cells slots Q A D nL pc lv (.int (nI i) :: .ref a :: st) ws := by
  obtain ⟨⟨hx, hb, hml, hown, ht⟩, hK, hA⟩ := C
  intro H locs ls hP hD hS hl
  refine va_iald hx hb hK hP q0 0 ha rfl (vp_in_nI hi hn) d ?_
  rw [nI_clamp (Nat.lt_trans hi hn)]
  exact g H locs ls hP hD hS hl
theorem g_lald (C : CX p s m args c cc nL own D cs A) {n a i : Nat} {f : Nat → Int64} (q0 : Nat) (ha : ws[q0]? = some (a, .inl (cs.2.1, n, .inr (.inl f)))) (hi : i < n) (hn : n < 2 ^ 31) (d : decode cc pc = .ok (.laload, 1)) (g : GO p l e R s m args below meth c cells slots Q A D nL (pc + 1) lv (.long (f i) :: st) ws) : GO p l e R s m args below meth c cells slots Q A D nL pc lv (.int (nI i) :: .ref a :: st) ws := by
  obtain ⟨⟨hx, hb, hml, hown, ht⟩, hK, hA⟩ := C
  intro H locs ls hP hD hS hl
  refine va_lald hx hb hK hP q0 1 ha rfl (vp_in_nI hi hn) d ?_
  rw [nI_clamp (Nat.lt_trans hi hn)]
  exact g H locs ls hP hD hS hl
theorem g_zald (C : CX p s m args c cc nL own D cs A) {n a i : Nat} {f : Nat → Int32} (q0 : Nat) (ha : ws[q0]? = some (a, .inl (cs.2.2.1, n, .inl f))) (hi : i < n) (hn : n < 2 ^ 31) (d : decode cc pc = .ok (.baload, 1)) (g : GO p l e R s m args below meth c cells slots Q A D nL (pc + 1) lv (.int (f i) :: st) ws) : GO p l e R s m args below meth c cells slots Q A D nL pc lv (.int (nI i) :: .ref a :: st) ws := by
  obtain ⟨⟨hx, hb, hml, hown, ht⟩, hK, hA⟩ := C
  intro H locs ls hP hD hS hl
  refine va_zald hx hb hK hP q0 2 ha rfl (vp_in_nI hi hn) d ?_
  rw [nI_clamp (Nat.lt_trans hi hn)]
  exact g H locs ls hP hD hS hl
theorem g_iast (C : CX p s m args c cc nL own D cs A) {n a i : Nat} {f : Nat → Int32} {v : Int32} (q0 : Nat) (ha : ws[q0]? = some (a, .inl (cs.1, n, .inl f))) (hi : i < n) (hn : n < 2 ^ 31) (hws : ws.set q0 (a, .inl (cs.1, n, .inl (upd f i v))) = ws') (d : decode cc pc = .ok (.iastore, 1)) (g : GO p l e R s m args below meth c cells slots Q A D nL (pc + 1) lv st ws') : GO p l e R s m args below meth c cells slots Q A D nL pc lv (.int v :: .int (nI i) :: .ref a :: st) ws := by
  obtain ⟨⟨hx, hb, hml, hown, ht⟩, hK, hA⟩ := C
  intro H locs ls hP hD hS hl
  subst hws
  refine va_iast hx hb hK hP hD hS q0 0 ha rfl (vp_in_nI hi hn) d (fun H1 locs1 hP1 hD1 hS1 => ?_)
  rw [nI_clamp (Nat.lt_trans hi hn)] at hP1 hD1
  exact g H1 locs1 ls hP1 hD1 hS1 hl
theorem g_last (C : CX p s m args c cc nL own D cs A) {n a i : Nat} {f : Nat → Int64} {v : Int64} (q0 : Nat) (ha : ws[q0]? = some (a, .inl (cs.2.1, n, .inr (.inl f)))) (hi : i < n) (hn : n < 2 ^ 31) (hws : ws.set q0 (a, .inl (cs.2.1, n, .inr (.inl (vp_updL f i v)))) = ws') (d : decode cc pc = .ok (.lastore, 1)) (g : GO p l e R s m args below meth c cells slots Q A D nL (pc + 1) lv st ws') : GO p l e R s m args below meth c cells slots Q A D nL pc lv (.long v :: .int (nI i) :: .ref a :: st) ws := by
  obtain ⟨⟨hx, hb, hml, hown, ht⟩, hK, hA⟩ := C
  intro H locs ls hP hD hS hl
  subst hws
  refine va_last hx hb hK hP hD hS q0 1 ha rfl (vp_in_nI hi hn) d (fun H1 locs1 hP1 hD1 hS1 => ?_)
  rw [nI_clamp (Nat.lt_trans hi hn)] at hP1 hD1
  exact g H1 locs1 ls hP1 hD1 hS1 hl
theorem g_zast (C : CX p s m args c cc nL own D cs A) {n a i b : Nat} {f : Nat → Int32} (q0 : Nat) (ha : ws[q0]? = some (a, .inl (cs.2.2.1, n, .inl f))) (hi : i < n) (hn : n < 2 ^ 31) (hb9 : b < 2) (hws : ws.set q0 (a, .inl (cs.2.2.1, n, .inl (upd f i (nI b)))) = ws') (d : decode cc pc = .ok (.bastore, 1)) (g : GO p l e R s m args below meth c cells slots Q A D nL (pc + 1) lv st ws') : GO p l e R s m args below meth c cells slots Q A D nL pc lv (.int (nI b) :: .int (nI i) :: .ref a :: st) ws := by
  obtain ⟨⟨hx, hb, hml, hown, ht⟩, hK, hA⟩ := C
  intro H locs ls hP hD hS hl
  subst hws
  have hz : vp_nar .boolean (nI b) = nI b := by
    have : b = 0 ∨ b = 1 := by omega
    rcases this with rfl | rfl <;> rfl
  refine va_zast hx hb hK hP hD hS q0 2 ha rfl (vp_in_nI hi hn) d (fun H1 locs1 hP1 hD1 hS1 => ?_)
  rw [nI_clamp (Nat.lt_trans hi hn), hz] at hP1 hD1
  exact g H1 locs1 ls hP1 hD1 hS1 hl
theorem g_lv (ks : List Nat) (h : lv_pick lv ks = lv') (g : GO p l e R s m args below meth c cells slots Q A D nL pc lv' st ws) : GO p l e R s m args below meth c cells slots Q A D nL pc lv st ws := fun H locs ls hP hD hS hl => g H locs ls hP hD hS (lv_sub hl ks h)
theorem g_ws (h : ws = ws') (g : GO p l e R s m args below meth c cells slots Q A D nL pc lv st ws') : GO p l e R s m args below meth c cells slots Q A D nL pc lv st ws := by rw [h]; exact g
/-- an array's contents may be told otherwise where they are the same -/
theorem arrV_congr {cA : ClassId} {n : Nat} {f g : Nat → Value} (h : ∀ j, j < n → f j = g j) : arrV cA n f = arrV cA n g := by
  unfold arrV
  congr 1
  first | (congr 1; funext j; exact h j.val j.isLt) | (apply congrArg; funext j; exact h j.val j.isLt)
theorem g_ci {cA : ClassId} {n a : Nat} {f f2 : Nat → Int32} (q0 : Nat) (ha : ws[q0]? = some (a, .inl (cA, n, .inl f))) (h : ∀ j, j < n → f j = f2 j) (hws : ws.set q0 (a, .inl (cA, n, .inl f2)) = ws') (g : GO p l e R s m args below meth c cells slots Q A D nL pc lv st ws') : GO p l e R s m args below meth c cells slots Q A D nL pc lv st ws := by
  subst hws
  intro H locs ls hP hD hS hl
  refine g H locs ls ?_ (hD.set ha) hS hl
  refine hP.set hD ha ?_ (fun _ _ => rfl)
  have h9 := hP q0 _ ha
  show H[a]? = some (vp_cell cA (n, .inl f2))
  have e9 : vp_cell cA (n, .inl f2) = vp_cell cA (n, .inl f) := by
    rw [vp_cell_i, vp_cell_i]; exact arrV_congr (fun j hj => by rw [h j hj])
  rw [e9]
  exact h9
theorem g_cl {cA : ClassId} {n a : Nat} {f f2 : Nat → Int64} (q0 : Nat) (ha : ws[q0]? = some (a, .inl (cA, n, .inr (.inl f)))) (h : ∀ j, j < n → f j = f2 j) (hws : ws.set q0 (a, .inl (cA, n, .inr (.inl f2))) = ws') (g : GO p l e R s m args below meth c cells slots Q A D nL pc lv st ws') : GO p l e R s m args below meth c cells slots Q A D nL pc lv st ws := by
  subst hws
  intro H locs ls hP hD hS hl
  refine g H locs ls ?_ (hD.set ha) hS hl
  refine hP.set hD ha ?_ (fun _ _ => rfl)
  have h9 := hP q0 _ ha
  show H[a]? = some (vp_cell cA (n, .inr (.inl f2)))
  have e9 : vp_cell cA (n, .inr (.inl f2)) = vp_cell cA (n, .inr (.inl f)) := by
    rw [vp_cell_l, vp_cell_l]; exact arrV_congr (fun j hj => by rw [h j hj])
  rw [e9]
  exact h9
end GR2
