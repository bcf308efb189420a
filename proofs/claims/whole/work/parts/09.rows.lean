/-- the array classes: int, long, boolean, int arrays -/
abbrev tysG (cs : ClassId × ClassId × ClassId × ClassId) : List (ClassId × FieldType) := [(cs.1, .int), (cs.2.1, .long), (cs.2.2.1, .boolean), (cs.2.2.2, .array .int)]
/-- the tables' words on nest mates, which move with the warmth of the tables -/
def NWs (U : State) : Prop := va_Nw (.fieldLinkNest "BoundedCodes" 119 "BoundedCodes$WaitingBits" "size" "I" "BoundedCodes") U ∧ va_Nw (.fieldLinkNest "BoundedCodes" 78 "BoundedCodes$Table" "lengthOf" "[I" "BoundedCodes") U ∧ va_Nw (.fieldLinkNest "BoundedCodes" 93 "BoundedCodes$Table" "codeOf" "[I" "BoundedCodes") U ∧ va_Nw (.methodLinkNest "BoundedCodes" 9 y_K_init "BoundedCodes") U ∧ va_Nw (.methodLinkNest "BoundedCodes" 18 y_G_init "BoundedCodes") U
theorem NWs.warm {s U : State} (hW : s.WarmedH U.vm) (h : NWs s) : NWs U := ⟨va_Nw.warmF hW h.1, va_Nw.warmF hW h.2.1, va_Nw.warmF hW h.2.2.1, va_Nw.warmM hW h.2.2.2.1, va_Nw.warmM hW h.2.2.2.2⟩
theorem NWs.same {s U : State} (hv : s.vm = U.vm) (h : NWs s) : NWs U := ⟨va_tabs rfl hv h.1, va_tabs rfl hv h.2.1, va_tabs rfl hv h.2.2.1, va_tabs rfl hv h.2.2.2.1, va_tabs rfl hv h.2.2.2.2⟩
/-- what is fixed while a method is walked -/
def CX (p : Program) (s : State) (m : MethodId) (args : Array Value) (c : Code) (cc : ByteArray) (nL : Nat) (own : String) (D : va_G) (cs : ClassId × ClassId × ClassId × ClassId) (A : Nat → Prop) : Prop :=
  CallFix p m c cc nL s args TB own ∧ va_K D CLS (tysG cs) s ∧ (∀ q, s.heap.size ≤ q → A q) ∧ NWs s
/-- from pc, with these locals, this operand stack and this world, the walk comes to Q -/
def GO (p : Program) (l : Launch) (e : Env) (R : Room) (s : State) (m : MethodId) (args : Array Value) (below : List Frame) (meth : Method) (c : Code) (cells slots : Nat) (Q : State → Prop) (A : Nat → Prop) (D : va_G) (nL : Nat) (pc : Nat) (lv : List (Nat × Value)) (st : List Value) (ws : va_W) : Prop :=
  ∀ (H : Heap) (locs : List Loc) (ls : Array Slot), va_P D CLS ws H → va_D A ws → va_S A s.heap H locs → lv_has ls nL lv → W p l e R s m args below meth c H locs cells slots Q (F0 m pc ls st)
section GR
variable {p : Program} {l : Launch} {e : Env} {R : Room} {s : State} {m : MethodId} {args : Array Value} {below : List Frame} {meth : Method} {c : Code} {cells slots : Nat} {Q : State → Prop} {A : Nat → Prop} {D : va_G} {nL : Nat} {cc : ByteArray} {own : String} {cs : ClassId × ClassId × ClassId × ClassId}
variable {pc : Nat} {lv lv' : List (Nat × Value)} {st : List Value} {ws ws' : va_W}

theorem g_iload_n (C : CX p s m args c cc nL own D cs A) {k : Fin 4} {i : Nat} {x : Int32} (d : decode cc pc = .ok (.iload_n k, 1)) (j : Nat) (hi : (k : Nat) = i) (hj : lv[j]? = some (i, .int x)) (g : GO p l e R s m args below meth c cells slots Q A D nL (pc + 1) lv (.int x :: st) ws) : GO p l e R s m args below meth c cells slots Q A D nL pc lv st ws := by
  obtain ⟨⟨hx, hb, hml, hown, ht⟩, hK, hA⟩ := C
  intro H locs ls hP hD hS hl
  exact lv_iload_n hx hb d hi (lv_at hl j hj) (g H locs ls hP hD hS hl)
theorem g_iload (C : CX p s m args c cc nL own D cs A) {i : Nat} {x : Int32} (d : decode cc pc = .ok (.iload i, 2)) (j : Nat) (hj : lv[j]? = some (i, .int x)) (g : GO p l e R s m args below meth c cells slots Q A D nL (pc + 2) lv (.int x :: st) ws) : GO p l e R s m args below meth c cells slots Q A D nL pc lv st ws := by
  obtain ⟨⟨hx, hb, hml, hown, ht⟩, hK, hA⟩ := C
  intro H locs ls hP hD hS hl
  exact lv_iload hx hb d (lv_at hl j hj) (g H locs ls hP hD hS hl)
theorem g_lload_n (C : CX p s m args c cc nL own D cs A) {k : Fin 4} {i : Nat} {x : Int64} (d : decode cc pc = .ok (.lload_n k, 1)) (j : Nat) (hi : (k : Nat) = i) (hj : lv[j]? = some (i, .long x)) (g : GO p l e R s m args below meth c cells slots Q A D nL (pc + 1) lv (.long x :: st) ws) : GO p l e R s m args below meth c cells slots Q A D nL pc lv st ws := by
  obtain ⟨⟨hx, hb, hml, hown, ht⟩, hK, hA⟩ := C
  intro H locs ls hP hD hS hl
  exact lv_lload_n hx hb d hi (lv_at hl j hj) (g H locs ls hP hD hS hl)
theorem g_lload (C : CX p s m args c cc nL own D cs A) {i : Nat} {x : Int64} (d : decode cc pc = .ok (.lload i, 2)) (j : Nat) (hj : lv[j]? = some (i, .long x)) (g : GO p l e R s m args below meth c cells slots Q A D nL (pc + 2) lv (.long x :: st) ws) : GO p l e R s m args below meth c cells slots Q A D nL pc lv st ws := by
  obtain ⟨⟨hx, hb, hml, hown, ht⟩, hK, hA⟩ := C
  intro H locs ls hP hD hS hl
  exact lv_lload hx hb d (lv_at hl j hj) (g H locs ls hP hD hS hl)
theorem g_aload_n (C : CX p s m args c cc nL own D cs A) {k : Fin 4} {i : Nat} {x : Nat} (d : decode cc pc = .ok (.aload_n k, 1)) (j : Nat) (hi : (k : Nat) = i) (hj : lv[j]? = some (i, .ref x)) (g : GO p l e R s m args below meth c cells slots Q A D nL (pc + 1) lv (.ref x :: st) ws) : GO p l e R s m args below meth c cells slots Q A D nL pc lv st ws := by
  obtain ⟨⟨hx, hb, hml, hown, ht⟩, hK, hA⟩ := C
  intro H locs ls hP hD hS hl
  exact lv_aload_n hx hb d hi (lv_at hl j hj) (g H locs ls hP hD hS hl)
theorem g_aload (C : CX p s m args c cc nL own D cs A) {i : Nat} {x : Nat} (d : decode cc pc = .ok (.aload i, 2)) (j : Nat) (hj : lv[j]? = some (i, .ref x)) (g : GO p l e R s m args below meth c cells slots Q A D nL (pc + 2) lv (.ref x :: st) ws) : GO p l e R s m args below meth c cells slots Q A D nL pc lv st ws := by
  obtain ⟨⟨hx, hb, hml, hown, ht⟩, hK, hA⟩ := C
  intro H locs ls hP hD hS hl
  exact lv_aload hx hb d (lv_at hl j hj) (g H locs ls hP hD hS hl)
theorem g_istore_n (C : CX p s m args c cc nL own D cs A) {k : Fin 4} {i : Nat} {x : Int32} (d : decode cc pc = .ok (.istore_n k, 1)) (hi : (k : Nat) = i) (hn : i < nL) (hl9 : (i, Value.int x) :: lv.filter (fun q => !(q.1 == i) && !(q.1 + 1 == i && q.2.category == 2)) = lv') (g : GO p l e R s m args below meth c cells slots Q A D nL (pc + 1) lv' st ws) : GO p l e R s m args below meth c cells slots Q A D nL pc lv (.int x :: st) ws := by
  obtain ⟨⟨hx, hb, hml, hown, ht⟩, hK, hA⟩ := C
  intro H locs ls hP hD hS hl
  exact lv_istore_n hx hb d hi hl hn hl9 (fun ls hl => g H locs ls hP hD hS hl)
theorem g_istore (C : CX p s m args c cc nL own D cs A) {i : Nat} {x : Int32} (d : decode cc pc = .ok (.istore i, 2)) (hn : i < nL) (hl9 : (i, Value.int x) :: lv.filter (fun q => !(q.1 == i) && !(q.1 + 1 == i && q.2.category == 2)) = lv') (g : GO p l e R s m args below meth c cells slots Q A D nL (pc + 2) lv' st ws) : GO p l e R s m args below meth c cells slots Q A D nL pc lv (.int x :: st) ws := by
  obtain ⟨⟨hx, hb, hml, hown, ht⟩, hK, hA⟩ := C
  intro H locs ls hP hD hS hl
  exact lv_istore hx hb d hl hn hl9 (fun ls hl => g H locs ls hP hD hS hl)
theorem g_astore_n (C : CX p s m args c cc nL own D cs A) {k : Fin 4} {i : Nat} {x : Nat} (d : decode cc pc = .ok (.astore_n k, 1)) (hi : (k : Nat) = i) (hn : i < nL) (hl9 : (i, Value.ref x) :: lv.filter (fun q => !(q.1 == i) && !(q.1 + 1 == i && q.2.category == 2)) = lv') (g : GO p l e R s m args below meth c cells slots Q A D nL (pc + 1) lv' st ws) : GO p l e R s m args below meth c cells slots Q A D nL pc lv (.ref x :: st) ws := by
  obtain ⟨⟨hx, hb, hml, hown, ht⟩, hK, hA⟩ := C
  intro H locs ls hP hD hS hl
  exact lv_astore_n hx hb d hi hl hn hl9 (fun ls hl => g H locs ls hP hD hS hl)
theorem g_astore (C : CX p s m args c cc nL own D cs A) {i : Nat} {x : Nat} (d : decode cc pc = .ok (.astore i, 2)) (hn : i < nL) (hl9 : (i, Value.ref x) :: lv.filter (fun q => !(q.1 == i) && !(q.1 + 1 == i && q.2.category == 2)) = lv') (g : GO p l e R s m args below meth c cells slots Q A D nL (pc + 2) lv' st ws) : GO p l e R s m args below meth c cells slots Q A D nL pc lv (.ref x :: st) ws := by
  obtain ⟨⟨hx, hb, hml, hown, ht⟩, hK, hA⟩ := C
  intro H locs ls hP hD hS hl
  exact lv_astore hx hb d hl hn hl9 (fun ls hl => g H locs ls hP hD hS hl)
theorem g_lstore_n (C : CX p s m args c cc nL own D cs A) {k : Fin 4} {i : Nat} {x : Int64} (d : decode cc pc = .ok (.lstore_n k, 1)) (hi : (k : Nat) = i) (hn : i + 1 < nL) (hl9 : (i, Value.long x) :: lv.filter (fun q => !(q.1 == i) && (!(q.1 == i + 1) && !(q.1 + 1 == i && q.2.category == 2))) = lv') (g : GO p l e R s m args below meth c cells slots Q A D nL (pc + 1) lv' st ws) : GO p l e R s m args below meth c cells slots Q A D nL pc lv (.long x :: st) ws := by
  obtain ⟨⟨hx, hb, hml, hown, ht⟩, hK, hA⟩ := C
  intro H locs ls hP hD hS hl
  exact lv_lstore_n hx hb d hi hl hn hl9 (fun ls hl => g H locs ls hP hD hS hl)
theorem g_lstore (C : CX p s m args c cc nL own D cs A) {i : Nat} {x : Int64} (d : decode cc pc = .ok (.lstore i, 2)) (hn : i + 1 < nL) (hl9 : (i, Value.long x) :: lv.filter (fun q => !(q.1 == i) && (!(q.1 == i + 1) && !(q.1 + 1 == i && q.2.category == 2))) = lv') (g : GO p l e R s m args below meth c cells slots Q A D nL (pc + 2) lv' st ws) : GO p l e R s m args below meth c cells slots Q A D nL pc lv (.long x :: st) ws := by
  obtain ⟨⟨hx, hb, hml, hown, ht⟩, hK, hA⟩ := C
  intro H locs ls hP hD hS hl
  exact lv_lstore hx hb d hl hn hl9 (fun ls hl => g H locs ls hP hD hS hl)
theorem g_iinc (C : CX p s m args c cc nL own D cs A) {i k : Nat} {n : Int} {x v : Int32} (d : decode cc pc = .ok (.iinc i n, 3)) (hk : lv[k]? = some (i, .int x)) (hv : x + Int32.ofInt n = v) (hn : i < nL) (hl9 : (i, Value.int v) :: lv.filter (fun q => !(q.1 == i) && !(q.1 + 1 == i && q.2.category == 2)) = lv') (g : GO p l e R s m args below meth c cells slots Q A D nL (pc + 3) lv' st ws) : GO p l e R s m args below meth c cells slots Q A D nL pc lv st ws := by
  obtain ⟨⟨hx, hb, hml, hown, ht⟩, hK, hA⟩ := C
  intro H locs ls hP hD hS hl
  exact lv_iinc hx hb d hl hk hv hn hl9 (fun ls hl => g H locs ls hP hD hS hl)
theorem g_iconst (C : CX p s m args c cc nL own D cs A) {n : Int} {v : Int32} (d : decode cc pc = .ok (.iconst n, 1)) (hv : Int32.ofInt n = v) (g : GO p l e R s m args below meth c cells slots Q A D nL (pc + 1) lv (.int v :: st) ws) : GO p l e R s m args below meth c cells slots Q A D nL pc lv st ws := by
  obtain ⟨⟨hx, hb, hml, hown, ht⟩, hK, hA⟩ := C
  intro H locs ls hP hD hS hl
  exact lv_iconst hx hb d hv (g H locs ls hP hD hS hl)
theorem g_bipush (C : CX p s m args c cc nL own D cs A) {n : Int} {v : Int32} (d : decode cc pc = .ok (.bipush n, 2)) (hv : (Int8.ofInt n).toInt32 = v) (g : GO p l e R s m args below meth c cells slots Q A D nL (pc + 2) lv (.int v :: st) ws) : GO p l e R s m args below meth c cells slots Q A D nL pc lv st ws := by
  obtain ⟨⟨hx, hb, hml, hown, ht⟩, hK, hA⟩ := C
  intro H locs ls hP hD hS hl
  exact lv_bipush hx hb d hv (g H locs ls hP hD hS hl)
theorem g_sipush (C : CX p s m args c cc nL own D cs A) {n : Int} {v : Int32} (d : decode cc pc = .ok (.sipush n, 3)) (hv : (Int16.ofInt n).toInt32 = v) (g : GO p l e R s m args below meth c cells slots Q A D nL (pc + 3) lv (.int v :: st) ws) : GO p l e R s m args below meth c cells slots Q A D nL pc lv st ws := by
  obtain ⟨⟨hx, hb, hml, hown, ht⟩, hK, hA⟩ := C
  intro H locs ls hP hD hS hl
  exact lv_sipush hx hb d hv (g H locs ls hP hD hS hl)
theorem g_lconst (C : CX p s m args c cc nL own D cs A) {n : Fin 2} {v : Int64} (d : decode cc pc = .ok (.lconst n, 1)) (hv : Int64.ofNat (n : Nat) = v) (g : GO p l e R s m args below meth c cells slots Q A D nL (pc + 1) lv (.long v :: st) ws) : GO p l e R s m args below meth c cells slots Q A D nL pc lv st ws := by
  obtain ⟨⟨hx, hb, hml, hown, ht⟩, hK, hA⟩ := C
  intro H locs ls hP hD hS hl
  exact lv_lconst hx hb d hv (g H locs ls hP hD hS hl)
theorem g_ldc (C : CX p s m args c cc nL own D cs A) {i : Nat} {v : Int32} (hw : Cond.constant own i v ∈ TB) (d : decode cc pc = .ok (.ldc i, 2)) (g : GO p l e R s m args below meth c cells slots Q A D nL (pc + 2) lv (.int v :: st) ws) : GO p l e R s m args below meth c cells slots Q A D nL pc lv st ws := by
  obtain ⟨⟨hx, hb, hml, hown, ht⟩, hK, hA⟩ := C
  intro H locs ls hP hD hS hl
  exact lv_ldc hx hb hown (ht _ hw) d (g H locs ls hP hD hS hl)
theorem g_ldc2 (C : CX p s m args c cc nL own D cs A) {i : Nat} {v : Int64} (hw : Cond.constantLong own i v ∈ TB) (d : decode cc pc = .ok (.ldc2_w i, 3)) (g : GO p l e R s m args below meth c cells slots Q A D nL (pc + 3) lv (.long v :: st) ws) : GO p l e R s m args below meth c cells slots Q A D nL pc lv st ws := by
  obtain ⟨⟨hx, hb, hml, hown, ht⟩, hK, hA⟩ := C
  intro H locs ls hP hD hS hl
  exact lv_ldc2 hx hb hown (ht _ hw) d (g H locs ls hP hD hS hl)
theorem g_iadd (C : CX p s m args c cc nL own D cs A) {x y v : Int32} (d : decode cc pc = .ok (.iadd, 1)) (hv : x + y = v) (g : GO p l e R s m args below meth c cells slots Q A D nL (pc + 1) lv (.int v :: st) ws) : GO p l e R s m args below meth c cells slots Q A D nL pc lv (.int y :: .int x :: st) ws := by
  obtain ⟨⟨hx, hb, hml, hown, ht⟩, hK, hA⟩ := C
  intro H locs ls hP hD hS hl
  subst hv
  exact lv_iadd hx hb d (g H locs ls hP hD hS hl)
theorem g_isub (C : CX p s m args c cc nL own D cs A) {x y v : Int32} (d : decode cc pc = .ok (.isub, 1)) (hv : x - y = v) (g : GO p l e R s m args below meth c cells slots Q A D nL (pc + 1) lv (.int v :: st) ws) : GO p l e R s m args below meth c cells slots Q A D nL pc lv (.int y :: .int x :: st) ws := by
  obtain ⟨⟨hx, hb, hml, hown, ht⟩, hK, hA⟩ := C
  intro H locs ls hP hD hS hl
  subst hv
  exact lv_isub hx hb d (g H locs ls hP hD hS hl)
theorem g_imul (C : CX p s m args c cc nL own D cs A) {x y v : Int32} (d : decode cc pc = .ok (.imul, 1)) (hv : x * y = v) (g : GO p l e R s m args below meth c cells slots Q A D nL (pc + 1) lv (.int v :: st) ws) : GO p l e R s m args below meth c cells slots Q A D nL pc lv (.int y :: .int x :: st) ws := by
  obtain ⟨⟨hx, hb, hml, hown, ht⟩, hK, hA⟩ := C
  intro H locs ls hP hD hS hl
  subst hv
  exact lv_imul hx hb d (g H locs ls hP hD hS hl)
theorem g_iand (C : CX p s m args c cc nL own D cs A) {x y v : Int32} (d : decode cc pc = .ok (.iand, 1)) (hv : x &&& y = v) (g : GO p l e R s m args below meth c cells slots Q A D nL (pc + 1) lv (.int v :: st) ws) : GO p l e R s m args below meth c cells slots Q A D nL pc lv (.int y :: .int x :: st) ws := by
  obtain ⟨⟨hx, hb, hml, hown, ht⟩, hK, hA⟩ := C
  intro H locs ls hP hD hS hl
  subst hv
  exact lv_iand hx hb d (g H locs ls hP hD hS hl)
theorem g_ixor (C : CX p s m args c cc nL own D cs A) {x y v : Int32} (d : decode cc pc = .ok (.ixor, 1)) (hv : x ^^^ y = v) (g : GO p l e R s m args below meth c cells slots Q A D nL (pc + 1) lv (.int v :: st) ws) : GO p l e R s m args below meth c cells slots Q A D nL pc lv (.int y :: .int x :: st) ws := by
  obtain ⟨⟨hx, hb, hml, hown, ht⟩, hK, hA⟩ := C
  intro H locs ls hP hD hS hl
  subst hv
  exact lv_ixor hx hb d (g H locs ls hP hD hS hl)
theorem g_ishl (C : CX p s m args c cc nL own D cs A) {x y v : Int32} (d : decode cc pc = .ok (.ishl, 1)) (hv : x <<< (y &&& 31) = v) (g : GO p l e R s m args below meth c cells slots Q A D nL (pc + 1) lv (.int v :: st) ws) : GO p l e R s m args below meth c cells slots Q A D nL pc lv (.int y :: .int x :: st) ws := by
  obtain ⟨⟨hx, hb, hml, hown, ht⟩, hK, hA⟩ := C
  intro H locs ls hP hD hS hl
  subst hv
  exact lv_ishl hx hb d (g H locs ls hP hD hS hl)
theorem g_ishr (C : CX p s m args c cc nL own D cs A) {x y v : Int32} (d : decode cc pc = .ok (.ishr, 1)) (hv : x >>> (y &&& 31) = v) (g : GO p l e R s m args below meth c cells slots Q A D nL (pc + 1) lv (.int v :: st) ws) : GO p l e R s m args below meth c cells slots Q A D nL pc lv (.int y :: .int x :: st) ws := by
  obtain ⟨⟨hx, hb, hml, hown, ht⟩, hK, hA⟩ := C
  intro H locs ls hP hD hS hl
  subst hv
  exact lv_ishr hx hb d (g H locs ls hP hD hS hl)
theorem g_idiv (C : CX p s m args c cc nL own D cs A) {x y v : Int32} (d : decode cc pc = .ok (.idiv, 1)) (hne : ¬ y = 0) (hv : x / y = v) (g : GO p l e R s m args below meth c cells slots Q A D nL (pc + 1) lv (.int v :: st) ws) : GO p l e R s m args below meth c cells slots Q A D nL pc lv (.int y :: .int x :: st) ws := by
  obtain ⟨⟨hx, hb, hml, hown, ht⟩, hK, hA⟩ := C
  intro H locs ls hP hD hS hl
  subst hv
  exact lv_idiv hx hb d hne (g H locs ls hP hD hS hl)
theorem g_irem (C : CX p s m args c cc nL own D cs A) {x y v : Int32} (d : decode cc pc = .ok (.irem, 1)) (hne : ¬ y = 0) (hv : x - x / y * y = v) (g : GO p l e R s m args below meth c cells slots Q A D nL (pc + 1) lv (.int v :: st) ws) : GO p l e R s m args below meth c cells slots Q A D nL pc lv (.int y :: .int x :: st) ws := by
  obtain ⟨⟨hx, hb, hml, hown, ht⟩, hK, hA⟩ := C
  intro H locs ls hP hD hS hl
  subst hv
  exact lv_irem hx hb d hne (g H locs ls hP hD hS hl)
theorem g_ineg (C : CX p s m args c cc nL own D cs A) {x v : Int32} (d : decode cc pc = .ok (.ineg, 1)) (hv : -x = v) (g : GO p l e R s m args below meth c cells slots Q A D nL (pc + 1) lv (.int v :: st) ws) : GO p l e R s m args below meth c cells slots Q A D nL pc lv (.int x :: st) ws := by
  obtain ⟨⟨hx, hb, hml, hown, ht⟩, hK, hA⟩ := C
  intro H locs ls hP hD hS hl
  subst hv
  exact lv_ineg hx hb d (g H locs ls hP hD hS hl)
theorem g_ladd (C : CX p s m args c cc nL own D cs A) {x y v : Int64} (d : decode cc pc = .ok (.ladd, 1)) (hv : x + y = v) (g : GO p l e R s m args below meth c cells slots Q A D nL (pc + 1) lv (.long v :: st) ws) : GO p l e R s m args below meth c cells slots Q A D nL pc lv (.long y :: .long x :: st) ws := by
  obtain ⟨⟨hx, hb, hml, hown, ht⟩, hK, hA⟩ := C
  intro H locs ls hP hD hS hl
  subst hv
  exact lv_ladd hx hb d (g H locs ls hP hD hS hl)
theorem g_lsub (C : CX p s m args c cc nL own D cs A) {x y v : Int64} (d : decode cc pc = .ok (.lsub, 1)) (hv : x - y = v) (g : GO p l e R s m args below meth c cells slots Q A D nL (pc + 1) lv (.long v :: st) ws) : GO p l e R s m args below meth c cells slots Q A D nL pc lv (.long y :: .long x :: st) ws := by
  obtain ⟨⟨hx, hb, hml, hown, ht⟩, hK, hA⟩ := C
  intro H locs ls hP hD hS hl
  subst hv
  exact lv_lsub hx hb d (g H locs ls hP hD hS hl)
theorem g_lmul (C : CX p s m args c cc nL own D cs A) {x y v : Int64} (d : decode cc pc = .ok (.lmul, 1)) (hv : x * y = v) (g : GO p l e R s m args below meth c cells slots Q A D nL (pc + 1) lv (.long v :: st) ws) : GO p l e R s m args below meth c cells slots Q A D nL pc lv (.long y :: .long x :: st) ws := by
  obtain ⟨⟨hx, hb, hml, hown, ht⟩, hK, hA⟩ := C
  intro H locs ls hP hD hS hl
  subst hv
  exact lv_lmul hx hb d (g H locs ls hP hD hS hl)
theorem g_land (C : CX p s m args c cc nL own D cs A) {x y v : Int64} (d : decode cc pc = .ok (.land, 1)) (hv : x &&& y = v) (g : GO p l e R s m args below meth c cells slots Q A D nL (pc + 1) lv (.long v :: st) ws) : GO p l e R s m args below meth c cells slots Q A D nL pc lv (.long y :: .long x :: st) ws := by
  obtain ⟨⟨hx, hb, hml, hown, ht⟩, hK, hA⟩ := C
  intro H locs ls hP hD hS hl
  subst hv
  exact lv_land hx hb d (g H locs ls hP hD hS hl)
theorem g_lor (C : CX p s m args c cc nL own D cs A) {x y v : Int64} (d : decode cc pc = .ok (.lor, 1)) (hv : x ||| y = v) (g : GO p l e R s m args below meth c cells slots Q A D nL (pc + 1) lv (.long v :: st) ws) : GO p l e R s m args below meth c cells slots Q A D nL pc lv (.long y :: .long x :: st) ws := by
  obtain ⟨⟨hx, hb, hml, hown, ht⟩, hK, hA⟩ := C
  intro H locs ls hP hD hS hl
  subst hv
  exact lv_lor hx hb d (g H locs ls hP hD hS hl)
theorem g_lshl (C : CX p s m args c cc nL own D cs A) {x v : Int64} {y : Int32} (d : decode cc pc = .ok (.lshl, 1)) (hv : x <<< (y.toInt64 &&& 63) = v) (g : GO p l e R s m args below meth c cells slots Q A D nL (pc + 1) lv (.long v :: st) ws) : GO p l e R s m args below meth c cells slots Q A D nL pc lv (.int y :: .long x :: st) ws := by
  obtain ⟨⟨hx, hb, hml, hown, ht⟩, hK, hA⟩ := C
  intro H locs ls hP hD hS hl
  exact lv_lshl hx hb d hv (g H locs ls hP hD hS hl)
theorem g_i2l (C : CX p s m args c cc nL own D cs A) {x : Int32} {v : Int64} (d : decode cc pc = .ok (.i2l, 1)) (hv : x.toInt64 = v) (g : GO p l e R s m args below meth c cells slots Q A D nL (pc + 1) lv (.long v :: st) ws) : GO p l e R s m args below meth c cells slots Q A D nL pc lv (.int x :: st) ws := by
  obtain ⟨⟨hx, hb, hml, hown, ht⟩, hK, hA⟩ := C
  intro H locs ls hP hD hS hl
  exact lv_i2l hx hb d hv (g H locs ls hP hD hS hl)
theorem g_l2i (C : CX p s m args c cc nL own D cs A) {x : Int64} {v : Int32} (d : decode cc pc = .ok (.l2i, 1)) (hv : x.toInt32 = v) (g : GO p l e R s m args below meth c cells slots Q A D nL (pc + 1) lv (.int v :: st) ws) : GO p l e R s m args below meth c cells slots Q A D nL pc lv (.long x :: st) ws := by
  obtain ⟨⟨hx, hb, hml, hown, ht⟩, hK, hA⟩ := C
  intro H locs ls hP hD hS hl
  exact lv_l2i hx hb d hv (g H locs ls hP hD hS hl)
theorem g_dup (C : CX p s m args c cc nL own D cs A) {v : Value} (d : decode cc pc = .ok (.dup, 1)) (hc : v.category = 1) (g : GO p l e R s m args below meth c cells slots Q A D nL (pc + 1) lv (v :: v :: st) ws) : GO p l e R s m args below meth c cells slots Q A D nL pc lv (v :: st) ws := by
  obtain ⟨⟨hx, hb, hml, hown, ht⟩, hK, hA⟩ := C
  intro H locs ls hP hD hS hl
  exact lv_dup hx hb d hc (g H locs ls hP hD hS hl)
theorem g_dup2 (C : CX p s m args c cc nL own D cs A) {v w : Value} (d : decode cc pc = .ok (.dup2, 1)) (hc : v.category = 1) (hw : w.category = 1) (g : GO p l e R s m args below meth c cells slots Q A D nL (pc + 1) lv (v :: w :: v :: w :: st) ws) : GO p l e R s m args below meth c cells slots Q A D nL pc lv (v :: w :: st) ws := by
  obtain ⟨⟨hx, hb, hml, hown, ht⟩, hK, hA⟩ := C
  intro H locs ls hP hD hS hl
  exact lv_dup2_11 hx hb d hc hw (g H locs ls hP hD hS hl)
theorem g_goto (C : CX p s m args c cc nL own D cs A) {off : Int} (tgt : Nat) (d : decode cc pc = .ok (.goto off, 3)) (ht9 : (pc : Int) + off = (tgt : Int)) (g : GO p l e R s m args below meth c cells slots Q A D nL tgt lv st ws) : GO p l e R s m args below meth c cells slots Q A D nL pc lv st ws := by
  obtain ⟨⟨hx, hb, hml, hown, ht⟩, hK, hA⟩ := C
  intro H locs ls hP hD hS hl
  exact lv_goto hx hb d ht9 (g H locs ls hP hD hS hl)
theorem g_icmp_eq (C : CX p s m args c cc nL own D cs A) {x y : Int32} {off : Int} (tgt : Nat) (d : decode cc pc = .ok (.if_icmp .eq off, 3)) (ht9 : (pc : Int) + off = (tgt : Int)) (gt : x = y → GO p l e R s m args below meth c cells slots Q A D nL tgt lv st ws) (gf : ¬ (x = y) → GO p l e R s m args below meth c cells slots Q A D nL (pc + 3) lv st ws) : GO p l e R s m args below meth c cells slots Q A D nL pc lv (.int y :: .int x :: st) ws := by
  obtain ⟨⟨hx, hb, hml, hown, ht⟩, hK, hA⟩ := C
  intro H locs ls hP hD hS hl
  refine lv_icmp_eq hx hb d ht9 (fun h => ?_) (fun h => ?_)
  · exact gt (by simpa using h) H locs ls hP hD hS hl
  · exact gf (by simpa using h) H locs ls hP hD hS hl
theorem g_if_eq (C : CX p s m args c cc nL own D cs A) {x : Int32} {off : Int} (tgt : Nat) (d : decode cc pc = .ok (.ifCond .eq off, 3)) (ht9 : (pc : Int) + off = (tgt : Int)) (gt : x = 0 → GO p l e R s m args below meth c cells slots Q A D nL tgt lv st ws) (gf : ¬ (x = 0) → GO p l e R s m args below meth c cells slots Q A D nL (pc + 3) lv st ws) : GO p l e R s m args below meth c cells slots Q A D nL pc lv (.int x :: st) ws := by
  obtain ⟨⟨hx, hb, hml, hown, ht⟩, hK, hA⟩ := C
  intro H locs ls hP hD hS hl
  refine lv_if_eq hx hb d ht9 (fun h => ?_) (fun h => ?_)
  · exact gt (by simpa using h) H locs ls hP hD hS hl
  · exact gf (by simpa using h) H locs ls hP hD hS hl
theorem g_icmp_ne (C : CX p s m args c cc nL own D cs A) {x y : Int32} {off : Int} (tgt : Nat) (d : decode cc pc = .ok (.if_icmp .ne off, 3)) (ht9 : (pc : Int) + off = (tgt : Int)) (gt : ¬ x = y → GO p l e R s m args below meth c cells slots Q A D nL tgt lv st ws) (gf : ¬ (¬ x = y) → GO p l e R s m args below meth c cells slots Q A D nL (pc + 3) lv st ws) : GO p l e R s m args below meth c cells slots Q A D nL pc lv (.int y :: .int x :: st) ws := by
  obtain ⟨⟨hx, hb, hml, hown, ht⟩, hK, hA⟩ := C
  intro H locs ls hP hD hS hl
  refine lv_icmp_ne hx hb d ht9 (fun h => ?_) (fun h => ?_)
  · exact gt (by simpa using h) H locs ls hP hD hS hl
  · exact gf (by simpa using h) H locs ls hP hD hS hl
theorem g_if_ne (C : CX p s m args c cc nL own D cs A) {x : Int32} {off : Int} (tgt : Nat) (d : decode cc pc = .ok (.ifCond .ne off, 3)) (ht9 : (pc : Int) + off = (tgt : Int)) (gt : ¬ x = 0 → GO p l e R s m args below meth c cells slots Q A D nL tgt lv st ws) (gf : ¬ (¬ x = 0) → GO p l e R s m args below meth c cells slots Q A D nL (pc + 3) lv st ws) : GO p l e R s m args below meth c cells slots Q A D nL pc lv (.int x :: st) ws := by
  obtain ⟨⟨hx, hb, hml, hown, ht⟩, hK, hA⟩ := C
  intro H locs ls hP hD hS hl
  refine lv_if_ne hx hb d ht9 (fun h => ?_) (fun h => ?_)
  · exact gt (by simpa using h) H locs ls hP hD hS hl
  · exact gf (by simpa using h) H locs ls hP hD hS hl
theorem g_icmp_lt (C : CX p s m args c cc nL own D cs A) {x y : Int32} {off : Int} (tgt : Nat) (d : decode cc pc = .ok (.if_icmp .lt off, 3)) (ht9 : (pc : Int) + off = (tgt : Int)) (gt : x < y → GO p l e R s m args below meth c cells slots Q A D nL tgt lv st ws) (gf : ¬ (x < y) → GO p l e R s m args below meth c cells slots Q A D nL (pc + 3) lv st ws) : GO p l e R s m args below meth c cells slots Q A D nL pc lv (.int y :: .int x :: st) ws := by
  obtain ⟨⟨hx, hb, hml, hown, ht⟩, hK, hA⟩ := C
  intro H locs ls hP hD hS hl
  refine lv_icmp_lt hx hb d ht9 (fun h => ?_) (fun h => ?_)
  · exact gt (by simpa using h) H locs ls hP hD hS hl
  · exact gf (by simpa using h) H locs ls hP hD hS hl
theorem g_if_lt (C : CX p s m args c cc nL own D cs A) {x : Int32} {off : Int} (tgt : Nat) (d : decode cc pc = .ok (.ifCond .lt off, 3)) (ht9 : (pc : Int) + off = (tgt : Int)) (gt : x < 0 → GO p l e R s m args below meth c cells slots Q A D nL tgt lv st ws) (gf : ¬ (x < 0) → GO p l e R s m args below meth c cells slots Q A D nL (pc + 3) lv st ws) : GO p l e R s m args below meth c cells slots Q A D nL pc lv (.int x :: st) ws := by
  obtain ⟨⟨hx, hb, hml, hown, ht⟩, hK, hA⟩ := C
  intro H locs ls hP hD hS hl
  refine lv_if_lt hx hb d ht9 (fun h => ?_) (fun h => ?_)
  · exact gt (by simpa using h) H locs ls hP hD hS hl
  · exact gf (by simpa using h) H locs ls hP hD hS hl
theorem g_icmp_ge (C : CX p s m args c cc nL own D cs A) {x y : Int32} {off : Int} (tgt : Nat) (d : decode cc pc = .ok (.if_icmp .ge off, 3)) (ht9 : (pc : Int) + off = (tgt : Int)) (gt : y ≤ x → GO p l e R s m args below meth c cells slots Q A D nL tgt lv st ws) (gf : ¬ (y ≤ x) → GO p l e R s m args below meth c cells slots Q A D nL (pc + 3) lv st ws) : GO p l e R s m args below meth c cells slots Q A D nL pc lv (.int y :: .int x :: st) ws := by
  obtain ⟨⟨hx, hb, hml, hown, ht⟩, hK, hA⟩ := C
  intro H locs ls hP hD hS hl
  refine lv_icmp_ge hx hb d ht9 (fun h => ?_) (fun h => ?_)
  · exact gt (by simpa using h) H locs ls hP hD hS hl
  · exact gf (by simpa using h) H locs ls hP hD hS hl
theorem g_if_ge (C : CX p s m args c cc nL own D cs A) {x : Int32} {off : Int} (tgt : Nat) (d : decode cc pc = .ok (.ifCond .ge off, 3)) (ht9 : (pc : Int) + off = (tgt : Int)) (gt : 0 ≤ x → GO p l e R s m args below meth c cells slots Q A D nL tgt lv st ws) (gf : ¬ (0 ≤ x) → GO p l e R s m args below meth c cells slots Q A D nL (pc + 3) lv st ws) : GO p l e R s m args below meth c cells slots Q A D nL pc lv (.int x :: st) ws := by
  obtain ⟨⟨hx, hb, hml, hown, ht⟩, hK, hA⟩ := C
  intro H locs ls hP hD hS hl
  refine lv_if_ge hx hb d ht9 (fun h => ?_) (fun h => ?_)
  · exact gt (by simpa using h) H locs ls hP hD hS hl
  · exact gf (by simpa using h) H locs ls hP hD hS hl
theorem g_icmp_gt (C : CX p s m args c cc nL own D cs A) {x y : Int32} {off : Int} (tgt : Nat) (d : decode cc pc = .ok (.if_icmp .gt off, 3)) (ht9 : (pc : Int) + off = (tgt : Int)) (gt : y < x → GO p l e R s m args below meth c cells slots Q A D nL tgt lv st ws) (gf : ¬ (y < x) → GO p l e R s m args below meth c cells slots Q A D nL (pc + 3) lv st ws) : GO p l e R s m args below meth c cells slots Q A D nL pc lv (.int y :: .int x :: st) ws := by
  obtain ⟨⟨hx, hb, hml, hown, ht⟩, hK, hA⟩ := C
  intro H locs ls hP hD hS hl
  refine lv_icmp_gt hx hb d ht9 (fun h => ?_) (fun h => ?_)
  · exact gt (by simpa using h) H locs ls hP hD hS hl
  · exact gf (by simpa using h) H locs ls hP hD hS hl
theorem g_if_gt (C : CX p s m args c cc nL own D cs A) {x : Int32} {off : Int} (tgt : Nat) (d : decode cc pc = .ok (.ifCond .gt off, 3)) (ht9 : (pc : Int) + off = (tgt : Int)) (gt : 0 < x → GO p l e R s m args below meth c cells slots Q A D nL tgt lv st ws) (gf : ¬ (0 < x) → GO p l e R s m args below meth c cells slots Q A D nL (pc + 3) lv st ws) : GO p l e R s m args below meth c cells slots Q A D nL pc lv (.int x :: st) ws := by
  obtain ⟨⟨hx, hb, hml, hown, ht⟩, hK, hA⟩ := C
  intro H locs ls hP hD hS hl
  refine lv_if_gt hx hb d ht9 (fun h => ?_) (fun h => ?_)
  · exact gt (by simpa using h) H locs ls hP hD hS hl
  · exact gf (by simpa using h) H locs ls hP hD hS hl
theorem g_icmp_le (C : CX p s m args c cc nL own D cs A) {x y : Int32} {off : Int} (tgt : Nat) (d : decode cc pc = .ok (.if_icmp .le off, 3)) (ht9 : (pc : Int) + off = (tgt : Int)) (gt : x ≤ y → GO p l e R s m args below meth c cells slots Q A D nL tgt lv st ws) (gf : ¬ (x ≤ y) → GO p l e R s m args below meth c cells slots Q A D nL (pc + 3) lv st ws) : GO p l e R s m args below meth c cells slots Q A D nL pc lv (.int y :: .int x :: st) ws := by
  obtain ⟨⟨hx, hb, hml, hown, ht⟩, hK, hA⟩ := C
  intro H locs ls hP hD hS hl
  refine lv_icmp_le hx hb d ht9 (fun h => ?_) (fun h => ?_)
  · exact gt (by simpa using h) H locs ls hP hD hS hl
  · exact gf (by simpa using h) H locs ls hP hD hS hl
theorem g_if_le (C : CX p s m args c cc nL own D cs A) {x : Int32} {off : Int} (tgt : Nat) (d : decode cc pc = .ok (.ifCond .le off, 3)) (ht9 : (pc : Int) + off = (tgt : Int)) (gt : x ≤ 0 → GO p l e R s m args below meth c cells slots Q A D nL tgt lv st ws) (gf : ¬ (x ≤ 0) → GO p l e R s m args below meth c cells slots Q A D nL (pc + 3) lv st ws) : GO p l e R s m args below meth c cells slots Q A D nL pc lv (.int x :: st) ws := by
  obtain ⟨⟨hx, hb, hml, hown, ht⟩, hK, hA⟩ := C
  intro H locs ls hP hD hS hl
  refine lv_if_le hx hb d ht9 (fun h => ?_) (fun h => ?_)
  · exact gt (by simpa using h) H locs ls hP hD hS hl
  · exact gf (by simpa using h) H locs ls hP hD hS hl
end GR
